/-! PointReports$Station hears -/
def mkF (rd : List Nat) : Nat → Nat
  | 0 => 0
  | k + 1 => mkF rd k ||| 2 ^ rd.getD (3 * k + 3) 0
theorem mk_fs (rd : List Nat) (v k : Nat) : (mkF rd k).testBit v = decide (¬ fsF rd v k = 1) := by
  induction k with
  | zero => rw [mkF, fsF, Nat.zero_testBit]; rfl
  | succ k ih =>
    rw [mkF, fsF, Nat.testBit_or, ih, Nat.testBit_two_pow]
    generalize rd.getD (3 * k + 3) 0 = w
    by_cases h1 : fsF rd v k = 1 <;> by_cases h2 : w = v <;> simp [h1, h2]
theorem mk_lt (rd : List Nat) (N : Nat) (hv : ∀ k, k < N → rd.getD (3 * k + 3) 0 ≤ 4) : ∀ k, k ≤ N → mkF rd k < 32 := by
  intro k
  induction k with
  | zero => intro _; show 0 < 32; decide
  | succ k ih =>
    intro hk
    rw [mkF]
    refine Nat.or_lt_two_pow (n := 5) (ih (by omega)) ?_
    have := hv k (by omega)
    exact Nat.lt_of_le_of_lt (Nat.pow_le_pow_right (by decide) this) (by decide)
theorem mk_test : ∀ m, m < 32 → ∀ v, v < 5 → ((nI m &&& (nI 1 <<< (nI v &&& 31)) = nI 0) ↔ m.testBit v = false) := by decide +kernel
theorem mk_or : ∀ m, m < 32 → ∀ v, v < 5 → (nI m ||| (nI 1 <<< (nI v &&& 31)) = nI (m ||| 2 ^ v)) := by decide +kernel
theorem mk_in {m v : Nat} (h : m.testBit v = true) : m ||| 2 ^ v = m := by
  apply Nat.eq_of_testBit_eq
  intro i
  rw [Nat.testBit_or, Nat.testBit_two_pow]
  by_cases hi : v = i
  · subst hi; rw [h]; rfl
  · simp [hi]
theorem mk_2 : ∀ m, m < 32 → ((nI m &&& nI 2 = nI 0) ↔ m.testBit 1 = false) := by decide +kernel
theorem rq_at {rd : List Nat} {N : Nat} (h : rqF rd N = 1) {k : Nat} (hk : k < N) : 1 ≤ rd.getD (3 * k + 3) 0 ∧ rd.getD (3 * k + 3) 0 ≤ 4 := by
  have h1 : rqF rd (k + 1) = 1 := Classical.byContradiction (fun z => rqF_dead z N (by omega) h)
  rw [rqF] at h1
  by_cases hc : rqF rd k = 1 ∧ rd.getD (3 * k + 2) 0 = 60 ∧ 1 ≤ rd.getD (3 * k + 3) 0 ∧ rd.getD (3 * k + 3) 0 ≤ 4 ∧ rd.getD (3 * k + 4) 0 = 6
  · exact ⟨hc.2.2.1, hc.2.2.2.1⟩
  · rw [if_neg hc] at h1; exact absurd h1 (by decide)
theorem rs_head (E : evL) (vals : Nat → Int32) (rd : List Nat) (h : List Int32) (k : Nat) : (rsS E vals rd h k).1 = h ++ (rsS E vals rd [] k).1 ∧ (rsS E vals rd h k).2 = (rsS E vals rd [] k).2 := by
  induction k with
  | zero => exact ⟨(List.append_nil h).symm, rfl⟩
  | succ k ih =>
    obtain ⟨i1, i2⟩ := ih
    rw [rsS, rsS]
    by_cases hf : fsF rd (rd.getD (3 * k + 3) 0) k = 1
    · rw [if_pos hf, if_pos hf]
      by_cases hv : rd.getD (3 * k + 3) 0 = 1
      · rw [if_pos hv, if_pos hv]
        dsimp only
        rw [i1, i2, List.append_assoc]
        exact ⟨rfl, rfl⟩
      · rw [if_neg hv, if_neg hv]
        dsimp only
        rw [i1, i2, List.append_assoc]
        exact ⟨rfl, rfl⟩
    · rw [if_neg hf, if_neg hf]
      exact ⟨i1, i2⟩
theorem rs_wt0 (E : evL) (vals : Nat → Int32) (rd : List Nat) (h : List Int32) (c k : Nat) (hc : 1 ≤ c) (hN : ∀ j, j < k → 1 ≤ rd.getD (3 * j + 3) 0) (hf : fsF rd (c + 1) k = 1) : (rsS E vals rd h k).2.2.2 c = 0 := by
  induction k with
  | zero => rfl
  | succ k ih =>
    rw [fsF] at hf
    by_cases hp : fsF rd (c + 1) k = 1 ∧ rd.getD (3 * k + 3) 0 ≠ c + 1
    · have ih := ih (fun j hj => hN j (by omega)) hp.1
      have h1 := hN k (by omega)
      rw [rsS]
      split
      · split
        · exact ih
        · dsimp only
          unfold va_up
          rw [if_neg (by have := hp.2; omega)]
          exact ih
      · exact ih
    · rw [if_neg hp] at hf; exact absurd hf (by decide)
theorem rs_flag (E : evL) (vals : Nat → Int32) (rd : List Nat) (h : List Int32) (k : Nat) : (rsS E vals rd h k).2.2.1 = (if fsF rd 1 k = 1 then 0 else 1) := by
  induction k with
  | zero => rfl
  | succ k ih =>
    have s : fsF rd 1 (k + 1) = if fsF rd 1 k = 1 ∧ rd.getD (3 * k + 3) 0 ≠ 1 then 1 else 0 := rfl
    rw [rsS, s]
    generalize hv : rd.getD (3 * k + 3) 0 = v
    by_cases h1 : v = 1
    · subst h1
      rw [if_neg (show ¬ (fsF rd 1 k = 1 ∧ (1 : Nat) ≠ 1) from fun z => z.2 rfl), if_neg (show ¬ ((0 : Nat) = 1) by decide)]
      by_cases hf : fsF rd 1 k = 1
      · rw [if_pos hf, if_pos rfl]
      · rw [if_neg hf, ih, if_neg hf]
    · by_cases hf : fsF rd 1 k = 1
      · rw [if_pos (show fsF rd 1 k = 1 ∧ v ≠ 1 from ⟨hf, h1⟩), if_pos rfl]
        rw [if_pos hf] at ih
        split
        · exact ih
        · exact ih
      · rw [if_neg (show ¬ (fsF rd 1 k = 1 ∧ v ≠ 1) from fun z => hf z.1), if_neg (show ¬ ((0 : Nat) = 1) by decide)]
        rw [if_neg hf] at ih
        split
        · exact ih
        · exact ih
theorem fs_01 (rd : List Nat) (v k : Nat) : fsF rd v k = 0 ∨ fsF rd v k = 1 := by have := fsF_le rd v k; omega
theorem rs_room (E : evL) (vals : Nat → Int32) (rd : List Nat) (h0 : List Int32) (h4 : h0.length = 4) (N : Nat) (hN : ∀ j, j < N → 1 ≤ rd.getD (3 * j + 3) 0 ∧ rd.getD (3 * j + 3) 0 ≤ 4) : ∀ k, k ≤ N → (rsS E vals rd h0 k).1.length + 7 * (rsS E vals rd h0 k).2.1 + 33 * fsF rd 1 k + 3 * (fsF rd 2 k + fsF rd 3 k + fsF rd 4 k) ≤ 158 := by
  intro k
  induction k with
  | zero => intro _; show h0.length + 7 * 16 + 33 * 1 + 3 * (1 + 1 + 1) ≤ 158; omega
  | succ k ih =>
    intro hk
    have ih := ih (by omega)
    obtain ⟨v1, v4⟩ := hN k (by omega)
    have g1 := fs_01 rd 1 k; have g2 := fs_01 rd 2 k; have g3 := fs_01 rd 3 k; have g4 := fs_01 rd 4 k
    rw [rsS]
    generalize hv : rd.getD (3 * k + 3) 0 = v at *
    have s : ∀ x, fsF rd x (k + 1) = if fsF rd x k = 1 ∧ v ≠ x then 1 else 0 := fun x => by rw [fsF, hv]
    rw [s 1, s 2, s 3, s 4]
    have mono : ∀ x, (if fsF rd x k = 1 ∧ v ≠ x then 1 else 0) ≤ fsF rd x k := fun x => by split <;> omega
    by_cases hf : fsF rd v k = 1
    · rw [if_pos hf]
      have hz : (if fsF rd v k = 1 ∧ v ≠ v then 1 else 0) = 0 := if_neg (fun z => z.2 rfl)
      have m1 := mono 1; have m2 := mono 2; have m3 := mono 3; have m4 := mono 4
      by_cases h1 : v = 1
      · rw [if_pos h1]
        dsimp only
        rw [List.length_append, ptG_len]
        subst h1
        omega
      · rw [if_neg h1]
        dsimp only
        have l1 := grS_len (E (v - 1)) (v - 1) (mnN (E (v - 1)).length (rsS E vals rd h0 k).2.1)
        have l2 : mnN (E (v - 1)).length (rsS E vals rd h0 k).2.1 ≤ (rsS E vals rd h0 k).2.1 := by unfold mnN; split <;> omega
        rw [List.length_append]
        rcases (show v = 2 ∨ v = 3 ∨ v = 4 by omega) with rfl | rfl | rfl <;> omega
    · rw [if_neg hf]
      have m1 := mono 1; have m2 := mono 2; have m3 := mono 3; have m4 := mono 4
      omega
theorem sq32 (s : Nat) (hs : s < 16) : nI (192 + 32 + 0 + s) &&& 255 = ((nI 192 + nI s) &&& 255) + nI 32 := by
  have e1 : nI 192 + nI s = nI (192 + s) := nI_add _ _
  have e2 : nI (192 + s) &&& nI 255 = nI (192 + s) := isB_255 ⟨_, by omega, rfl⟩
  have e3 : nI (192 + 32 + 0 + s) &&& nI 255 = nI (192 + 32 + 0 + s) := isB_255 ⟨_, by omega, rfl⟩
  show nI (192 + 32 + 0 + s) &&& nI 255 = (nI 192 + nI s &&& nI 255) + nI 32
  rw [e3, e1, e2, nI_add]; exact congrArg nI (by omega)
theorem rs_fin (E : evL) (vals : Nat → Int32) (rd : List Nat) (lost lf : Nat) (hlf : lf = (rsE E vals rd).2.1) (h16 : lf ≤ 16) (hl : lost ≤ 1) : (((((rsS E vals rd (bN (nI 0) 4) (rsN rd)).1.set 0 (nI (192 + (if 0 < 16 - lf then 32 else 0) + (if 129 = 130 then 16 else 0) + (rd.getD 0 0 &&& 15)) &&& 255)).set 1 (nI 129 &&& 255)).set 2 (moK E (rsE E vals rd).2.2.2 3 &&& 255)).set 3 (nI (if lost = 0 then 0 else 8) &&& 255)) = rsO E vals rd (nI lost) := by
  rw [moK_255, lost_255 lost hl, rsO, ← hlf]
  have hs : (rd.getD 0 0 &&& 15) < 16 := Nat.lt_of_le_of_lt Nat.and_le_right (by decide)
  have h1 := (rs_head E vals rd (bN (nI 0) 4) (rsN rd)).1
  have h2 := (rs_head E vals rd (rsH (rd.getD 0 0 &&& 15)) (rsN rd)).1
  rw [h1, show (rsE E vals rd).1 = _ from h2, if_neg (show ¬ 129 = 130 by decide)]
  show _ = (if lf < 16 then _ else _)
  by_cases hc : lf < 16
  · rw [if_pos (show 0 < 16 - lf by omega), if_pos hc, sq32 _ hs]
    rfl
  · rw [if_neg (show ¬ 0 < 16 - lf by omega), if_neg hc]
    rw [show nI (192 + 0 + 0 + (rd.getD 0 0 &&& 15)) = nI 192 + nI (rd.getD 0 0 &&& 15) by rw [nI_add]]
    rfl
abbrev isCf (rd : List Nat) : Prop := rd.length = 2 ∧ (rd.getD 0 0 &&& 224) = 192 ∧ rd.getD 1 0 = 0
abbrev isRe (rd : List Nat) : Prop := 2 < rd.length ∧ (rd.getD 0 0 &&& 240) = 192 ∧ rd.getD 1 0 = 1 ∧ asF rd
abbrev cH : Type := (Nat → Nat) × evL × (Nat → Nat) × Nat × List (Int32 × List Int32)
abbrev cfC (n : Nat → Nat) (x : Nat) : Prop := n 10 = (if (x &&& 16) = 0 then 129 else 130) ∧ n 11 = (x &&& 15)
def kConf (t : cH) (rd : List Nat) : cH := if cfC t.1 (rd.getD 0 0) then (va_up t.1 10 0, (fun c => (t.2.1 c).drop (t.2.2.1 c)), (fun _ => 0), t.2.2.2) else t
noncomputable def rsNm (E : evL) (vals : Nat → Int32) (rd : List Nat) (n : Nat → Nat) : Nat → Nat := va_up (if 0 < 16 - (rsE E vals rd).2.1 then va_up (va_up (va_up n 10 0) 10 129) 11 (rd.getD 0 0 &&& 15) else va_up n 10 0) 9 (if (rsE E vals rd).2.2.1 = 0 then n 9 else 0)
noncomputable def kResp (vals : Nat → Int32) (t : cH) (rd : List Nat) : cH := (rsNm t.2.1 vals rd t.1, t.2.1, (rsE t.2.1 vals rd).2.2.2, (sndF 0 (rsO t.2.1 vals rd (nI (t.1 9))) t.2.2.2.2 t.2.2.2.1).2, (sndF 0 (rsO t.2.1 vals rd (nI (t.1 9))) t.2.2.2.2 t.2.2.2.1).1)
noncomputable def kHear (vals : Nat → Int32) (t : cH) (rd : List Nat) : cH × Nat := if isCf rd then (kConf t rd, 1) else if isRe rd then (kResp vals t rd, 1) else ((va_up t.1 16 (t.1 16 + 1), t.2), 0)
theorem ptN_B (v : Nat → Int32) (n : Nat) : ∀ x ∈ ptN v n, isB x := by
  induction n with
  | zero => intro x hx; rw [ptN] at hx; exact absurd hx List.not_mem_nil
  | succ n ih => rw [ptN]; exact isB_app ih (isB_app (fun x h => by rw [List.mem_singleton.mp h]; exact isB_and _) (bN_B _ _))
theorem ptG_B (v : Nat → Int32) : ∀ x ∈ ptG v, isB x := by
  unfold ptG
  refine isB_app (fun x hx => ?_) (ptN_B _ _)
  simp only [List.mem_cons, List.not_mem_nil, or_false] at hx
  rcases hx with h | h | h <;> rw [h] <;> exact isB_and _
set_option maxRecDepth 100000 in
set_option maxHeartbeats 2000000 in
/-- Station.isConfirm(fragment) -/
theorem k_Station_isConfirm (l : Launch) (G : rG) (b r n : Nat) (f : Nat → Int32) (bl : List Int32) (hp : pfx f bl) (hbn : bl.length ≤ n) (hn : n < 1000000) (hB9 : ∀ x ∈ bl, isB x) (rd : List Nat) (hrd : rd = rdN bl) (h4 : bl.length ≤ 400) : gM l G.1 (rT G) yX10_isConfirm wsX10_isConfirm { frames := 1, cells := 0, slots := 0, locals := 21 } [.ref b] [(b, .inr (0, [.ref r, .int (nI bl.length)])), (r, .inl (G.2.2.2.1, n, .inl f))] (gQi G.1 (rT G) (fun (r : Int32) (u : Int32 × (Nat → Int32)) => ((r = nI 1 ∧ isCf rd) ∨ (r = nI 0 ∧ ¬ isCf rd)) ∧ u = (nI bl.length, f)) (bW G b r n)) 0 0 := by
  refine gM.of (cc := cX10_isConfirm) (maxL := 1) (ret := (some .boolean)) (by decide) rfl (Nat.le_of_ble_eq_true rfl) ?_
  intro p e s m below meth c A ls hx hb hr hml hown hts hlocks hnm hB hl
  have hl : lv_has ls 1 [(0, .ref b)] := hl
  have hrl : rd.length = bl.length := by rw [hrd, rdN_len]
  refine lv_aload_n hx hb dX10_isConfirm_0 rfl (lv_at hl 0 rfl) ?_
  refine g_calliA (wr := []) (wc := [(b, .inr (0, [.ref r, .int (nI bl.length)])), (r, .inl (G.2.2.2.1, n, .inl f))]) (av := []) (rest := []) ⟨hx, hb, hml, hown, hts⟩ (k_Bytes_size l G (b) (r) n f bl hp hbn hn) (cwV 0 hts gX10_isConfirm_X1_size rfl rfl rfl (by decide +kernel) ⟨Nat.le_of_ble_eq_true rfl, Nat.le_of_ble_eq_true rfl⟩) hB (q0 := 0) (ci := 0) rfl rfl rfl rfl hl.1 rfl (Nat.le_of_ble_eq_true rfl) dX10_isConfirm_1 ⟨Nat.le_of_ble_eq_true rfl, Nat.le_of_ble_eq_true rfl⟩ (fun r9 u H locs hw hB => ?_)
  obtain ⟨rfl, rfl⟩ := hw
  have hB : gB G.1 (rT G) A s H locs [(b, .inr (0, [.ref r, .int (nI bl.length)])), (r, .inl (G.2.2.2.1, n, .inl f))] := hB
  refine lv_iconst (v := nI 2) hx hb dX10_isConfirm_4 (by decide) ?_
  refine lv_icmp_ne (tgt := 35) hx hb dX10_isConfirm_5 (by decide) (fun c_1 => ?_) (fun c_1 => ?_)
  · have c_1 : ¬ bl.length = 2 := fun h9 => c_1 ((nI_eq (a := bl.length) (b := 2) (by omega) (by omega)).mpr h9)
    refine lv_iconst (v := nI 0) hx hb dX10_isConfirm_35 (by decide) ?_
    exact g_zret (S := Int32 × (Nat → Int32)) (Wd := bW G b r n) (v := nI 0) (nI bl.length, f) hB hx hb hr hlocks rfl (narrow_z (Or.inl rfl)) ⟨Or.inr ⟨rfl, fun z => c_1 (by have := z.1; omega)⟩, rfl⟩ dX10_isConfirm_36
  · have c_1 : bl.length = 2 := (nI_eq (a := bl.length) (b := 2) (by omega) (by omega)).mp c_1
    refine lv_aload_n hx hb dX10_isConfirm_8 rfl (lv_at hl 0 rfl) ?_
    refine lv_iconst (v := nI 0) hx hb dX10_isConfirm_9 (by decide) ?_
    refine g_calliA (wr := []) (wc := [(b, .inr (0, [.ref r, .int (nI bl.length)])), (r, .inl (G.2.2.2.1, n, .inl f))]) (av := [.int (nI 0)]) (rest := []) ⟨hx, hb, hml, hown, hts⟩ (k_Bytes_get l G (b) (r) n f bl hp hbn hn (nI 0)) (cwV 1 hts gX10_isConfirm_X1_get rfl rfl rfl (by decide +kernel) ⟨Nat.le_of_ble_eq_true rfl, Nat.le_of_ble_eq_true rfl⟩) hB (q0 := 0) (ci := 0) rfl rfl rfl rfl hl.1 rfl (Nat.le_of_ble_eq_true rfl) dX10_isConfirm_10 ⟨Nat.le_of_ble_eq_true rfl, Nat.le_of_ble_eq_true rfl⟩ (fun r9 u H locs hw hB => ?_)
    obtain ⟨er, rfl⟩ := hw
    have hB : gB G.1 (rT G) A s H locs [(b, .inr (0, [.ref r, .int (nI bl.length)])), (r, .inl (G.2.2.2.1, n, .inl f))] := hB
    have hlt9 : 0 < bl.length := by omega
    have g_2 : rd.getD (0) 0 < 256 := by rw [hrd, rdN_get]; exact (bq_at hB9 hlt9).2
    have er : r9 = nI (rd.getD (0) 0) := by rw [hrd, rdN_get]; exact er.trans (get_in hB9 hlt9 (by omega))
    subst er
    refine lv_sipush (v := nI 224) hx hb dX10_isConfirm_13 (by decide) ?_
    refine lv_iand hx hb dX10_isConfirm_16 ?_
    refine g_top (y := nI (rd.getD (0) 0 &&& 224)) (nx_and _ _) ?_
    have hmk : (rd.getD (0) 0 &&& 224) ≤ 224 := Nat.and_le_right
    refine lv_sipush (v := nI 192) hx hb dX10_isConfirm_17 (by decide) ?_
    refine lv_icmp_ne (tgt := 35) hx hb dX10_isConfirm_20 (by decide) (fun c_3 => ?_) (fun c_3 => ?_)
    · have c_3 : ¬ (rd.getD (0) 0 &&& 224) = 192 := fun h9 => c_3 ((nI_eq (a := (rd.getD (0) 0 &&& 224)) (b := 192) (by omega) (by omega)).mpr h9)
      refine lv_iconst (v := nI 0) hx hb dX10_isConfirm_35 (by decide) ?_
      exact g_zret (S := Int32 × (Nat → Int32)) (Wd := bW G b r n) (v := nI 0) (nI bl.length, f) hB hx hb hr hlocks rfl (narrow_z (Or.inl rfl)) ⟨Or.inr ⟨rfl, fun z => c_3 z.2.1⟩, rfl⟩ dX10_isConfirm_36
    · have c_3 : (rd.getD (0) 0 &&& 224) = 192 := (nI_eq (a := (rd.getD (0) 0 &&& 224)) (b := 192) (by omega) (by omega)).mp c_3
      refine lv_aload_n hx hb dX10_isConfirm_23 rfl (lv_at hl 0 rfl) ?_
      refine lv_iconst (v := nI 1) hx hb dX10_isConfirm_24 (by decide) ?_
      refine g_calliA (wr := []) (wc := [(b, .inr (0, [.ref r, .int (nI bl.length)])), (r, .inl (G.2.2.2.1, n, .inl f))]) (av := [.int (nI 1)]) (rest := []) ⟨hx, hb, hml, hown, hts⟩ (k_Bytes_get l G (b) (r) n f bl hp hbn hn (nI 1)) (cwV 1 hts gX10_isConfirm_X1_get rfl rfl rfl (by decide +kernel) ⟨Nat.le_of_ble_eq_true rfl, Nat.le_of_ble_eq_true rfl⟩) hB (q0 := 0) (ci := 0) rfl rfl rfl rfl hl.1 rfl (Nat.le_of_ble_eq_true rfl) dX10_isConfirm_25 ⟨Nat.le_of_ble_eq_true rfl, Nat.le_of_ble_eq_true rfl⟩ (fun r9 u H locs hw hB => ?_)
      obtain ⟨er, rfl⟩ := hw
      have hB : gB G.1 (rT G) A s H locs [(b, .inr (0, [.ref r, .int (nI bl.length)])), (r, .inl (G.2.2.2.1, n, .inl f))] := hB
      have hlt9 : 1 < bl.length := by omega
      have g_4 : rd.getD (1) 0 < 256 := by rw [hrd, rdN_get]; exact (bq_at hB9 hlt9).2
      have er : r9 = nI (rd.getD (1) 0) := by rw [hrd, rdN_get]; exact er.trans (get_in hB9 hlt9 (by omega))
      subst er
      refine lv_if_ne (tgt := 35) hx hb dX10_isConfirm_28 (by decide) (fun c_5 => ?_) (fun c_5 => ?_)
      · have c_5 : ¬ (rd.getD (1) 0) = 0 := fun h9 => c_5 ((nI_eq (a := (rd.getD (1) 0)) (b := 0) (by omega) (by omega)).mpr h9)
        refine lv_iconst (v := nI 0) hx hb dX10_isConfirm_35 (by decide) ?_
        exact g_zret (S := Int32 × (Nat → Int32)) (Wd := bW G b r n) (v := nI 0) (nI bl.length, f) hB hx hb hr hlocks rfl (narrow_z (Or.inl rfl)) ⟨Or.inr ⟨rfl, fun z => c_5 z.2.2⟩, rfl⟩ dX10_isConfirm_36
      · have c_5 : (rd.getD (1) 0) = 0 := (nI_eq (a := (rd.getD (1) 0)) (b := 0) (by omega) (by omega)).mp c_5
        refine lv_iconst (v := nI 1) hx hb dX10_isConfirm_31 (by decide) ?_
        refine lv_goto (tgt := 36) hx hb dX10_isConfirm_32 (by decide) ?_
        exact g_zret (S := Int32 × (Nat → Int32)) (Wd := bW G b r n) (v := nI 1) (nI bl.length, f) hB hx hb hr hlocks rfl (narrow_z (Or.inr rfl)) ⟨Or.inl ⟨rfl, by omega, c_3, c_5⟩, rfl⟩ dX10_isConfirm_36
set_option maxRecDepth 100000 in
set_option maxHeartbeats 2000000 in
/-- Station.isRead(fragment) -/
theorem k_Station_isRead (l : Launch) (G : rG) (b r n : Nat) (f : Nat → Int32) (bl : List Int32) (hp : pfx f bl) (hbn : bl.length ≤ n) (hn : n < 1000000) (hB9 : ∀ x ∈ bl, isB x) (rd : List Nat) (hrd : rd = rdN bl) (h4 : bl.length ≤ 400) : gM l G.1 (rT G) yX10_isRead wsX10_isRead { frames := 2, cells := 0, slots := 0, locals := 44 } [.ref b] [(b, .inr (0, [.ref r, .int (nI bl.length)])), (r, .inl (G.2.2.2.1, n, .inl f))] (gQi G.1 (rT G) (fun (r : Int32) (u : Int32 × (Nat → Int32)) => ((r = nI 1 ∧ isRe rd) ∨ (r = nI 0 ∧ ¬ isRe rd)) ∧ u = (nI bl.length, f)) (bW G b r n)) 0 0 := by
  refine gM.of (cc := cX10_isRead) (maxL := 1) (ret := (some .boolean)) (by decide) rfl (Nat.le_of_ble_eq_true rfl) ?_
  intro p e s m below meth c A ls hx hb hr hml hown hts hlocks hnm hB hl
  have hl : lv_has ls 1 [(0, .ref b)] := hl
  have hrl : rd.length = bl.length := by rw [hrd, rdN_len]
  refine lv_aload_n hx hb dX10_isRead_0 rfl (lv_at hl 0 rfl) ?_
  refine g_calliA (wr := []) (wc := [(b, .inr (0, [.ref r, .int (nI bl.length)])), (r, .inl (G.2.2.2.1, n, .inl f))]) (av := []) (rest := []) ⟨hx, hb, hml, hown, hts⟩ (k_Bytes_size l G (b) (r) n f bl hp hbn hn) (cwV 0 hts gX10_isRead_X1_size rfl rfl rfl (by decide +kernel) ⟨Nat.le_of_ble_eq_true rfl, Nat.le_of_ble_eq_true rfl⟩) hB (q0 := 0) (ci := 0) rfl rfl rfl rfl hl.1 rfl (Nat.le_of_ble_eq_true rfl) dX10_isRead_1 ⟨Nat.le_of_ble_eq_true rfl, Nat.le_of_ble_eq_true rfl⟩ (fun r9 u H locs hw hB => ?_)
  obtain ⟨rfl, rfl⟩ := hw
  have hB : gB G.1 (rT G) A s H locs [(b, .inr (0, [.ref r, .int (nI bl.length)])), (r, .inl (G.2.2.2.1, n, .inl f))] := hB
  refine lv_iconst (v := nI 2) hx hb dX10_isRead_4 (by decide) ?_
  refine lv_icmp_le (tgt := 43) hx hb dX10_isRead_5 (by decide) (fun c_1 => ?_) (fun c_1 => ?_)
  · have c_1 : bl.length ≤ 2 := (nI_leI (a := bl.length) (b := 2) (by omega) (by omega)).mp c_1
    refine lv_iconst (v := nI 0) hx hb dX10_isRead_43 (by decide) ?_
    exact g_zret (S := Int32 × (Nat → Int32)) (Wd := bW G b r n) (v := nI 0) (nI bl.length, f) hB hx hb hr hlocks rfl (narrow_z (Or.inl rfl)) ⟨Or.inr ⟨rfl, fun z => by have := z.1; omega⟩, rfl⟩ dX10_isRead_44
  · have c_1 : ¬ bl.length ≤ 2 := fun h9 => c_1 ((nI_leI (a := bl.length) (b := 2) (by omega) (by omega)).mpr h9)
    refine lv_aload_n hx hb dX10_isRead_8 rfl (lv_at hl 0 rfl) ?_
    refine lv_iconst (v := nI 0) hx hb dX10_isRead_9 (by decide) ?_
    refine g_calliA (wr := []) (wc := [(b, .inr (0, [.ref r, .int (nI bl.length)])), (r, .inl (G.2.2.2.1, n, .inl f))]) (av := [.int (nI 0)]) (rest := []) ⟨hx, hb, hml, hown, hts⟩ (k_Bytes_get l G (b) (r) n f bl hp hbn hn (nI 0)) (cwV 1 hts gX10_isRead_X1_get rfl rfl rfl (by decide +kernel) ⟨Nat.le_of_ble_eq_true rfl, Nat.le_of_ble_eq_true rfl⟩) hB (q0 := 0) (ci := 0) rfl rfl rfl rfl hl.1 rfl (Nat.le_of_ble_eq_true rfl) dX10_isRead_10 ⟨Nat.le_of_ble_eq_true rfl, Nat.le_of_ble_eq_true rfl⟩ (fun r9 u H locs hw hB => ?_)
    obtain ⟨er, rfl⟩ := hw
    have hB : gB G.1 (rT G) A s H locs [(b, .inr (0, [.ref r, .int (nI bl.length)])), (r, .inl (G.2.2.2.1, n, .inl f))] := hB
    have hlt9 : 0 < bl.length := by omega
    have g_2 : rd.getD (0) 0 < 256 := by rw [hrd, rdN_get]; exact (bq_at hB9 hlt9).2
    have er : r9 = nI (rd.getD (0) 0) := by rw [hrd, rdN_get]; exact er.trans (get_in hB9 hlt9 (by omega))
    subst er
    refine lv_sipush (v := nI 240) hx hb dX10_isRead_13 (by decide) ?_
    refine lv_iand hx hb dX10_isRead_16 ?_
    refine g_top (y := nI (rd.getD (0) 0 &&& 240)) (nx_and _ _) ?_
    have hmk : (rd.getD (0) 0 &&& 240) ≤ 240 := Nat.and_le_right
    refine lv_sipush (v := nI 192) hx hb dX10_isRead_17 (by decide) ?_
    refine lv_icmp_ne (tgt := 43) hx hb dX10_isRead_20 (by decide) (fun c_3 => ?_) (fun c_3 => ?_)
    · have c_3 : ¬ (rd.getD (0) 0 &&& 240) = 192 := fun h9 => c_3 ((nI_eq (a := (rd.getD (0) 0 &&& 240)) (b := 192) (by omega) (by omega)).mpr h9)
      refine lv_iconst (v := nI 0) hx hb dX10_isRead_43 (by decide) ?_
      exact g_zret (S := Int32 × (Nat → Int32)) (Wd := bW G b r n) (v := nI 0) (nI bl.length, f) hB hx hb hr hlocks rfl (narrow_z (Or.inl rfl)) ⟨Or.inr ⟨rfl, fun z => c_3 z.2.1⟩, rfl⟩ dX10_isRead_44
    · have c_3 : (rd.getD (0) 0 &&& 240) = 192 := (nI_eq (a := (rd.getD (0) 0 &&& 240)) (b := 192) (by omega) (by omega)).mp c_3
      refine lv_aload_n hx hb dX10_isRead_23 rfl (lv_at hl 0 rfl) ?_
      refine lv_iconst (v := nI 1) hx hb dX10_isRead_24 (by decide) ?_
      refine g_calliA (wr := []) (wc := [(b, .inr (0, [.ref r, .int (nI bl.length)])), (r, .inl (G.2.2.2.1, n, .inl f))]) (av := [.int (nI 1)]) (rest := []) ⟨hx, hb, hml, hown, hts⟩ (k_Bytes_get l G (b) (r) n f bl hp hbn hn (nI 1)) (cwV 1 hts gX10_isRead_X1_get rfl rfl rfl (by decide +kernel) ⟨Nat.le_of_ble_eq_true rfl, Nat.le_of_ble_eq_true rfl⟩) hB (q0 := 0) (ci := 0) rfl rfl rfl rfl hl.1 rfl (Nat.le_of_ble_eq_true rfl) dX10_isRead_25 ⟨Nat.le_of_ble_eq_true rfl, Nat.le_of_ble_eq_true rfl⟩ (fun r9 u H locs hw hB => ?_)
      obtain ⟨er, rfl⟩ := hw
      have hB : gB G.1 (rT G) A s H locs [(b, .inr (0, [.ref r, .int (nI bl.length)])), (r, .inl (G.2.2.2.1, n, .inl f))] := hB
      have hlt9 : 1 < bl.length := by omega
      have g_4 : rd.getD (1) 0 < 256 := by rw [hrd, rdN_get]; exact (bq_at hB9 hlt9).2
      have er : r9 = nI (rd.getD (1) 0) := by rw [hrd, rdN_get]; exact er.trans (get_in hB9 hlt9 (by omega))
      subst er
      refine lv_iconst (v := nI 1) hx hb dX10_isRead_28 (by decide) ?_
      refine lv_icmp_ne (tgt := 43) hx hb dX10_isRead_29 (by decide) (fun c_5 => ?_) (fun c_5 => ?_)
      · have c_5 : ¬ (rd.getD (1) 0) = 1 := fun h9 => c_5 ((nI_eq (a := (rd.getD (1) 0)) (b := 1) (by omega) (by omega)).mpr h9)
        refine lv_iconst (v := nI 0) hx hb dX10_isRead_43 (by decide) ?_
        exact g_zret (S := Int32 × (Nat → Int32)) (Wd := bW G b r n) (v := nI 0) (nI bl.length, f) hB hx hb hr hlocks rfl (narrow_z (Or.inl rfl)) ⟨Or.inr ⟨rfl, fun z => c_5 z.2.2.1⟩, rfl⟩ dX10_isRead_44
      · have c_5 : (rd.getD (1) 0) = 1 := (nI_eq (a := (rd.getD (1) 0)) (b := 1) (by omega) (by omega)).mp c_5
        refine lv_aload_n hx hb dX10_isRead_32 rfl (lv_at hl 0 rfl) ?_
        refine g_callSiA (wr := []) (wc := [(b, .inr (0, [.ref r, .int (nI bl.length)])), (r, .inl (G.2.2.2.1, n, .inl f))]) (av := [.ref b]) (rest := []) ⟨hx, hb, hml, hown, hts⟩ (k_Asked_isSound l G (b) (r) n f bl hp hbn hn hB9 rd hrd (by omega) h4) (va_cwS 1 hts gX10_isRead_X0_isSound rfl rfl rfl (by decide +kernel) ⟨Nat.le_of_ble_eq_true rfl, Nat.le_of_ble_eq_true rfl⟩) hB rfl hl.1 rfl (Nat.le_of_ble_eq_true rfl) dX10_isRead_33 ⟨Nat.le_of_ble_eq_true rfl, Nat.le_of_ble_eq_true rfl⟩ (fun r9 u H locs hw hB => ?_)
        obtain ⟨has, rfl⟩ := hw
        have hB : gB G.1 (rT G) A s H locs [(b, .inr (0, [.ref r, .int (nI bl.length)])), (r, .inl (G.2.2.2.1, n, .inl f))] := hB
        refine lv_if_eq (tgt := 43) hx hb dX10_isRead_36 (by decide) (fun c_6 => ?_) (fun c_6 => ?_)
        · have c_6 := c_6
          refine lv_iconst (v := nI 0) hx hb dX10_isRead_43 (by decide) ?_
          exact g_zret (S := Int32 × (Nat → Int32)) (Wd := bW G b r n) (v := nI 0) (nI bl.length, f) hB hx hb hr hlocks rfl (narrow_z (Or.inl rfl)) ⟨Or.inr ⟨rfl, fun z => by rcases has with ⟨h1, -⟩ | ⟨-, h1⟩; exact absurd (h1.symm.trans c_6) (by decide); exact h1 z.2.2.2⟩, rfl⟩ dX10_isRead_44
        · have c_6 := c_6
          refine lv_iconst (v := nI 1) hx hb dX10_isRead_39 (by decide) ?_
          refine lv_goto (tgt := 44) hx hb dX10_isRead_40 (by decide) ?_
          exact g_zret (S := Int32 × (Nat → Int32)) (Wd := bW G b r n) (v := nI 1) (nI bl.length, f) hB hx hb hr hlocks rfl (narrow_z (Or.inr rfl)) ⟨Or.inl ⟨rfl, by omega, c_3, c_5, by rcases has with ⟨-, h1⟩ | ⟨h1, -⟩; exact h1; exact absurd h1 c_6⟩, rfl⟩ dX10_isRead_44
set_option maxRecDepth 100000 in
set_option maxHeartbeats 2000000 in
/-- Station.takeConfirm(control) -/
theorem k_Station_takeConfirm (l : Launch) (G : rG) (ad n : Nat → Nat) (cE : ClassId) (hTE : (rT G)[3]? = some (cE, .object RX2)) (E : evL) (wt : Nat → Nat) (fp fv ft : Nat → Nat → Int32) (hE : esR (E, wt, fp, fv, ft)) (h8 : n 8 ≤ 1) (h9 : n 9 ≤ 1) (x : Nat) (hx2 : x < 256) (hbn : ∀ k, n k ≤ 900000) : gM l G.1 (rT G) yX10_takeConfirm wsX10_takeConfirm { frames := 3, cells := 0, slots := 0, locals := 63 } [.ref (ad 0), .int (nI x)] [(ad 0, .inr (7, [.ref (ad 21), .ref (ad 1), .ref (ad 2), .ref (ad 3), .ref (ad 4), .ref (ad 5), .ref (ad 7), .int (nI (n 7)), .int (nI (n 8)), .int (nI (n 9)), .int (nI (n 10)), .int (nI (n 11)), .int (nI (n 12)), .int (nI (n 13)), .int (nI (n 14)), .int (nI (n 15)), .int (nI (n 16))])), (ad 4, .inl (cE, 3, .inr (.inr (.inr (.inr (evA ad)))))), (ad 9, .inr (1, [.ref (ad 10), .ref (ad 11), .ref (ad 12), .int (nI ((E 1).length)), .int (nI (wt 1))])), (ad 10, .inl (G.2.2.2.1, 8, .inl (fp 1))), (ad 11, .inl (G.2.2.2.1, 8, .inl (fv 1))), (ad 12, .inl (G.2.2.2.1, 8, .inl (ft 1))), (ad 13, .inr (1, [.ref (ad 14), .ref (ad 15), .ref (ad 16), .int (nI ((E 2).length)), .int (nI (wt 2))])), (ad 14, .inl (G.2.2.2.1, 8, .inl (fp 2))), (ad 15, .inl (G.2.2.2.1, 8, .inl (fv 2))), (ad 16, .inl (G.2.2.2.1, 8, .inl (ft 2))), (ad 17, .inr (1, [.ref (ad 18), .ref (ad 19), .ref (ad 20), .int (nI ((E 3).length)), .int (nI (wt 3))])), (ad 18, .inl (G.2.2.2.1, 8, .inl (fp 3))), (ad 19, .inl (G.2.2.2.1, 8, .inl (fv 3))), (ad 20, .inl (G.2.2.2.1, 8, .inl (ft 3)))] (gQv G.1 (rT G) (fun u : (Nat → Nat) × eS => ∃ gp gv gt, esR ((if cfC n x then (fun c => (E c).drop (wt c)) else E), (if cfC n x then (fun _ => 0) else wt), gp, gv, gt) ∧ u = ((if cfC n x then va_up n 10 0 else n), (if cfC n x then (fun c => (E c).drop (wt c)) else E), (if cfC n x then (fun _ => 0) else wt), gp, gv, gt)) (stW G ad cE)) 0 0 := by
  refine gM.of (cc := cX10_takeConfirm) (maxL := 4) (ret := none) (by decide) rfl (Nat.le_of_ble_eq_true rfl) ?_
  intro p e s m below meth c A ls hx hb hr hml hown hts hlocks hnm hB hl
  have hl : lv_has ls 4 [(0, .ref (ad 0)), (1, .int (nI x))] := hl
  have e1 : evC (fp 1) (fv 1) (ft 1) (E 1) ∧ (E 1).length ≤ 8 ∧ wt 1 ≤ (E 1).length := hE 1 (by decide) (by decide)
  have e2 : evC (fp 2) (fv 2) (ft 2) (E 2) ∧ (E 2).length ≤ 8 ∧ wt 2 ≤ (E 2).length := hE 2 (by decide) (by decide)
  have e3 : evC (fp 3) (fv 3) (ft 3) (E 3) ∧ (E 3).length ≤ 8 ∧ wt 3 ≤ (E 3).length := hE 3 (by decide) (by decide)
  have b10 := hbn 10
  have b11 := hbn 11
  refine lv_iload_n hx hb dX10_takeConfirm_0 rfl (lv_at hl 1 rfl) ?_
  refine lv_bipush (v := nI 16) hx hb dX10_takeConfirm_1 (by decide) ?_
  refine lv_iand hx hb dX10_takeConfirm_3 ?_
  refine g_top (y := nI (x &&& 16)) (nx_and _ _) ?_
  have hx16 : (x &&& 16) ≤ 16 := Nat.and_le_right
  have hx15 : (x &&& 15) ≤ 15 := Nat.and_le_right
  refine g_cut (σ := Unit) 16 (fun _ H locs ls => gB G.1 (rT G) A s H locs [(ad 0, .inr (7, [.ref (ad 21), .ref (ad 1), .ref (ad 2), .ref (ad 3), .ref (ad 4), .ref (ad 5), .ref (ad 7), .int (nI (n 7)), .int (nI (n 8)), .int (nI (n 9)), .int (nI (n 10)), .int (nI (n 11)), .int (nI (n 12)), .int (nI (n 13)), .int (nI (n 14)), .int (nI (n 15)), .int (nI (n 16))])), (ad 4, .inl (cE, 3, .inr (.inr (.inr (.inr (evA ad)))))), (ad 9, .inr (1, [.ref (ad 10), .ref (ad 11), .ref (ad 12), .int (nI ((E 1).length)), .int (nI (wt 1))])), (ad 10, .inl (G.2.2.2.1, 8, .inl (fp 1))), (ad 11, .inl (G.2.2.2.1, 8, .inl (fv 1))), (ad 12, .inl (G.2.2.2.1, 8, .inl (ft 1))), (ad 13, .inr (1, [.ref (ad 14), .ref (ad 15), .ref (ad 16), .int (nI ((E 2).length)), .int (nI (wt 2))])), (ad 14, .inl (G.2.2.2.1, 8, .inl (fp 2))), (ad 15, .inl (G.2.2.2.1, 8, .inl (fv 2))), (ad 16, .inl (G.2.2.2.1, 8, .inl (ft 2))), (ad 17, .inr (1, [.ref (ad 18), .ref (ad 19), .ref (ad 20), .int (nI ((E 3).length)), .int (nI (wt 3))])), (ad 18, .inl (G.2.2.2.1, 8, .inl (fp 3))), (ad 19, .inl (G.2.2.2.1, 8, .inl (fv 3))), (ad 20, .inl (G.2.2.2.1, 8, .inl (ft 3)))] ∧ lv_has ls 4 [(0, .ref (ad 0)), (1, .int (nI x))]) (fun _ => [.int (nI (if (x &&& 16) = 0 then 129 else 130))]) ?_ (fun cut => ?_)
  rotate_left
  · refine lv_if_eq (tgt := 13) hx hb dX10_takeConfirm_4 (by decide) (fun c_1 => ?_) (fun c_1 => ?_)
    · have c_1 : (x &&& 16) = 0 := (nI_eq (a := (x &&& 16)) (b := 0) (by omega) (by omega)).mp c_1
      refine lv_sipush (v := nI 129) hx hb dX10_takeConfirm_13 (by decide) ?_
      refine g_top (y := nI (if (x &&& 16) = 0 then 129 else 130)) (by rw [if_pos c_1]) ?_
      exact cut () s.heap [] ls ⟨hB, hl⟩
    · have c_1 : ¬ (x &&& 16) = 0 := fun h9 => c_1 ((nI_eq (a := (x &&& 16)) (b := 0) (by omega) (by omega)).mpr h9)
      refine lv_sipush (v := nI 130) hx hb dX10_takeConfirm_7 (by decide) ?_
      refine lv_goto (tgt := 16) hx hb dX10_takeConfirm_10 (by decide) ?_
      refine g_top (y := nI (if (x &&& 16) = 0 then 129 else 130)) (by rw [if_neg c_1]) ?_
      exact cut () s.heap [] ls ⟨hB, hl⟩
  rintro - H locs ls ⟨hB, hl⟩
  have hif : (if (x &&& 16) = 0 then 129 else 130) < 256 := by split <;> decide
  refine lv_istore_n (lv' := [(2, .int (nI (if (x &&& 16) = 0 then 129 else 130))), (0, .ref (ad 0)), (1, .int (nI x))]) hx hb dX10_takeConfirm_16 rfl hl (by decide) rfl (fun ls hl => ?_)
  refine lv_aload_n hx hb dX10_takeConfirm_17 rfl (lv_at hl 1 rfl) ?_
  refine g_get (own := RX10) (C := RX10) (T := TX10) (N := 17) (ci := 7) (v := .int (nI (n 10))) hx hb hts (fun _ h => List.mem_cons_of_mem _ (List.mem_append_left _ (List.mem_append_right _ h))) hown hB 0 rfl rfl 10 (by decide) (hts (.fieldLink RX10 39 "PointReports$Station" "waitsFor" "I") (by decide +kernel)) rfl rfl dX10_takeConfirm_18 ?_
  refine lv_iload_n hx hb dX10_takeConfirm_21 rfl (lv_at hl 0 rfl) ?_
  refine lv_icmp_ne (tgt := 36) hx hb dX10_takeConfirm_22 (by decide) (fun c_2 => ?_) (fun c_2 => ?_)
  · have c_2 : ¬ (n 10) = (if (x &&& 16) = 0 then 129 else 130) := fun h9 => c_2 ((nI_eq (a := (n 10)) (b := (if (x &&& 16) = 0 then 129 else 130)) (by omega) (by omega)).mpr h9)
    exact g_vret (S := (Nat → Nat) × eS) (Wd := stW G ad cE) (n, E, wt, fp, fv, ft) hB hx hb hr hlocks rfl (by rw [if_neg (fun z : cfC n x => c_2 z.1), if_neg (fun z : cfC n x => c_2 z.1), if_neg (fun z : cfC n x => c_2 z.1)]; exact ⟨fp, fv, ft, hE, rfl⟩) dX10_takeConfirm_36
  · have c_2 : (n 10) = (if (x &&& 16) = 0 then 129 else 130) := (nI_eq (a := (n 10)) (b := (if (x &&& 16) = 0 then 129 else 130)) (by omega) (by omega)).mp c_2
    refine lv_aload_n hx hb dX10_takeConfirm_25 rfl (lv_at hl 1 rfl) ?_
    refine g_get (own := RX10) (C := RX10) (T := TX10) (N := 17) (ci := 7) (v := .int (nI (n 11))) hx hb hts (fun _ h => List.mem_cons_of_mem _ (List.mem_append_left _ (List.mem_append_right _ h))) hown hB 0 rfl rfl 11 (by decide) (hts (.fieldLink RX10 143 "PointReports$Station" "waitsSeq" "I") (by decide +kernel)) rfl rfl dX10_takeConfirm_26 ?_
    refine lv_iload_n hx hb dX10_takeConfirm_29 rfl (lv_at hl 2 rfl) ?_
    refine lv_bipush (v := nI 15) hx hb dX10_takeConfirm_30 (by decide) ?_
    refine lv_iand hx hb dX10_takeConfirm_32 ?_
    refine g_top (y := nI (x &&& 15)) (nx_and _ _) ?_
    refine lv_icmp_eq (tgt := 37) hx hb dX10_takeConfirm_33 (by decide) (fun c_3 => ?_) (fun c_3 => ?_)
    · have c_3 : (n 11) = (x &&& 15) := (nI_eq (a := (n 11)) (b := (x &&& 15)) (by omega) (by omega)).mp c_3
      have hcf : cfC n x := ⟨c_2, c_3⟩
      refine lv_iconst (v := nI 0) hx hb dX10_takeConfirm_37 (by decide) ?_
      refine lv_istore_n (lv' := [(3, .int (nI 0)), (2, .int (nI (if (x &&& 16) = 0 then 129 else 130))), (0, .ref (ad 0)), (1, .int (nI x))]) hx hb dX10_takeConfirm_38 rfl hl (by decide) rfl (fun ls hl => ?_)
      refine lv_iload_n hx hb dX10_takeConfirm_39 rfl (lv_at hl 0 rfl) ?_
      refine lv_iconst (v := nI 3) hx hb dX10_takeConfirm_40 (by decide) ?_
      refine lv_icmp_ge (tgt := 59) hx hb dX10_takeConfirm_41 (by decide) (fun c9 => absurd c9 (by decide)) (fun _ => ?_)
      refine lv_aload_n hx hb dX10_takeConfirm_44 rfl (lv_at hl 2 rfl) ?_
      refine g_get (own := RX10) (C := RX10) (T := TX10) (N := 17) (ci := 7) (v := .ref (ad 4)) hx hb hts (fun _ h => List.mem_cons_of_mem _ (List.mem_append_left _ (List.mem_append_right _ h))) hown hB 0 rfl rfl 4 (by decide) (hts (.fieldLink RX10 23 "PointReports$Station" "events" "[LPointReports$Events;") (by decide +kernel)) rfl rfl dX10_takeConfirm_45 ?_
      refine lv_iload_n hx hb dX10_takeConfirm_48 rfl (lv_at hl 0 rfl) ?_
      refine g_aldq (r := some (ad 9)) hx hb hB 1 3 rfl hTE 0 rfl (by omega) (by omega) rfl dX10_takeConfirm_49 ?_
      have hB : gB G.1 (rT G) A s H locs [(ad 0, .inr (7, [.ref (ad 21), .ref (ad 1), .ref (ad 2), .ref (ad 3), .ref (ad 4), .ref (ad 5), .ref (ad 7), .int (nI (n 7)), .int (nI (n 8)), .int (nI (n 9)), .int (nI (n 10)), .int (nI (n 11)), .int (nI (n 12)), .int (nI (n 13)), .int (nI (n 14)), .int (nI (n 15)), .int (nI (n 16))])), (ad 4, .inl (cE, 3, .inr (.inr (.inr (.inr (evA ad)))))), (ad 13, .inr (1, [.ref (ad 14), .ref (ad 15), .ref (ad 16), .int (nI ((E 2).length)), .int (nI (wt 2))])), (ad 14, .inl (G.2.2.2.1, 8, .inl (fp 2))), (ad 15, .inl (G.2.2.2.1, 8, .inl (fv 2))), (ad 16, .inl (G.2.2.2.1, 8, .inl (ft 2))), (ad 17, .inr (1, [.ref (ad 18), .ref (ad 19), .ref (ad 20), .int (nI ((E 3).length)), .int (nI (wt 3))])), (ad 18, .inl (G.2.2.2.1, 8, .inl (fp 3))), (ad 19, .inl (G.2.2.2.1, 8, .inl (fv 3))), (ad 20, .inl (G.2.2.2.1, 8, .inl (ft 3))), (ad 9, .inr (1, [.ref (ad 10), .ref (ad 11), .ref (ad 12), .int (nI ((E 1).length)), .int (nI (wt 1))])), (ad 10, .inl (G.2.2.2.1, 8, .inl (fp 1))), (ad 11, .inl (G.2.2.2.1, 8, .inl (fv 1))), (ad 12, .inl (G.2.2.2.1, 8, .inl (ft 1)))] := hB.order [0, 1, 6, 7, 8, 9, 10, 11, 12, 13, 2, 3, 4, 5] (by decide) rfl rfl
      refine g_callvA (wr := [(ad 0, .inr (7, [.ref (ad 21), .ref (ad 1), .ref (ad 2), .ref (ad 3), .ref (ad 4), .ref (ad 5), .ref (ad 7), .int (nI (n 7)), .int (nI (n 8)), .int (nI (n 9)), .int (nI (n 10)), .int (nI (n 11)), .int (nI (n 12)), .int (nI (n 13)), .int (nI (n 14)), .int (nI (n 15)), .int (nI (n 16))])), (ad 4, .inl (cE, 3, .inr (.inr (.inr (.inr (evA ad)))))), (ad 13, .inr (1, [.ref (ad 14), .ref (ad 15), .ref (ad 16), .int (nI ((E 2).length)), .int (nI (wt 2))])), (ad 14, .inl (G.2.2.2.1, 8, .inl (fp 2))), (ad 15, .inl (G.2.2.2.1, 8, .inl (fv 2))), (ad 16, .inl (G.2.2.2.1, 8, .inl (ft 2))), (ad 17, .inr (1, [.ref (ad 18), .ref (ad 19), .ref (ad 20), .int (nI ((E 3).length)), .int (nI (wt 3))])), (ad 18, .inl (G.2.2.2.1, 8, .inl (fp 3))), (ad 19, .inl (G.2.2.2.1, 8, .inl (fv 3))), (ad 20, .inl (G.2.2.2.1, 8, .inl (ft 3)))]) (wc := [(ad 9, .inr (1, [.ref (ad 10), .ref (ad 11), .ref (ad 12), .int (nI ((E 1).length)), .int (nI (wt 1))])), (ad 10, .inl (G.2.2.2.1, 8, .inl (fp 1))), (ad 11, .inl (G.2.2.2.1, 8, .inl (fv 1))), (ad 12, .inl (G.2.2.2.1, 8, .inl (ft 1)))]) (av := []) (rest := []) ⟨hx, hb, hml, hown, hts⟩ (k_Events_dropWaiting l G (ad 9) (ad 10) (ad 11) (ad 12) (fp 1) (fv 1) (ft 1) (E 1) e1.1 e1.2.1 (wt 1) (e1.2.2)) (cwV 0 hts gX10_takeConfirm_X2_dropWaiting rfl rfl rfl (by decide +kernel) ⟨Nat.le_of_ble_eq_true rfl, Nat.le_of_ble_eq_true rfl⟩) hB (q0 := 0) (ci := 1) rfl rfl rfl rfl hl.1 rfl (Nat.le_of_ble_eq_true rfl) dX10_takeConfirm_50 ⟨Nat.le_of_ble_eq_true rfl, Nat.le_of_ble_eq_true rfl⟩ (fun u H locs hw hB => ?_)
      obtain ⟨gp1, gv1, gt1, hg1, rfl⟩ := hw
      have hB : gB G.1 (rT G) A s H locs [(ad 0, .inr (7, [.ref (ad 21), .ref (ad 1), .ref (ad 2), .ref (ad 3), .ref (ad 4), .ref (ad 5), .ref (ad 7), .int (nI (n 7)), .int (nI (n 8)), .int (nI (n 9)), .int (nI (n 10)), .int (nI (n 11)), .int (nI (n 12)), .int (nI (n 13)), .int (nI (n 14)), .int (nI (n 15)), .int (nI (n 16))])), (ad 4, .inl (cE, 3, .inr (.inr (.inr (.inr (evA ad)))))), (ad 13, .inr (1, [.ref (ad 14), .ref (ad 15), .ref (ad 16), .int (nI ((E 2).length)), .int (nI (wt 2))])), (ad 14, .inl (G.2.2.2.1, 8, .inl (fp 2))), (ad 15, .inl (G.2.2.2.1, 8, .inl (fv 2))), (ad 16, .inl (G.2.2.2.1, 8, .inl (ft 2))), (ad 17, .inr (1, [.ref (ad 18), .ref (ad 19), .ref (ad 20), .int (nI ((E 3).length)), .int (nI (wt 3))])), (ad 18, .inl (G.2.2.2.1, 8, .inl (fp 3))), (ad 19, .inl (G.2.2.2.1, 8, .inl (fv 3))), (ad 20, .inl (G.2.2.2.1, 8, .inl (ft 3))), (ad 9, .inr (1, [.ref (ad 10), .ref (ad 11), .ref (ad 12), .int (nI ((E 1).length - wt 1)), .int (nI (wt 1 - wt 1))])), (ad 10, .inl (G.2.2.2.1, 8, .inl gp1)), (ad 11, .inl (G.2.2.2.1, 8, .inl gv1)), (ad 12, .inl (G.2.2.2.1, 8, .inl gt1))] := hB
      have ed1 : (E 1).length - wt 1 = ((E 1).drop (wt 1)).length := (List.length_drop).symm
      rw [ed1] at hB
      have hB : gB G.1 (rT G) A s H locs [(ad 0, .inr (7, [.ref (ad 21), .ref (ad 1), .ref (ad 2), .ref (ad 3), .ref (ad 4), .ref (ad 5), .ref (ad 7), .int (nI (n 7)), .int (nI (n 8)), .int (nI (n 9)), .int (nI (n 10)), .int (nI (n 11)), .int (nI (n 12)), .int (nI (n 13)), .int (nI (n 14)), .int (nI (n 15)), .int (nI (n 16))])), (ad 4, .inl (cE, 3, .inr (.inr (.inr (.inr (evA ad)))))), (ad 13, .inr (1, [.ref (ad 14), .ref (ad 15), .ref (ad 16), .int (nI ((E 2).length)), .int (nI (wt 2))])), (ad 14, .inl (G.2.2.2.1, 8, .inl (fp 2))), (ad 15, .inl (G.2.2.2.1, 8, .inl (fv 2))), (ad 16, .inl (G.2.2.2.1, 8, .inl (ft 2))), (ad 17, .inr (1, [.ref (ad 18), .ref (ad 19), .ref (ad 20), .int (nI ((E 3).length)), .int (nI (wt 3))])), (ad 18, .inl (G.2.2.2.1, 8, .inl (fp 3))), (ad 19, .inl (G.2.2.2.1, 8, .inl (fv 3))), (ad 20, .inl (G.2.2.2.1, 8, .inl (ft 3))), (ad 9, .inr (1, [.ref (ad 10), .ref (ad 11), .ref (ad 12), .int (nI (((E 1).drop (wt 1)).length)), .int (nI (wt 1 - wt 1))])), (ad 10, .inl (G.2.2.2.1, 8, .inl gp1)), (ad 11, .inl (G.2.2.2.1, 8, .inl gv1)), (ad 12, .inl (G.2.2.2.1, 8, .inl gt1))] := hB
      refine lv_iinc (v := nI 1) (lv' := [(3, .int (nI 1)), (2, .int (nI (if (x &&& 16) = 0 then 129 else 130))), (0, .ref (ad 0)), (1, .int (nI x))]) hx hb dX10_takeConfirm_53 hl (k := 0) rfl (by decide) (by decide) rfl (fun ls hl => ?_)
      refine lv_goto (tgt := 39) hx hb dX10_takeConfirm_56 (by decide) ?_
      refine lv_iload_n hx hb dX10_takeConfirm_39 rfl (lv_at hl 0 rfl) ?_
      refine lv_iconst (v := nI 3) hx hb dX10_takeConfirm_40 (by decide) ?_
      refine lv_icmp_ge (tgt := 59) hx hb dX10_takeConfirm_41 (by decide) (fun c9 => absurd c9 (by decide)) (fun _ => ?_)
      refine lv_aload_n hx hb dX10_takeConfirm_44 rfl (lv_at hl 2 rfl) ?_
      refine g_get (own := RX10) (C := RX10) (T := TX10) (N := 17) (ci := 7) (v := .ref (ad 4)) hx hb hts (fun _ h => List.mem_cons_of_mem _ (List.mem_append_left _ (List.mem_append_right _ h))) hown hB 0 rfl rfl 4 (by decide) (hts (.fieldLink RX10 23 "PointReports$Station" "events" "[LPointReports$Events;") (by decide +kernel)) rfl rfl dX10_takeConfirm_45 ?_
      refine lv_iload_n hx hb dX10_takeConfirm_48 rfl (lv_at hl 0 rfl) ?_
      refine g_aldq (r := some (ad 13)) hx hb hB 1 3 rfl hTE 1 rfl (by omega) (by omega) rfl dX10_takeConfirm_49 ?_
      have hB : gB G.1 (rT G) A s H locs [(ad 0, .inr (7, [.ref (ad 21), .ref (ad 1), .ref (ad 2), .ref (ad 3), .ref (ad 4), .ref (ad 5), .ref (ad 7), .int (nI (n 7)), .int (nI (n 8)), .int (nI (n 9)), .int (nI (n 10)), .int (nI (n 11)), .int (nI (n 12)), .int (nI (n 13)), .int (nI (n 14)), .int (nI (n 15)), .int (nI (n 16))])), (ad 4, .inl (cE, 3, .inr (.inr (.inr (.inr (evA ad)))))), (ad 17, .inr (1, [.ref (ad 18), .ref (ad 19), .ref (ad 20), .int (nI ((E 3).length)), .int (nI (wt 3))])), (ad 18, .inl (G.2.2.2.1, 8, .inl (fp 3))), (ad 19, .inl (G.2.2.2.1, 8, .inl (fv 3))), (ad 20, .inl (G.2.2.2.1, 8, .inl (ft 3))), (ad 9, .inr (1, [.ref (ad 10), .ref (ad 11), .ref (ad 12), .int (nI (((E 1).drop (wt 1)).length)), .int (nI (wt 1 - wt 1))])), (ad 10, .inl (G.2.2.2.1, 8, .inl gp1)), (ad 11, .inl (G.2.2.2.1, 8, .inl gv1)), (ad 12, .inl (G.2.2.2.1, 8, .inl gt1)), (ad 13, .inr (1, [.ref (ad 14), .ref (ad 15), .ref (ad 16), .int (nI ((E 2).length)), .int (nI (wt 2))])), (ad 14, .inl (G.2.2.2.1, 8, .inl (fp 2))), (ad 15, .inl (G.2.2.2.1, 8, .inl (fv 2))), (ad 16, .inl (G.2.2.2.1, 8, .inl (ft 2)))] := hB.order [0, 1, 6, 7, 8, 9, 10, 11, 12, 13, 2, 3, 4, 5] (by decide) rfl rfl
      refine g_callvA (wr := [(ad 0, .inr (7, [.ref (ad 21), .ref (ad 1), .ref (ad 2), .ref (ad 3), .ref (ad 4), .ref (ad 5), .ref (ad 7), .int (nI (n 7)), .int (nI (n 8)), .int (nI (n 9)), .int (nI (n 10)), .int (nI (n 11)), .int (nI (n 12)), .int (nI (n 13)), .int (nI (n 14)), .int (nI (n 15)), .int (nI (n 16))])), (ad 4, .inl (cE, 3, .inr (.inr (.inr (.inr (evA ad)))))), (ad 17, .inr (1, [.ref (ad 18), .ref (ad 19), .ref (ad 20), .int (nI ((E 3).length)), .int (nI (wt 3))])), (ad 18, .inl (G.2.2.2.1, 8, .inl (fp 3))), (ad 19, .inl (G.2.2.2.1, 8, .inl (fv 3))), (ad 20, .inl (G.2.2.2.1, 8, .inl (ft 3))), (ad 9, .inr (1, [.ref (ad 10), .ref (ad 11), .ref (ad 12), .int (nI (((E 1).drop (wt 1)).length)), .int (nI (wt 1 - wt 1))])), (ad 10, .inl (G.2.2.2.1, 8, .inl gp1)), (ad 11, .inl (G.2.2.2.1, 8, .inl gv1)), (ad 12, .inl (G.2.2.2.1, 8, .inl gt1))]) (wc := [(ad 13, .inr (1, [.ref (ad 14), .ref (ad 15), .ref (ad 16), .int (nI ((E 2).length)), .int (nI (wt 2))])), (ad 14, .inl (G.2.2.2.1, 8, .inl (fp 2))), (ad 15, .inl (G.2.2.2.1, 8, .inl (fv 2))), (ad 16, .inl (G.2.2.2.1, 8, .inl (ft 2)))]) (av := []) (rest := []) ⟨hx, hb, hml, hown, hts⟩ (k_Events_dropWaiting l G (ad 13) (ad 14) (ad 15) (ad 16) (fp 2) (fv 2) (ft 2) (E 2) e2.1 e2.2.1 (wt 2) (e2.2.2)) (cwV 0 hts gX10_takeConfirm_X2_dropWaiting rfl rfl rfl (by decide +kernel) ⟨Nat.le_of_ble_eq_true rfl, Nat.le_of_ble_eq_true rfl⟩) hB (q0 := 0) (ci := 1) rfl rfl rfl rfl hl.1 rfl (Nat.le_of_ble_eq_true rfl) dX10_takeConfirm_50 ⟨Nat.le_of_ble_eq_true rfl, Nat.le_of_ble_eq_true rfl⟩ (fun u H locs hw hB => ?_)
      obtain ⟨gp2, gv2, gt2, hg2, rfl⟩ := hw
      have hB : gB G.1 (rT G) A s H locs [(ad 0, .inr (7, [.ref (ad 21), .ref (ad 1), .ref (ad 2), .ref (ad 3), .ref (ad 4), .ref (ad 5), .ref (ad 7), .int (nI (n 7)), .int (nI (n 8)), .int (nI (n 9)), .int (nI (n 10)), .int (nI (n 11)), .int (nI (n 12)), .int (nI (n 13)), .int (nI (n 14)), .int (nI (n 15)), .int (nI (n 16))])), (ad 4, .inl (cE, 3, .inr (.inr (.inr (.inr (evA ad)))))), (ad 17, .inr (1, [.ref (ad 18), .ref (ad 19), .ref (ad 20), .int (nI ((E 3).length)), .int (nI (wt 3))])), (ad 18, .inl (G.2.2.2.1, 8, .inl (fp 3))), (ad 19, .inl (G.2.2.2.1, 8, .inl (fv 3))), (ad 20, .inl (G.2.2.2.1, 8, .inl (ft 3))), (ad 9, .inr (1, [.ref (ad 10), .ref (ad 11), .ref (ad 12), .int (nI (((E 1).drop (wt 1)).length)), .int (nI (wt 1 - wt 1))])), (ad 10, .inl (G.2.2.2.1, 8, .inl gp1)), (ad 11, .inl (G.2.2.2.1, 8, .inl gv1)), (ad 12, .inl (G.2.2.2.1, 8, .inl gt1)), (ad 13, .inr (1, [.ref (ad 14), .ref (ad 15), .ref (ad 16), .int (nI ((E 2).length - wt 2)), .int (nI (wt 2 - wt 2))])), (ad 14, .inl (G.2.2.2.1, 8, .inl gp2)), (ad 15, .inl (G.2.2.2.1, 8, .inl gv2)), (ad 16, .inl (G.2.2.2.1, 8, .inl gt2))] := hB
      have ed2 : (E 2).length - wt 2 = ((E 2).drop (wt 2)).length := (List.length_drop).symm
      rw [ed2] at hB
      have hB : gB G.1 (rT G) A s H locs [(ad 0, .inr (7, [.ref (ad 21), .ref (ad 1), .ref (ad 2), .ref (ad 3), .ref (ad 4), .ref (ad 5), .ref (ad 7), .int (nI (n 7)), .int (nI (n 8)), .int (nI (n 9)), .int (nI (n 10)), .int (nI (n 11)), .int (nI (n 12)), .int (nI (n 13)), .int (nI (n 14)), .int (nI (n 15)), .int (nI (n 16))])), (ad 4, .inl (cE, 3, .inr (.inr (.inr (.inr (evA ad)))))), (ad 17, .inr (1, [.ref (ad 18), .ref (ad 19), .ref (ad 20), .int (nI ((E 3).length)), .int (nI (wt 3))])), (ad 18, .inl (G.2.2.2.1, 8, .inl (fp 3))), (ad 19, .inl (G.2.2.2.1, 8, .inl (fv 3))), (ad 20, .inl (G.2.2.2.1, 8, .inl (ft 3))), (ad 9, .inr (1, [.ref (ad 10), .ref (ad 11), .ref (ad 12), .int (nI (((E 1).drop (wt 1)).length)), .int (nI (wt 1 - wt 1))])), (ad 10, .inl (G.2.2.2.1, 8, .inl gp1)), (ad 11, .inl (G.2.2.2.1, 8, .inl gv1)), (ad 12, .inl (G.2.2.2.1, 8, .inl gt1)), (ad 13, .inr (1, [.ref (ad 14), .ref (ad 15), .ref (ad 16), .int (nI (((E 2).drop (wt 2)).length)), .int (nI (wt 2 - wt 2))])), (ad 14, .inl (G.2.2.2.1, 8, .inl gp2)), (ad 15, .inl (G.2.2.2.1, 8, .inl gv2)), (ad 16, .inl (G.2.2.2.1, 8, .inl gt2))] := hB
      refine lv_iinc (v := nI 2) (lv' := [(3, .int (nI 2)), (2, .int (nI (if (x &&& 16) = 0 then 129 else 130))), (0, .ref (ad 0)), (1, .int (nI x))]) hx hb dX10_takeConfirm_53 hl (k := 0) rfl (by decide) (by decide) rfl (fun ls hl => ?_)
      refine lv_goto (tgt := 39) hx hb dX10_takeConfirm_56 (by decide) ?_
      refine lv_iload_n hx hb dX10_takeConfirm_39 rfl (lv_at hl 0 rfl) ?_
      refine lv_iconst (v := nI 3) hx hb dX10_takeConfirm_40 (by decide) ?_
      refine lv_icmp_ge (tgt := 59) hx hb dX10_takeConfirm_41 (by decide) (fun c9 => absurd c9 (by decide)) (fun _ => ?_)
      refine lv_aload_n hx hb dX10_takeConfirm_44 rfl (lv_at hl 2 rfl) ?_
      refine g_get (own := RX10) (C := RX10) (T := TX10) (N := 17) (ci := 7) (v := .ref (ad 4)) hx hb hts (fun _ h => List.mem_cons_of_mem _ (List.mem_append_left _ (List.mem_append_right _ h))) hown hB 0 rfl rfl 4 (by decide) (hts (.fieldLink RX10 23 "PointReports$Station" "events" "[LPointReports$Events;") (by decide +kernel)) rfl rfl dX10_takeConfirm_45 ?_
      refine lv_iload_n hx hb dX10_takeConfirm_48 rfl (lv_at hl 0 rfl) ?_
      refine g_aldq (r := some (ad 17)) hx hb hB 1 3 rfl hTE 2 rfl (by omega) (by omega) rfl dX10_takeConfirm_49 ?_
      have hB : gB G.1 (rT G) A s H locs [(ad 0, .inr (7, [.ref (ad 21), .ref (ad 1), .ref (ad 2), .ref (ad 3), .ref (ad 4), .ref (ad 5), .ref (ad 7), .int (nI (n 7)), .int (nI (n 8)), .int (nI (n 9)), .int (nI (n 10)), .int (nI (n 11)), .int (nI (n 12)), .int (nI (n 13)), .int (nI (n 14)), .int (nI (n 15)), .int (nI (n 16))])), (ad 4, .inl (cE, 3, .inr (.inr (.inr (.inr (evA ad)))))), (ad 9, .inr (1, [.ref (ad 10), .ref (ad 11), .ref (ad 12), .int (nI (((E 1).drop (wt 1)).length)), .int (nI (wt 1 - wt 1))])), (ad 10, .inl (G.2.2.2.1, 8, .inl gp1)), (ad 11, .inl (G.2.2.2.1, 8, .inl gv1)), (ad 12, .inl (G.2.2.2.1, 8, .inl gt1)), (ad 13, .inr (1, [.ref (ad 14), .ref (ad 15), .ref (ad 16), .int (nI (((E 2).drop (wt 2)).length)), .int (nI (wt 2 - wt 2))])), (ad 14, .inl (G.2.2.2.1, 8, .inl gp2)), (ad 15, .inl (G.2.2.2.1, 8, .inl gv2)), (ad 16, .inl (G.2.2.2.1, 8, .inl gt2)), (ad 17, .inr (1, [.ref (ad 18), .ref (ad 19), .ref (ad 20), .int (nI ((E 3).length)), .int (nI (wt 3))])), (ad 18, .inl (G.2.2.2.1, 8, .inl (fp 3))), (ad 19, .inl (G.2.2.2.1, 8, .inl (fv 3))), (ad 20, .inl (G.2.2.2.1, 8, .inl (ft 3)))] := hB.order [0, 1, 6, 7, 8, 9, 10, 11, 12, 13, 2, 3, 4, 5] (by decide) rfl rfl
      refine g_callvA (wr := [(ad 0, .inr (7, [.ref (ad 21), .ref (ad 1), .ref (ad 2), .ref (ad 3), .ref (ad 4), .ref (ad 5), .ref (ad 7), .int (nI (n 7)), .int (nI (n 8)), .int (nI (n 9)), .int (nI (n 10)), .int (nI (n 11)), .int (nI (n 12)), .int (nI (n 13)), .int (nI (n 14)), .int (nI (n 15)), .int (nI (n 16))])), (ad 4, .inl (cE, 3, .inr (.inr (.inr (.inr (evA ad)))))), (ad 9, .inr (1, [.ref (ad 10), .ref (ad 11), .ref (ad 12), .int (nI (((E 1).drop (wt 1)).length)), .int (nI (wt 1 - wt 1))])), (ad 10, .inl (G.2.2.2.1, 8, .inl gp1)), (ad 11, .inl (G.2.2.2.1, 8, .inl gv1)), (ad 12, .inl (G.2.2.2.1, 8, .inl gt1)), (ad 13, .inr (1, [.ref (ad 14), .ref (ad 15), .ref (ad 16), .int (nI (((E 2).drop (wt 2)).length)), .int (nI (wt 2 - wt 2))])), (ad 14, .inl (G.2.2.2.1, 8, .inl gp2)), (ad 15, .inl (G.2.2.2.1, 8, .inl gv2)), (ad 16, .inl (G.2.2.2.1, 8, .inl gt2))]) (wc := [(ad 17, .inr (1, [.ref (ad 18), .ref (ad 19), .ref (ad 20), .int (nI ((E 3).length)), .int (nI (wt 3))])), (ad 18, .inl (G.2.2.2.1, 8, .inl (fp 3))), (ad 19, .inl (G.2.2.2.1, 8, .inl (fv 3))), (ad 20, .inl (G.2.2.2.1, 8, .inl (ft 3)))]) (av := []) (rest := []) ⟨hx, hb, hml, hown, hts⟩ (k_Events_dropWaiting l G (ad 17) (ad 18) (ad 19) (ad 20) (fp 3) (fv 3) (ft 3) (E 3) e3.1 e3.2.1 (wt 3) (e3.2.2)) (cwV 0 hts gX10_takeConfirm_X2_dropWaiting rfl rfl rfl (by decide +kernel) ⟨Nat.le_of_ble_eq_true rfl, Nat.le_of_ble_eq_true rfl⟩) hB (q0 := 0) (ci := 1) rfl rfl rfl rfl hl.1 rfl (Nat.le_of_ble_eq_true rfl) dX10_takeConfirm_50 ⟨Nat.le_of_ble_eq_true rfl, Nat.le_of_ble_eq_true rfl⟩ (fun u H locs hw hB => ?_)
      obtain ⟨gp3, gv3, gt3, hg3, rfl⟩ := hw
      have hB : gB G.1 (rT G) A s H locs [(ad 0, .inr (7, [.ref (ad 21), .ref (ad 1), .ref (ad 2), .ref (ad 3), .ref (ad 4), .ref (ad 5), .ref (ad 7), .int (nI (n 7)), .int (nI (n 8)), .int (nI (n 9)), .int (nI (n 10)), .int (nI (n 11)), .int (nI (n 12)), .int (nI (n 13)), .int (nI (n 14)), .int (nI (n 15)), .int (nI (n 16))])), (ad 4, .inl (cE, 3, .inr (.inr (.inr (.inr (evA ad)))))), (ad 9, .inr (1, [.ref (ad 10), .ref (ad 11), .ref (ad 12), .int (nI (((E 1).drop (wt 1)).length)), .int (nI (wt 1 - wt 1))])), (ad 10, .inl (G.2.2.2.1, 8, .inl gp1)), (ad 11, .inl (G.2.2.2.1, 8, .inl gv1)), (ad 12, .inl (G.2.2.2.1, 8, .inl gt1)), (ad 13, .inr (1, [.ref (ad 14), .ref (ad 15), .ref (ad 16), .int (nI (((E 2).drop (wt 2)).length)), .int (nI (wt 2 - wt 2))])), (ad 14, .inl (G.2.2.2.1, 8, .inl gp2)), (ad 15, .inl (G.2.2.2.1, 8, .inl gv2)), (ad 16, .inl (G.2.2.2.1, 8, .inl gt2)), (ad 17, .inr (1, [.ref (ad 18), .ref (ad 19), .ref (ad 20), .int (nI ((E 3).length - wt 3)), .int (nI (wt 3 - wt 3))])), (ad 18, .inl (G.2.2.2.1, 8, .inl gp3)), (ad 19, .inl (G.2.2.2.1, 8, .inl gv3)), (ad 20, .inl (G.2.2.2.1, 8, .inl gt3))] := hB
      have ed3 : (E 3).length - wt 3 = ((E 3).drop (wt 3)).length := (List.length_drop).symm
      rw [ed3] at hB
      have hB : gB G.1 (rT G) A s H locs [(ad 0, .inr (7, [.ref (ad 21), .ref (ad 1), .ref (ad 2), .ref (ad 3), .ref (ad 4), .ref (ad 5), .ref (ad 7), .int (nI (n 7)), .int (nI (n 8)), .int (nI (n 9)), .int (nI (n 10)), .int (nI (n 11)), .int (nI (n 12)), .int (nI (n 13)), .int (nI (n 14)), .int (nI (n 15)), .int (nI (n 16))])), (ad 4, .inl (cE, 3, .inr (.inr (.inr (.inr (evA ad)))))), (ad 9, .inr (1, [.ref (ad 10), .ref (ad 11), .ref (ad 12), .int (nI (((E 1).drop (wt 1)).length)), .int (nI (wt 1 - wt 1))])), (ad 10, .inl (G.2.2.2.1, 8, .inl gp1)), (ad 11, .inl (G.2.2.2.1, 8, .inl gv1)), (ad 12, .inl (G.2.2.2.1, 8, .inl gt1)), (ad 13, .inr (1, [.ref (ad 14), .ref (ad 15), .ref (ad 16), .int (nI (((E 2).drop (wt 2)).length)), .int (nI (wt 2 - wt 2))])), (ad 14, .inl (G.2.2.2.1, 8, .inl gp2)), (ad 15, .inl (G.2.2.2.1, 8, .inl gv2)), (ad 16, .inl (G.2.2.2.1, 8, .inl gt2)), (ad 17, .inr (1, [.ref (ad 18), .ref (ad 19), .ref (ad 20), .int (nI (((E 3).drop (wt 3)).length)), .int (nI (wt 3 - wt 3))])), (ad 18, .inl (G.2.2.2.1, 8, .inl gp3)), (ad 19, .inl (G.2.2.2.1, 8, .inl gv3)), (ad 20, .inl (G.2.2.2.1, 8, .inl gt3))] := hB
      refine lv_iinc (v := nI 3) (lv' := [(3, .int (nI 3)), (2, .int (nI (if (x &&& 16) = 0 then 129 else 130))), (0, .ref (ad 0)), (1, .int (nI x))]) hx hb dX10_takeConfirm_53 hl (k := 0) rfl (by decide) (by decide) rfl (fun ls hl => ?_)
      refine lv_goto (tgt := 39) hx hb dX10_takeConfirm_56 (by decide) ?_
      refine lv_iload_n hx hb dX10_takeConfirm_39 rfl (lv_at hl 0 rfl) ?_
      refine lv_iconst (v := nI 3) hx hb dX10_takeConfirm_40 (by decide) ?_
      refine lv_icmp_ge (tgt := 59) hx hb dX10_takeConfirm_41 (by decide) (fun _ => ?_) (fun c9 => absurd c9 (by decide))
      refine lv_aload_n hx hb dX10_takeConfirm_59 rfl (lv_at hl 2 rfl) ?_
      have hE2 : esR ((fun c => (E c).drop (wt c)), (fun c => wt c - wt c), (va_up (va_up (va_up fp 1 gp1) 2 gp2) 3 gp3), (va_up (va_up (va_up fv 1 gv1) 2 gv2) 3 gv3), (va_up (va_up (va_up ft 1 gt1) 2 gt2) 3 gt3)) := esR.mk (c123 ⟨hg1, by show ((E 1).drop (wt 1)).length ≤ 8; rw [← ed1]; omega, by show wt 1 - wt 1 ≤ _; omega⟩ ⟨hg2, by show ((E 2).drop (wt 2)).length ≤ 8; rw [← ed2]; omega, by show wt 2 - wt 2 ≤ _; omega⟩ ⟨hg3, by show ((E 3).drop (wt 3)).length ≤ 8; rw [← ed3]; omega, by show wt 3 - wt 3 ≤ _; omega⟩)
      have hE3 : esR ((fun c => (E c).drop (wt c)), (fun _ => 0), (va_up (va_up (va_up fp 1 gp1) 2 gp2) 3 gp3), (va_up (va_up (va_up fv 1 gv1) 2 gv2) 3 gv3), (va_up (va_up (va_up ft 1 gt1) 2 gt2) 3 gt3)) := fun c a b => ⟨(hE2 c a b).1, (hE2 c a b).2.1, Nat.zero_le _⟩
      refine g_callvA (wr := []) (wc := [(ad 0, .inr (7, [.ref (ad 21), .ref (ad 1), .ref (ad 2), .ref (ad 3), .ref (ad 4), .ref (ad 5), .ref (ad 7), .int (nI (n 7)), .int (nI (n 8)), .int (nI (n 9)), .int (nI (n 10)), .int (nI (n 11)), .int (nI (n 12)), .int (nI (n 13)), .int (nI (n 14)), .int (nI (n 15)), .int (nI (n 16))])), (ad 4, .inl (cE, 3, .inr (.inr (.inr (.inr (evA ad)))))), (ad 9, .inr (1, [.ref (ad 10), .ref (ad 11), .ref (ad 12), .int (nI (((E 1).drop (wt 1)).length)), .int (nI (wt 1 - wt 1))])), (ad 10, .inl (G.2.2.2.1, 8, .inl gp1)), (ad 11, .inl (G.2.2.2.1, 8, .inl gv1)), (ad 12, .inl (G.2.2.2.1, 8, .inl gt1)), (ad 13, .inr (1, [.ref (ad 14), .ref (ad 15), .ref (ad 16), .int (nI (((E 2).drop (wt 2)).length)), .int (nI (wt 2 - wt 2))])), (ad 14, .inl (G.2.2.2.1, 8, .inl gp2)), (ad 15, .inl (G.2.2.2.1, 8, .inl gv2)), (ad 16, .inl (G.2.2.2.1, 8, .inl gt2)), (ad 17, .inr (1, [.ref (ad 18), .ref (ad 19), .ref (ad 20), .int (nI (((E 3).drop (wt 3)).length)), .int (nI (wt 3 - wt 3))])), (ad 18, .inl (G.2.2.2.1, 8, .inl gp3)), (ad 19, .inl (G.2.2.2.1, 8, .inl gv3)), (ad 20, .inl (G.2.2.2.1, 8, .inl gt3))]) (av := []) (rest := []) ⟨hx, hb, hml, hown, hts⟩ (k_Station_waitNoMore l G ad n cE hTE (fun c => (E c).drop (wt c)) (fun c => wt c - wt c) (va_up (va_up (va_up fp 1 gp1) 2 gp2) 3 gp3) (va_up (va_up (va_up fv 1 gv1) 2 gv2) 3 gv3) (va_up (va_up (va_up ft 1 gt1) 2 gt2) 3 gt3) hE2 h8 h9) (cwV 0 hts gX10_takeConfirm_X10_waitNoMore rfl rfl rfl (by decide +kernel) ⟨Nat.le_of_ble_eq_true rfl, Nat.le_of_ble_eq_true rfl⟩) hB (q0 := 0) (ci := 7) rfl rfl rfl rfl hl.1 rfl (Nat.le_of_ble_eq_true rfl) dX10_takeConfirm_60 ⟨Nat.le_of_ble_eq_true rfl, Nat.le_of_ble_eq_true rfl⟩ (fun u H locs hw hB => ?_)
      obtain rfl := hw
      have hB : gB G.1 (rT G) A s H locs [(ad 0, .inr (7, [.ref (ad 21), .ref (ad 1), .ref (ad 2), .ref (ad 3), .ref (ad 4), .ref (ad 5), .ref (ad 7), .int (nI (n 7)), .int (nI (n 8)), .int (nI (n 9)), .int (nI 0), .int (nI (n 11)), .int (nI (n 12)), .int (nI (n 13)), .int (nI (n 14)), .int (nI (n 15)), .int (nI (n 16))])), (ad 4, .inl (cE, 3, .inr (.inr (.inr (.inr (evA ad)))))), (ad 9, .inr (1, [.ref (ad 10), .ref (ad 11), .ref (ad 12), .int (nI (((E 1).drop (wt 1)).length)), .int (nI 0)])), (ad 10, .inl (G.2.2.2.1, 8, .inl gp1)), (ad 11, .inl (G.2.2.2.1, 8, .inl gv1)), (ad 12, .inl (G.2.2.2.1, 8, .inl gt1)), (ad 13, .inr (1, [.ref (ad 14), .ref (ad 15), .ref (ad 16), .int (nI (((E 2).drop (wt 2)).length)), .int (nI 0)])), (ad 14, .inl (G.2.2.2.1, 8, .inl gp2)), (ad 15, .inl (G.2.2.2.1, 8, .inl gv2)), (ad 16, .inl (G.2.2.2.1, 8, .inl gt2)), (ad 17, .inr (1, [.ref (ad 18), .ref (ad 19), .ref (ad 20), .int (nI (((E 3).drop (wt 3)).length)), .int (nI 0)])), (ad 18, .inl (G.2.2.2.1, 8, .inl gp3)), (ad 19, .inl (G.2.2.2.1, 8, .inl gv3)), (ad 20, .inl (G.2.2.2.1, 8, .inl gt3))] := hB
      exact g_vret (S := (Nat → Nat) × eS) (Wd := stW G ad cE) (va_up n 10 0, (fun c => (E c).drop (wt c)), (fun _ => 0), (va_up (va_up (va_up fp 1 gp1) 2 gp2) 3 gp3), (va_up (va_up (va_up fv 1 gv1) 2 gv2) 3 gv3), (va_up (va_up (va_up ft 1 gt1) 2 gt2) 3 gt3)) hB hx hb hr hlocks rfl (by rw [if_pos hcf, if_pos hcf, if_pos hcf]; exact ⟨_, _, _, hE3, rfl⟩) dX10_takeConfirm_63
    · have c_3 : ¬ (n 11) = (x &&& 15) := fun h9 => c_3 ((nI_eq (a := (n 11)) (b := (x &&& 15)) (by omega) (by omega)).mpr h9)
      exact g_vret (S := (Nat → Nat) × eS) (Wd := stW G ad cE) (n, E, wt, fp, fv, ft) hB hx hb hr hlocks rfl (by rw [if_neg (fun z : cfC n x => c_3 z.2), if_neg (fun z : cfC n x => c_3 z.2), if_neg (fun z : cfC n x => c_3 z.2)]; exact ⟨fp, fv, ft, hE, rfl⟩) dX10_takeConfirm_36
set_option maxRecDepth 100000 in
set_option maxHeartbeats 2000000 in
/-- Station.putStates() -/
theorem k_Station_putStates (l : Launch) (G : rG) (ad n : Nat → Nat) (h8 : n 8 ≤ 1) (h9 : n 9 ≤ 1) (f2 : Nat → Int32) (rf : Nat → Int32) (rl : List Int32) (hrp : pfx rf rl) (hrl : rl.length ≤ 160) (hroom : rl.length + 33 ≤ 160) : gM l G.1 (rT G) yX10_putStates wsX10_putStates { frames := 2, cells := 0, slots := 0, locals := 44 } [.ref (ad 0)] [(ad 0, .inr (7, [.ref (ad 21), .ref (ad 1), .ref (ad 2), .ref (ad 3), .ref (ad 4), .ref (ad 5), .ref (ad 7), .int (nI (n 7)), .int (nI (n 8)), .int (nI (n 9)), .int (nI (n 10)), .int (nI (n 11)), .int (nI (n 12)), .int (nI (n 13)), .int (nI (n 14)), .int (nI (n 15)), .int (nI (n 16))])), (ad 2, .inl (G.2.2.2.1, 10, .inl f2)), (ad 5, .inr (0, [.ref (ad 6), .int (nI rl.length)])), (ad 6, .inl (G.2.2.2.1, 160, .inl rf))] (gQv G.1 (rT G) (fun u : Int32 × (Nat → Int32) => ∃ f9, pfx f9 (rl ++ ptG f2) ∧ u = (nI (rl ++ ptG f2).length, f9)) (fun u => stO ad n :: (ad 2, .inl (G.2.2.2.1, 10, .inl f2)) :: bW G (ad 5) (ad 6) 160 u)) 0 0 := by
  refine gM.of (cc := cX10_putStates) (maxL := 2) (ret := none) (by decide) rfl (Nat.le_of_ble_eq_true rfl) ?_
  intro p e s m below meth c A ls hx hb hr hml hown hts hlocks hnm hB hl
  have hl : lv_has ls 2 [(0, .ref (ad 0))] := hl
  refine lv_aload_n hx hb dX10_putStates_0 rfl (lv_at hl 0 rfl) ?_
  refine g_get (own := RX10) (C := RX10) (T := TX10) (N := 17) (ci := 7) (v := .ref (ad 5)) hx hb hts (fun _ h => List.mem_cons_of_mem _ (List.mem_append_left _ (List.mem_append_right _ h))) hown hB 0 rfl rfl 5 (by decide) (hts (.fieldLink RX10 32 "PointReports$Station" "response" "LPointReports$Bytes;") (by decide +kernel)) rfl rfl dX10_putStates_1 ?_
  refine lv_bipush (v := nI 30) hx hb dX10_putStates_4 (by decide) ?_
  refine g_calliA (wr := [(ad 0, .inr (7, [.ref (ad 21), .ref (ad 1), .ref (ad 2), .ref (ad 3), .ref (ad 4), .ref (ad 5), .ref (ad 7), .int (nI (n 7)), .int (nI (n 8)), .int (nI (n 9)), .int (nI (n 10)), .int (nI (n 11)), .int (nI (n 12)), .int (nI (n 13)), .int (nI (n 14)), .int (nI (n 15)), .int (nI (n 16))])), (ad 2, .inl (G.2.2.2.1, 10, .inl f2))]) (wc := [(ad 5, .inr (0, [.ref (ad 6), .int (nI rl.length)])), (ad 6, .inl (G.2.2.2.1, 160, .inl rf))]) (av := [.int (nI 30)]) (rest := []) ⟨hx, hb, hml, hown, hts⟩ (k_Bytes_add l G (ad 5) (ad 6) 160 rf rl hrp hrl (by decide) (nI 30)) (cwV 1 hts gX10_putStates_X1_add rfl rfl rfl (by decide +kernel) ⟨Nat.le_of_ble_eq_true rfl, Nat.le_of_ble_eq_true rfl⟩) hB (q0 := 0) (ci := 0) rfl rfl rfl rfl hl.1 rfl (Nat.le_of_ble_eq_true rfl) dX10_putStates_6 ⟨Nat.le_of_ble_eq_true rfl, Nat.le_of_ble_eq_true rfl⟩ (fun r9 u H locs hw hB => ?_)
  have hpo := hw
  have hB : gB G.1 (rT G) A s H locs [(ad 0, .inr (7, [.ref (ad 21), .ref (ad 1), .ref (ad 2), .ref (ad 3), .ref (ad 4), .ref (ad 5), .ref (ad 7), .int (nI (n 7)), .int (nI (n 8)), .int (nI (n 9)), .int (nI (n 10)), .int (nI (n 11)), .int (nI (n 12)), .int (nI (n 13)), .int (nI (n 14)), .int (nI (n 15)), .int (nI (n 16))])), (ad 2, .inl (G.2.2.2.1, 10, .inl f2)), (ad 5, .inr (0, [.ref (ad 6), .int u.1])), (ad 6, .inl (G.2.2.2.1, 160, .inl u.2))] := hB
  rw [if_pos (show rl.length < 160 from by omega)] at hpo
  obtain ⟨-, f_27, q_27, rfl⟩ := hpo
  obtain ⟨L_27, eL_27⟩ : ∃ L9 : List Int32, L9 = rl ++ [(nI 30) &&& 255] := ⟨_, rfl⟩
  have hL_27 : pfx f_27 L_27 := by rw [eL_27]; exact q_27
  have nL_27 : L_27.length = rl.length + 1 := by rw [eL_27]; rw [List.length_append]; rfl
  have lL_27 : L_27.length ≤ 160 := by omega
  have hB : gB G.1 (rT G) A s H locs [(ad 0, .inr (7, [.ref (ad 21), .ref (ad 1), .ref (ad 2), .ref (ad 3), .ref (ad 4), .ref (ad 5), .ref (ad 7), .int (nI (n 7)), .int (nI (n 8)), .int (nI (n 9)), .int (nI (n 10)), .int (nI (n 11)), .int (nI (n 12)), .int (nI (n 13)), .int (nI (n 14)), .int (nI (n 15)), .int (nI (n 16))])), (ad 2, .inl (G.2.2.2.1, 10, .inl f2)), (ad 5, .inr (0, [.ref (ad 6), .int (nI L_27.length)])), (ad 6, .inl (G.2.2.2.1, 160, .inl f_27))] := by rw [nL_27]; exact hB
  refine lv_pop hx hb dX10_putStates_9 rfl ?_
  refine lv_aload_n hx hb dX10_putStates_10 rfl (lv_at hl 0 rfl) ?_
  refine g_get (own := RX10) (C := RX10) (T := TX10) (N := 17) (ci := 7) (v := .ref (ad 5)) hx hb hts (fun _ h => List.mem_cons_of_mem _ (List.mem_append_left _ (List.mem_append_right _ h))) hown hB 0 rfl rfl 5 (by decide) (hts (.fieldLink RX10 32 "PointReports$Station" "response" "LPointReports$Bytes;") (by decide +kernel)) rfl rfl dX10_putStates_11 ?_
  refine lv_iconst (v := nI 2) hx hb dX10_putStates_14 (by decide) ?_
  refine g_calliA (wr := [(ad 0, .inr (7, [.ref (ad 21), .ref (ad 1), .ref (ad 2), .ref (ad 3), .ref (ad 4), .ref (ad 5), .ref (ad 7), .int (nI (n 7)), .int (nI (n 8)), .int (nI (n 9)), .int (nI (n 10)), .int (nI (n 11)), .int (nI (n 12)), .int (nI (n 13)), .int (nI (n 14)), .int (nI (n 15)), .int (nI (n 16))])), (ad 2, .inl (G.2.2.2.1, 10, .inl f2))]) (wc := [(ad 5, .inr (0, [.ref (ad 6), .int (nI L_27.length)])), (ad 6, .inl (G.2.2.2.1, 160, .inl f_27))]) (av := [.int (nI 2)]) (rest := []) ⟨hx, hb, hml, hown, hts⟩ (k_Bytes_add l G (ad 5) (ad 6) 160 f_27 L_27 hL_27 lL_27 (by decide) (nI 2)) (cwV 1 hts gX10_putStates_X1_add rfl rfl rfl (by decide +kernel) ⟨Nat.le_of_ble_eq_true rfl, Nat.le_of_ble_eq_true rfl⟩) hB (q0 := 0) (ci := 0) rfl rfl rfl rfl hl.1 rfl (Nat.le_of_ble_eq_true rfl) dX10_putStates_15 ⟨Nat.le_of_ble_eq_true rfl, Nat.le_of_ble_eq_true rfl⟩ (fun r9 u H locs hw hB => ?_)
  have hpo := hw
  have hB : gB G.1 (rT G) A s H locs [(ad 0, .inr (7, [.ref (ad 21), .ref (ad 1), .ref (ad 2), .ref (ad 3), .ref (ad 4), .ref (ad 5), .ref (ad 7), .int (nI (n 7)), .int (nI (n 8)), .int (nI (n 9)), .int (nI (n 10)), .int (nI (n 11)), .int (nI (n 12)), .int (nI (n 13)), .int (nI (n 14)), .int (nI (n 15)), .int (nI (n 16))])), (ad 2, .inl (G.2.2.2.1, 10, .inl f2)), (ad 5, .inr (0, [.ref (ad 6), .int u.1])), (ad 6, .inl (G.2.2.2.1, 160, .inl u.2))] := hB
  rw [if_pos (show L_27.length < 160 from by omega)] at hpo
  obtain ⟨-, f_28, q_28, rfl⟩ := hpo
  obtain ⟨L_28, eL_28⟩ : ∃ L9 : List Int32, L9 = L_27 ++ [(nI 2) &&& 255] := ⟨_, rfl⟩
  have hL_28 : pfx f_28 L_28 := by rw [eL_28]; exact q_28
  have nL_28 : L_28.length = L_27.length + 1 := by rw [eL_28]; rw [List.length_append]; rfl
  have lL_28 : L_28.length ≤ 160 := by omega
  have hB : gB G.1 (rT G) A s H locs [(ad 0, .inr (7, [.ref (ad 21), .ref (ad 1), .ref (ad 2), .ref (ad 3), .ref (ad 4), .ref (ad 5), .ref (ad 7), .int (nI (n 7)), .int (nI (n 8)), .int (nI (n 9)), .int (nI (n 10)), .int (nI (n 11)), .int (nI (n 12)), .int (nI (n 13)), .int (nI (n 14)), .int (nI (n 15)), .int (nI (n 16))])), (ad 2, .inl (G.2.2.2.1, 10, .inl f2)), (ad 5, .inr (0, [.ref (ad 6), .int (nI L_28.length)])), (ad 6, .inl (G.2.2.2.1, 160, .inl f_28))] := by rw [nL_28]; exact hB
  refine lv_pop hx hb dX10_putStates_18 rfl ?_
  refine lv_aload_n hx hb dX10_putStates_19 rfl (lv_at hl 0 rfl) ?_
  refine g_get (own := RX10) (C := RX10) (T := TX10) (N := 17) (ci := 7) (v := .ref (ad 5)) hx hb hts (fun _ h => List.mem_cons_of_mem _ (List.mem_append_left _ (List.mem_append_right _ h))) hown hB 0 rfl rfl 5 (by decide) (hts (.fieldLink RX10 32 "PointReports$Station" "response" "LPointReports$Bytes;") (by decide +kernel)) rfl rfl dX10_putStates_20 ?_
  refine lv_bipush (v := nI 10) hx hb dX10_putStates_23 (by decide) ?_
  refine g_calliA (wr := [(ad 0, .inr (7, [.ref (ad 21), .ref (ad 1), .ref (ad 2), .ref (ad 3), .ref (ad 4), .ref (ad 5), .ref (ad 7), .int (nI (n 7)), .int (nI (n 8)), .int (nI (n 9)), .int (nI (n 10)), .int (nI (n 11)), .int (nI (n 12)), .int (nI (n 13)), .int (nI (n 14)), .int (nI (n 15)), .int (nI (n 16))])), (ad 2, .inl (G.2.2.2.1, 10, .inl f2))]) (wc := [(ad 5, .inr (0, [.ref (ad 6), .int (nI L_28.length)])), (ad 6, .inl (G.2.2.2.1, 160, .inl f_28))]) (av := [.int (nI 10)]) (rest := []) ⟨hx, hb, hml, hown, hts⟩ (k_Bytes_add l G (ad 5) (ad 6) 160 f_28 L_28 hL_28 lL_28 (by decide) (nI 10)) (cwV 1 hts gX10_putStates_X1_add rfl rfl rfl (by decide +kernel) ⟨Nat.le_of_ble_eq_true rfl, Nat.le_of_ble_eq_true rfl⟩) hB (q0 := 0) (ci := 0) rfl rfl rfl rfl hl.1 rfl (Nat.le_of_ble_eq_true rfl) dX10_putStates_25 ⟨Nat.le_of_ble_eq_true rfl, Nat.le_of_ble_eq_true rfl⟩ (fun r9 u H locs hw hB => ?_)
  have hpo := hw
  have hB : gB G.1 (rT G) A s H locs [(ad 0, .inr (7, [.ref (ad 21), .ref (ad 1), .ref (ad 2), .ref (ad 3), .ref (ad 4), .ref (ad 5), .ref (ad 7), .int (nI (n 7)), .int (nI (n 8)), .int (nI (n 9)), .int (nI (n 10)), .int (nI (n 11)), .int (nI (n 12)), .int (nI (n 13)), .int (nI (n 14)), .int (nI (n 15)), .int (nI (n 16))])), (ad 2, .inl (G.2.2.2.1, 10, .inl f2)), (ad 5, .inr (0, [.ref (ad 6), .int u.1])), (ad 6, .inl (G.2.2.2.1, 160, .inl u.2))] := hB
  rw [if_pos (show L_28.length < 160 from by omega)] at hpo
  obtain ⟨-, f_29, q_29, rfl⟩ := hpo
  obtain ⟨L_29, eL_29⟩ : ∃ L9 : List Int32, L9 = L_28 ++ [(nI 10) &&& 255] := ⟨_, rfl⟩
  have hL_29 : pfx f_29 L_29 := by rw [eL_29]; exact q_29
  have nL_29 : L_29.length = L_28.length + 1 := by rw [eL_29]; rw [List.length_append]; rfl
  have lL_29 : L_29.length ≤ 160 := by omega
  have hB : gB G.1 (rT G) A s H locs [(ad 0, .inr (7, [.ref (ad 21), .ref (ad 1), .ref (ad 2), .ref (ad 3), .ref (ad 4), .ref (ad 5), .ref (ad 7), .int (nI (n 7)), .int (nI (n 8)), .int (nI (n 9)), .int (nI (n 10)), .int (nI (n 11)), .int (nI (n 12)), .int (nI (n 13)), .int (nI (n 14)), .int (nI (n 15)), .int (nI (n 16))])), (ad 2, .inl (G.2.2.2.1, 10, .inl f2)), (ad 5, .inr (0, [.ref (ad 6), .int (nI L_29.length)])), (ad 6, .inl (G.2.2.2.1, 160, .inl f_29))] := by rw [nL_29]; exact hB
  refine lv_pop hx hb dX10_putStates_28 rfl ?_
  refine lv_iconst (v := nI 0) hx hb dX10_putStates_29 (by decide) ?_
  refine lv_istore_n (lv' := [(1, .int (nI 0)), (0, .ref (ad 0))]) hx hb dX10_putStates_30 rfl hl (by decide) rfl (fun ls hl => ?_)
  have hl : lv_has ls 2 [(1, .int (nI 0)), (0, .ref (ad 0))] := lv_sub hl [0, 1] rfl
  have hB : gB G.1 (rT G) A s H locs [(ad 0, .inr (7, [.ref (ad 21), .ref (ad 1), .ref (ad 2), .ref (ad 3), .ref (ad 4), .ref (ad 5), .ref (ad 7), .int (nI (n 7)), .int (nI (n 8)), .int (nI (n 9)), .int (nI (n 10)), .int (nI (n 11)), .int (nI (n 12)), .int (nI (n 13)), .int (nI (n 14)), .int (nI (n 15)), .int (nI (n 16))])), (ad 2, .inl (G.2.2.2.1, 10, .inl f2)), (ad 5, .inr (0, [.ref (ad 6), .int (nI L_29.length)])), (ad 6, .inl (G.2.2.2.1, 160, .inl f_29))] := hB
  refine g_loop (σ := Nat × (Nat → Int32) × (List Int32)) (fun d xv H locs ls => (xv.1 + d = 10) ∧ (pfx xv.2.1 xv.2.2) ∧ (xv.2.2 = rl ++ ([nI 30 &&& 255, nI 2 &&& 255, nI 10 &&& 255] ++ ptN f2 xv.1)) ∧ gB G.1 (rT G) A s H locs [(ad 0, .inr (7, [.ref (ad 21), .ref (ad 1), .ref (ad 2), .ref (ad 3), .ref (ad 4), .ref (ad 5), .ref (ad 7), .int (nI (n 7)), .int (nI (n 8)), .int (nI (n 9)), .int (nI (n 10)), .int (nI (n 11)), .int (nI (n 12)), .int (nI (n 13)), .int (nI (n 14)), .int (nI (n 15)), .int (nI (n 16))])), (ad 2, .inl (G.2.2.2.1, 10, .inl f2)), (ad 5, .inr (0, [.ref (ad 6), .int (nI xv.2.2.length)])), (ad 6, .inl (G.2.2.2.1, 160, .inl xv.2.1))] ∧ lv_has ls 2 [(1, .int (nI xv.1)), (0, .ref (ad 0))]) 10 (0, f_29, L_29) ⟨by omega, hL_29, by rw [eL_29, eL_28, eL_27]; simp only [List.append_assoc]; rfl, hB, hl⟩ ?_
  rintro d ⟨j, g, L⟩ H locs ls ⟨hj, hg, hL, hB, hl⟩ ih_1
  have hj : j + d = 10 := hj
  have hg : pfx g L := hg
  have hL : L = rl ++ ([nI 30 &&& 255, nI 2 &&& 255, nI 10 &&& 255] ++ ptN f2 j) := hL
  have hB : gB G.1 (rT G) A s H locs [(ad 0, .inr (7, [.ref (ad 21), .ref (ad 1), .ref (ad 2), .ref (ad 3), .ref (ad 4), .ref (ad 5), .ref (ad 7), .int (nI (n 7)), .int (nI (n 8)), .int (nI (n 9)), .int (nI (n 10)), .int (nI (n 11)), .int (nI (n 12)), .int (nI (n 13)), .int (nI (n 14)), .int (nI (n 15)), .int (nI (n 16))])), (ad 2, .inl (G.2.2.2.1, 10, .inl f2)), (ad 5, .inr (0, [.ref (ad 6), .int (nI L.length)])), (ad 6, .inl (G.2.2.2.1, 160, .inl g))] := hB
  have hl : lv_has ls 2 [(1, .int (nI j)), (0, .ref (ad 0))] := hl
  have nL : L.length = rl.length + (3 + 3 * j) := by rw [hL, List.length_append, List.length_append, ptN_len]; rfl
  have lL : L.length ≤ 160 := by omega
  refine lv_iload_n hx hb dX10_putStates_31 rfl (lv_at hl 0 rfl) ?_
  refine lv_bipush (v := nI 10) hx hb dX10_putStates_32 (by decide) ?_
  refine lv_icmp_ge (tgt := 66) hx hb dX10_putStates_34 (by decide) (fun c_2 => ?_) (fun c_2 => ?_)
  · have c_2 : 10 ≤ j := (nI_leI (a := 10) (b := j) (by omega) (by omega)).mp c_2
    have hj9 : j = 10 := by omega
    subst hj9
    have eg : L = rl ++ ptG f2 := hL
    exact g_vret (S := Int32 × (Nat → Int32)) (Wd := fun u => stO ad n :: (ad 2, .inl (G.2.2.2.1, 10, .inl f2)) :: bW G (ad 5) (ad 6) 160 u) (nI L.length, g) hB hx hb hr hlocks rfl ⟨g, by rw [← eg]; exact hg, by rw [eg]⟩ dX10_putStates_66
  · have c_2 : ¬ 10 ≤ j := fun h9 => c_2 ((nI_leI (a := 10) (b := j) (by omega) (by omega)).mpr h9)
    refine lv_aload_n hx hb dX10_putStates_37 rfl (lv_at hl 1 rfl) ?_
    refine g_get (own := RX10) (C := RX10) (T := TX10) (N := 17) (ci := 7) (v := .ref (ad 5)) hx hb hts (fun _ h => List.mem_cons_of_mem _ (List.mem_append_left _ (List.mem_append_right _ h))) hown hB 0 rfl rfl 5 (by decide) (hts (.fieldLink RX10 32 "PointReports$Station" "response" "LPointReports$Bytes;") (by decide +kernel)) rfl rfl dX10_putStates_38 ?_
    refine lv_iload_n hx hb dX10_putStates_41 rfl (lv_at hl 0 rfl) ?_
    refine g_calliA (wr := [(ad 0, .inr (7, [.ref (ad 21), .ref (ad 1), .ref (ad 2), .ref (ad 3), .ref (ad 4), .ref (ad 5), .ref (ad 7), .int (nI (n 7)), .int (nI (n 8)), .int (nI (n 9)), .int (nI (n 10)), .int (nI (n 11)), .int (nI (n 12)), .int (nI (n 13)), .int (nI (n 14)), .int (nI (n 15)), .int (nI (n 16))])), (ad 2, .inl (G.2.2.2.1, 10, .inl f2))]) (wc := [(ad 5, .inr (0, [.ref (ad 6), .int (nI L.length)])), (ad 6, .inl (G.2.2.2.1, 160, .inl g))]) (av := [.int (nI j)]) (rest := []) ⟨hx, hb, hml, hown, hts⟩ (k_Bytes_add l G (ad 5) (ad 6) 160 g L hg lL (by decide) (nI j)) (cwV 1 hts gX10_putStates_X1_add rfl rfl rfl (by decide +kernel) ⟨Nat.le_of_ble_eq_true rfl, Nat.le_of_ble_eq_true rfl⟩) hB (q0 := 0) (ci := 0) rfl rfl rfl rfl hl.1 rfl (Nat.le_of_ble_eq_true rfl) dX10_putStates_42 ⟨Nat.le_of_ble_eq_true rfl, Nat.le_of_ble_eq_true rfl⟩ (fun r9 u H locs hw hB => ?_)
    have hpo := hw
    have hB : gB G.1 (rT G) A s H locs [(ad 0, .inr (7, [.ref (ad 21), .ref (ad 1), .ref (ad 2), .ref (ad 3), .ref (ad 4), .ref (ad 5), .ref (ad 7), .int (nI (n 7)), .int (nI (n 8)), .int (nI (n 9)), .int (nI (n 10)), .int (nI (n 11)), .int (nI (n 12)), .int (nI (n 13)), .int (nI (n 14)), .int (nI (n 15)), .int (nI (n 16))])), (ad 2, .inl (G.2.2.2.1, 10, .inl f2)), (ad 5, .inr (0, [.ref (ad 6), .int u.1])), (ad 6, .inl (G.2.2.2.1, 160, .inl u.2))] := hB
    rw [if_pos (show L.length < 160 from by omega)] at hpo
    obtain ⟨-, f_30, q_30, rfl⟩ := hpo
    obtain ⟨L_30, eL_30⟩ : ∃ L9 : List Int32, L9 = L ++ [(nI j) &&& 255] := ⟨_, rfl⟩
    have hL_30 : pfx f_30 L_30 := by rw [eL_30]; exact q_30
    have nL_30 : L_30.length = L.length + 1 := by rw [eL_30]; rw [List.length_append]; rfl
    have lL_30 : L_30.length ≤ 160 := by omega
    have hB : gB G.1 (rT G) A s H locs [(ad 0, .inr (7, [.ref (ad 21), .ref (ad 1), .ref (ad 2), .ref (ad 3), .ref (ad 4), .ref (ad 5), .ref (ad 7), .int (nI (n 7)), .int (nI (n 8)), .int (nI (n 9)), .int (nI (n 10)), .int (nI (n 11)), .int (nI (n 12)), .int (nI (n 13)), .int (nI (n 14)), .int (nI (n 15)), .int (nI (n 16))])), (ad 2, .inl (G.2.2.2.1, 10, .inl f2)), (ad 5, .inr (0, [.ref (ad 6), .int (nI L_30.length)])), (ad 6, .inl (G.2.2.2.1, 160, .inl f_30))] := by rw [nL_30]; exact hB
    refine lv_pop hx hb dX10_putStates_45 rfl ?_
    refine lv_aload_n hx hb dX10_putStates_46 rfl (lv_at hl 1 rfl) ?_
    refine g_get (own := RX10) (C := RX10) (T := TX10) (N := 17) (ci := 7) (v := .ref (ad 5)) hx hb hts (fun _ h => List.mem_cons_of_mem _ (List.mem_append_left _ (List.mem_append_right _ h))) hown hB 0 rfl rfl 5 (by decide) (hts (.fieldLink RX10 32 "PointReports$Station" "response" "LPointReports$Bytes;") (by decide +kernel)) rfl rfl dX10_putStates_47 ?_
    refine lv_aload_n hx hb dX10_putStates_50 rfl (lv_at hl 1 rfl) ?_
    refine g_get (own := RX10) (C := RX10) (T := TX10) (N := 17) (ci := 7) (v := .ref (ad 2)) hx hb hts (fun _ h => List.mem_cons_of_mem _ (List.mem_append_left _ (List.mem_append_right _ h))) hown hB 0 rfl rfl 2 (by decide) (hts (.fieldLink RX10 15 "PointReports$Station" "values" "[I") (by decide +kernel)) rfl rfl dX10_putStates_51 ?_
    refine lv_iload_n hx hb dX10_putStates_54 rfl (lv_at hl 0 rfl) ?_
    refine g_ald hx hb hB 1 0 rfl rfl j rfl (by omega) (by omega) dX10_putStates_55 ?_
    refine lv_iconst (v := nI 2) hx hb dX10_putStates_56 (by decide) ?_
    refine g_callvA (wr := [(ad 0, .inr (7, [.ref (ad 21), .ref (ad 1), .ref (ad 2), .ref (ad 3), .ref (ad 4), .ref (ad 5), .ref (ad 7), .int (nI (n 7)), .int (nI (n 8)), .int (nI (n 9)), .int (nI (n 10)), .int (nI (n 11)), .int (nI (n 12)), .int (nI (n 13)), .int (nI (n 14)), .int (nI (n 15)), .int (nI (n 16))])), (ad 2, .inl (G.2.2.2.1, 10, .inl f2))]) (wc := [(ad 5, .inr (0, [.ref (ad 6), .int (nI L_30.length)])), (ad 6, .inl (G.2.2.2.1, 160, .inl f_30))]) (av := [.int (f2 j), .int (nI 2)]) (rest := []) ⟨hx, hb, hml, hown, hts⟩ (k_Bytes_addNumber l G (ad 5) (ad 6) 160 f_30 L_30 hL_30 lL_30 (by decide) (f2 j) 2 (by decide) (by omega)) (cwV 2 hts gX10_putStates_X1_addNumber rfl rfl rfl (by decide +kernel) ⟨Nat.le_of_ble_eq_true rfl, Nat.le_of_ble_eq_true rfl⟩) hB (q0 := 0) (ci := 0) rfl rfl rfl rfl hl.1 rfl (Nat.le_of_ble_eq_true rfl) dX10_putStates_57 ⟨Nat.le_of_ble_eq_true rfl, Nat.le_of_ble_eq_true rfl⟩ (fun u H locs hw hB => ?_)
    obtain ⟨f_31, q_31, rfl⟩ := hw
    have hB : gB G.1 (rT G) A s H locs [(ad 0, .inr (7, [.ref (ad 21), .ref (ad 1), .ref (ad 2), .ref (ad 3), .ref (ad 4), .ref (ad 5), .ref (ad 7), .int (nI (n 7)), .int (nI (n 8)), .int (nI (n 9)), .int (nI (n 10)), .int (nI (n 11)), .int (nI (n 12)), .int (nI (n 13)), .int (nI (n 14)), .int (nI (n 15)), .int (nI (n 16))])), (ad 2, .inl (G.2.2.2.1, 10, .inl f2)), (ad 5, .inr (0, [.ref (ad 6), .int (nI (L_30.length + 2))])), (ad 6, .inl (G.2.2.2.1, 160, .inl f_31))] := hB
    obtain ⟨L_31, eL_31⟩ : ∃ L9 : List Int32, L9 = L_30 ++ bN (f2 j) 2 := ⟨_, rfl⟩
    have hL_31 : pfx f_31 L_31 := by rw [eL_31]; exact q_31
    have nL_31 : L_31.length = L_30.length + 2 := by rw [eL_31]; rw [List.length_append, bN_len]
    have lL_31 : L_31.length ≤ 160 := by omega
    have hB : gB G.1 (rT G) A s H locs [(ad 0, .inr (7, [.ref (ad 21), .ref (ad 1), .ref (ad 2), .ref (ad 3), .ref (ad 4), .ref (ad 5), .ref (ad 7), .int (nI (n 7)), .int (nI (n 8)), .int (nI (n 9)), .int (nI (n 10)), .int (nI (n 11)), .int (nI (n 12)), .int (nI (n 13)), .int (nI (n 14)), .int (nI (n 15)), .int (nI (n 16))])), (ad 2, .inl (G.2.2.2.1, 10, .inl f2)), (ad 5, .inr (0, [.ref (ad 6), .int (nI L_31.length)])), (ad 6, .inl (G.2.2.2.1, 160, .inl f_31))] := by rw [nL_31]; exact hB
    refine lv_iinc (v := nI (j + 1)) (lv' := [(1, .int (nI (j + 1))), (0, .ref (ad 0))]) hx hb dX10_putStates_60 hl (k := 0) rfl (nI_add _ _) (by decide) rfl (fun ls hl => ?_)
    refine lv_goto (tgt := 31) hx hb dX10_putStates_63 (by decide) ?_
    have hl : lv_has ls 2 [(1, .int (nI (j + 1))), (0, .ref (ad 0))] := lv_sub hl [0, 1] rfl
    have hB : gB G.1 (rT G) A s H locs [(ad 0, .inr (7, [.ref (ad 21), .ref (ad 1), .ref (ad 2), .ref (ad 3), .ref (ad 4), .ref (ad 5), .ref (ad 7), .int (nI (n 7)), .int (nI (n 8)), .int (nI (n 9)), .int (nI (n 10)), .int (nI (n 11)), .int (nI (n 12)), .int (nI (n 13)), .int (nI (n 14)), .int (nI (n 15)), .int (nI (n 16))])), (ad 2, .inl (G.2.2.2.1, 10, .inl f2)), (ad 5, .inr (0, [.ref (ad 6), .int (nI L_31.length)])), (ad 6, .inl (G.2.2.2.1, 160, .inl f_31))] := hB
    have b_3 : (j + 1) + (d - 1) = 10 := by omega
    have b_4 : pfx f_31 L_31 := hL_31
    have b_5 : L_31 = rl ++ ([nI 30 &&& 255, nI 2 &&& 255, nI 10 &&& 255] ++ ptN f2 (j + 1)) := by rw [eL_31, eL_30, hL, ptN]; simp only [List.append_assoc]
    exact ih_1 (d - 1) (j + 1, f_31, L_31) H locs ls (by omega) ⟨b_3, b_4, b_5, hB, hl⟩
def mrW (G : rG) (ad : Nat → Nat) (cE : ClassId) (f2 : Nat → Int32) (ca da kz : Nat) (b : Int32 × (Nat → Int32)) (u : ((Nat → Nat) × eS) × (Int32 × (Nat → Int32))) : va_W := stW G ad cE u.1 ++ ((ad 2, .inl (G.2.2.2.1, 10, .inl f2)) :: (bW G (ad 5) (ad 6) 160 u.2 ++ bW G ca da kz b))
set_option maxRecDepth 100000 in
set_option maxHeartbeats 2000000 in
/-- Station.makeResponse(read) -/
theorem k_Station_makeResponse (l : Launch) (G : rG) (ad n : Nat → Nat) (cE : ClassId) (hTE : (rT G)[3]? = some (cE, .object RX2)) (E : evL) (wt : Nat → Nat) (fp fv ft : Nat → Nat → Int32) (hE : esR (E, wt, fp, fv, ft)) (h8 : n 8 ≤ 1) (h9 : n 9 ≤ 1) (f2 : Nat → Int32) (rf : Nat → Int32) (rl : List Int32) (hrp : pfx rf rl) (hrl : rl.length ≤ 160) (ca da kz : Nat) (g : Nat → Int32) (bl : List Int32) (hq : pfx g bl) (hqn : bl.length ≤ kz) (hk9 : kz < 1000000) (hFB : ∀ x ∈ bl, isB x) (rd : List Nat) (hrd : rd = rdN bl) (has : asF rd) : gM l G.1 (rT G) yX10_makeResponse wsX10_makeResponse { frames := 3, cells := 0, slots := 0, locals := 69 } [.ref (ad 0), .ref ca] [(ad 0, .inr (7, [.ref (ad 21), .ref (ad 1), .ref (ad 2), .ref (ad 3), .ref (ad 4), .ref (ad 5), .ref (ad 7), .int (nI (n 7)), .int (nI (n 8)), .int (nI (n 9)), .int (nI (n 10)), .int (nI (n 11)), .int (nI (n 12)), .int (nI (n 13)), .int (nI (n 14)), .int (nI (n 15)), .int (nI (n 16))])), (ad 4, .inl (cE, 3, .inr (.inr (.inr (.inr (evA ad)))))), (ad 9, .inr (1, [.ref (ad 10), .ref (ad 11), .ref (ad 12), .int (nI ((E 1).length)), .int (nI (wt 1))])), (ad 10, .inl (G.2.2.2.1, 8, .inl (fp 1))), (ad 11, .inl (G.2.2.2.1, 8, .inl (fv 1))), (ad 12, .inl (G.2.2.2.1, 8, .inl (ft 1))), (ad 13, .inr (1, [.ref (ad 14), .ref (ad 15), .ref (ad 16), .int (nI ((E 2).length)), .int (nI (wt 2))])), (ad 14, .inl (G.2.2.2.1, 8, .inl (fp 2))), (ad 15, .inl (G.2.2.2.1, 8, .inl (fv 2))), (ad 16, .inl (G.2.2.2.1, 8, .inl (ft 2))), (ad 17, .inr (1, [.ref (ad 18), .ref (ad 19), .ref (ad 20), .int (nI ((E 3).length)), .int (nI (wt 3))])), (ad 18, .inl (G.2.2.2.1, 8, .inl (fp 3))), (ad 19, .inl (G.2.2.2.1, 8, .inl (fv 3))), (ad 20, .inl (G.2.2.2.1, 8, .inl (ft 3))), (ad 2, .inl (G.2.2.2.1, 10, .inl f2)), (ad 5, .inr (0, [.ref (ad 6), .int (nI rl.length)])), (ad 6, .inl (G.2.2.2.1, 160, .inl rf)), (ca, .inr (0, [.ref da, .int (nI bl.length)])), (da, .inl (G.2.2.2.1, kz, .inl g))] (gQv G.1 (rT G) (fun u : ((Nat → Nat) × eS) × (Int32 × (Nat → Int32)) => ∃ f9, pfx f9 (rsO E f2 rd (nI (n 9))) ∧ (rsO E f2 rd (nI (n 9))).length ≤ 160 ∧ (∀ x ∈ (rsO E f2 rd (nI (n 9))), isB x) ∧ u = ((rsNm E f2 rd n, E, (rsE E f2 rd).2.2.2, fp, fv, ft), (nI (rsO E f2 rd (nI (n 9))).length, f9))) (mrW G ad cE f2 ca da kz (nI bl.length, g))) 0 0 := by
  refine gM.of (cc := cX10_makeResponse) (maxL := 7) (ret := none) (by decide) rfl (Nat.le_of_ble_eq_true rfl) ?_
  intro p e s m below meth c A ls hx hb hr hml hown hts hlocks hnm hB hl
  have hl : lv_has ls 7 [(0, .ref (ad 0)), (1, .ref ca)] := hl
  have e1 : evC (fp 1) (fv 1) (ft 1) (E 1) ∧ (E 1).length ≤ 8 ∧ wt 1 ≤ (E 1).length := hE 1 (by decide) (by decide)
  have e2 : evC (fp 2) (fv 2) (ft 2) (E 2) ∧ (E 2).length ≤ 8 ∧ wt 2 ≤ (E 2).length := hE 2 (by decide) (by decide)
  have e3 : evC (fp 3) (fv 3) (ft 3) (E 3) ∧ (E 3).length ≤ 8 ∧ wt 3 ≤ (E 3).length := hE 3 (by decide) (by decide)
  have hrl2 : rd.length = bl.length := by rw [hrd, rdN_len]
  obtain ⟨a5, a14, a3, arq⟩ := has
  obtain ⟨NN, eNN⟩ : ∃ NN, NN = rsN rd := ⟨_, rfl⟩
  have hNN : bl.length = 3 * NN + 2 ∧ NN ≤ 4 := by rw [eNN, rsN]; omega
  have hN4 : ∀ j, j < NN → 1 ≤ rd.getD (3 * j + 3) 0 ∧ rd.getD (3 * j + 3) 0 ≤ 4 := fun j hj => rq_at arq (by rw [eNN, rsN] at hj; exact hj)
  have hroom := rs_room E f2 rd (bN (nI 0) 4) rfl NN hN4
  have hmlt := mk_lt rd NN (fun k hk => (hN4 k hk).2)
  refine lv_aload_n hx hb dX10_makeResponse_0 rfl (lv_at hl 0 rfl) ?_
  refine lv_aload_n hx hb dX10_makeResponse_1 rfl (lv_at hl 0 rfl) ?_
  refine g_get (own := RX10) (C := RX10) (T := TX10) (N := 17) (ci := 7) (v := .ref (ad 5)) hx hb hts (fun _ h => List.mem_cons_of_mem _ (List.mem_append_left _ (List.mem_append_left _ (List.mem_append_right _ h)))) hown hB 0 rfl rfl 5 (by decide) (hts (.fieldLink RX10 32 "PointReports$Station" "response" "LPointReports$Bytes;") (by decide +kernel)) rfl rfl dX10_makeResponse_2 ?_
  have hB : gB G.1 (rT G) A s s.heap [] [(ad 2, .inl (G.2.2.2.1, 10, .inl f2)), (ca, .inr (0, [.ref da, .int (nI bl.length)])), (da, .inl (G.2.2.2.1, kz, .inl g)), (ad 0, .inr (7, [.ref (ad 21), .ref (ad 1), .ref (ad 2), .ref (ad 3), .ref (ad 4), .ref (ad 5), .ref (ad 7), .int (nI (n 7)), .int (nI (n 8)), .int (nI (n 9)), .int (nI (n 10)), .int (nI (n 11)), .int (nI (n 12)), .int (nI (n 13)), .int (nI (n 14)), .int (nI (n 15)), .int (nI (n 16))])), (ad 4, .inl (cE, 3, .inr (.inr (.inr (.inr (evA ad)))))), (ad 9, .inr (1, [.ref (ad 10), .ref (ad 11), .ref (ad 12), .int (nI ((E 1).length)), .int (nI (wt 1))])), (ad 10, .inl (G.2.2.2.1, 8, .inl (fp 1))), (ad 11, .inl (G.2.2.2.1, 8, .inl (fv 1))), (ad 12, .inl (G.2.2.2.1, 8, .inl (ft 1))), (ad 13, .inr (1, [.ref (ad 14), .ref (ad 15), .ref (ad 16), .int (nI ((E 2).length)), .int (nI (wt 2))])), (ad 14, .inl (G.2.2.2.1, 8, .inl (fp 2))), (ad 15, .inl (G.2.2.2.1, 8, .inl (fv 2))), (ad 16, .inl (G.2.2.2.1, 8, .inl (ft 2))), (ad 17, .inr (1, [.ref (ad 18), .ref (ad 19), .ref (ad 20), .int (nI ((E 3).length)), .int (nI (wt 3))])), (ad 18, .inl (G.2.2.2.1, 8, .inl (fp 3))), (ad 19, .inl (G.2.2.2.1, 8, .inl (fv 3))), (ad 20, .inl (G.2.2.2.1, 8, .inl (ft 3))), (ad 5, .inr (0, [.ref (ad 6), .int (nI rl.length)])), (ad 6, .inl (G.2.2.2.1, 160, .inl rf))] := hB.order [14, 17, 18, 0, 1, 2, 3, 4, 5, 6, 7, 8, 9, 10, 11, 12, 13, 15, 16] (by decide) rfl rfl
  refine g_callvA (wr := [(ad 2, .inl (G.2.2.2.1, 10, .inl f2)), (ca, .inr (0, [.ref da, .int (nI bl.length)])), (da, .inl (G.2.2.2.1, kz, .inl g))]) (wc := [(ad 0, .inr (7, [.ref (ad 21), .ref (ad 1), .ref (ad 2), .ref (ad 3), .ref (ad 4), .ref (ad 5), .ref (ad 7), .int (nI (n 7)), .int (nI (n 8)), .int (nI (n 9)), .int (nI (n 10)), .int (nI (n 11)), .int (nI (n 12)), .int (nI (n 13)), .int (nI (n 14)), .int (nI (n 15)), .int (nI (n 16))])), (ad 4, .inl (cE, 3, .inr (.inr (.inr (.inr (evA ad)))))), (ad 9, .inr (1, [.ref (ad 10), .ref (ad 11), .ref (ad 12), .int (nI ((E 1).length)), .int (nI (wt 1))])), (ad 10, .inl (G.2.2.2.1, 8, .inl (fp 1))), (ad 11, .inl (G.2.2.2.1, 8, .inl (fv 1))), (ad 12, .inl (G.2.2.2.1, 8, .inl (ft 1))), (ad 13, .inr (1, [.ref (ad 14), .ref (ad 15), .ref (ad 16), .int (nI ((E 2).length)), .int (nI (wt 2))])), (ad 14, .inl (G.2.2.2.1, 8, .inl (fp 2))), (ad 15, .inl (G.2.2.2.1, 8, .inl (fv 2))), (ad 16, .inl (G.2.2.2.1, 8, .inl (ft 2))), (ad 17, .inr (1, [.ref (ad 18), .ref (ad 19), .ref (ad 20), .int (nI ((E 3).length)), .int (nI (wt 3))])), (ad 18, .inl (G.2.2.2.1, 8, .inl (fp 3))), (ad 19, .inl (G.2.2.2.1, 8, .inl (fv 3))), (ad 20, .inl (G.2.2.2.1, 8, .inl (ft 3))), (ad 5, .inr (0, [.ref (ad 6), .int (nI rl.length)])), (ad 6, .inl (G.2.2.2.1, 160, .inl rf))]) (av := [.ref (ad 5)]) (rest := []) ⟨hx, hb, hml, hown, hts⟩ (k_Station_begin l G ad n cE hTE E wt fp fv ft hE h8 h9 (ad 5) (ad 6) rf rl hrp hrl) (cwV 1 hts gX10_makeResponse_X10_begin rfl rfl rfl (by decide +kernel) ⟨Nat.le_of_ble_eq_true rfl, Nat.le_of_ble_eq_true rfl⟩) hB (q0 := 0) (ci := 7) rfl rfl rfl rfl hl.1 rfl (Nat.le_of_ble_eq_true rfl) dX10_makeResponse_5 ⟨Nat.le_of_ble_eq_true rfl, Nat.le_of_ble_eq_true rfl⟩ (fun u H locs hw hB => ?_)
  obtain ⟨f0, hf0, rfl⟩ := hw
  have hB : gB G.1 (rT G) A s H locs [(ad 2, .inl (G.2.2.2.1, 10, .inl f2)), (ca, .inr (0, [.ref da, .int (nI bl.length)])), (da, .inl (G.2.2.2.1, kz, .inl g)), (ad 0, .inr (7, [.ref (ad 21), .ref (ad 1), .ref (ad 2), .ref (ad 3), .ref (ad 4), .ref (ad 5), .ref (ad 7), .int (nI (n 7)), .int (nI (n 8)), .int (nI (n 9)), .int (nI 0), .int (nI (n 11)), .int (nI (n 12)), .int (nI (n 13)), .int (nI (n 14)), .int (nI (n 15)), .int (nI (n 16))])), (ad 4, .inl (cE, 3, .inr (.inr (.inr (.inr (evA ad)))))), (ad 9, .inr (1, [.ref (ad 10), .ref (ad 11), .ref (ad 12), .int (nI ((E 1).length)), .int (nI 0)])), (ad 10, .inl (G.2.2.2.1, 8, .inl (fp 1))), (ad 11, .inl (G.2.2.2.1, 8, .inl (fv 1))), (ad 12, .inl (G.2.2.2.1, 8, .inl (ft 1))), (ad 13, .inr (1, [.ref (ad 14), .ref (ad 15), .ref (ad 16), .int (nI ((E 2).length)), .int (nI 0)])), (ad 14, .inl (G.2.2.2.1, 8, .inl (fp 2))), (ad 15, .inl (G.2.2.2.1, 8, .inl (fv 2))), (ad 16, .inl (G.2.2.2.1, 8, .inl (ft 2))), (ad 17, .inr (1, [.ref (ad 18), .ref (ad 19), .ref (ad 20), .int (nI ((E 3).length)), .int (nI 0)])), (ad 18, .inl (G.2.2.2.1, 8, .inl (fp 3))), (ad 19, .inl (G.2.2.2.1, 8, .inl (fv 3))), (ad 20, .inl (G.2.2.2.1, 8, .inl (ft 3))), (ad 5, .inr (0, [.ref (ad 6), .int (nI 4)])), (ad 6, .inl (G.2.2.2.1, 160, .inl f0))] := hB
  obtain ⟨L_32, eL_32⟩ : ∃ L9 : List Int32, L9 = bN (nI 0) 4 := ⟨_, rfl⟩
  have hL_32 : pfx f0 L_32 := by rw [eL_32]; exact hf0
  have nL_32 : L_32.length = 4 := by rw [eL_32]; rfl
  have lL_32 : L_32.length ≤ 160 := by omega
  have bL_32 : ∀ x ∈ L_32, isB x := by rw [eL_32]; exact bN_B _ _
  have hB : gB G.1 (rT G) A s H locs [(ad 2, .inl (G.2.2.2.1, 10, .inl f2)), (ca, .inr (0, [.ref da, .int (nI bl.length)])), (da, .inl (G.2.2.2.1, kz, .inl g)), (ad 0, .inr (7, [.ref (ad 21), .ref (ad 1), .ref (ad 2), .ref (ad 3), .ref (ad 4), .ref (ad 5), .ref (ad 7), .int (nI (n 7)), .int (nI (n 8)), .int (nI (n 9)), .int (nI 0), .int (nI (n 11)), .int (nI (n 12)), .int (nI (n 13)), .int (nI (n 14)), .int (nI (n 15)), .int (nI (n 16))])), (ad 4, .inl (cE, 3, .inr (.inr (.inr (.inr (evA ad)))))), (ad 9, .inr (1, [.ref (ad 10), .ref (ad 11), .ref (ad 12), .int (nI ((E 1).length)), .int (nI 0)])), (ad 10, .inl (G.2.2.2.1, 8, .inl (fp 1))), (ad 11, .inl (G.2.2.2.1, 8, .inl (fv 1))), (ad 12, .inl (G.2.2.2.1, 8, .inl (ft 1))), (ad 13, .inr (1, [.ref (ad 14), .ref (ad 15), .ref (ad 16), .int (nI ((E 2).length)), .int (nI 0)])), (ad 14, .inl (G.2.2.2.1, 8, .inl (fp 2))), (ad 15, .inl (G.2.2.2.1, 8, .inl (fv 2))), (ad 16, .inl (G.2.2.2.1, 8, .inl (ft 2))), (ad 17, .inr (1, [.ref (ad 18), .ref (ad 19), .ref (ad 20), .int (nI ((E 3).length)), .int (nI 0)])), (ad 18, .inl (G.2.2.2.1, 8, .inl (fp 3))), (ad 19, .inl (G.2.2.2.1, 8, .inl (fv 3))), (ad 20, .inl (G.2.2.2.1, 8, .inl (ft 3))), (ad 5, .inr (0, [.ref (ad 6), .int (nI L_32.length)])), (ad 6, .inl (G.2.2.2.1, 160, .inl f0))] := by rw [nL_32]; exact hB
  refine lv_iconst (v := nI 0) hx hb dX10_makeResponse_8 (by decide) ?_
  refine lv_istore_n (lv' := [(2, .int (nI 0)), (0, .ref (ad 0)), (1, .ref ca)]) hx hb dX10_makeResponse_9 rfl hl (by decide) rfl (fun ls hl => ?_)
  refine lv_iconst (v := nI 0) hx hb dX10_makeResponse_10 (by decide) ?_
  refine lv_istore_n (lv' := [(3, .int (nI 0)), (2, .int (nI 0)), (0, .ref (ad 0)), (1, .ref ca)]) hx hb dX10_makeResponse_11 rfl hl (by decide) rfl (fun ls hl => ?_)
  refine lv_iconst (v := nI 2) hx hb dX10_makeResponse_12 (by decide) ?_
  refine lv_istore (lv' := [(4, .int (nI 2)), (3, .int (nI 0)), (2, .int (nI 0)), (0, .ref (ad 0)), (1, .ref ca)]) hx hb dX10_makeResponse_13 hl (by decide) rfl (fun ls hl => ?_)
  have hB : gB G.1 (rT G) A s H locs [(ad 0, .inr (7, [.ref (ad 21), .ref (ad 1), .ref (ad 2), .ref (ad 3), .ref (ad 4), .ref (ad 5), .ref (ad 7), .int (nI (n 7)), .int (nI (n 8)), .int (nI (n 9)), .int (nI 0), .int (nI (n 11)), .int (nI (n 12)), .int (nI (n 13)), .int (nI (n 14)), .int (nI (n 15)), .int (nI (n 16))])), (ad 4, .inl (cE, 3, .inr (.inr (.inr (.inr (evA ad)))))), (ad 9, .inr (1, [.ref (ad 10), .ref (ad 11), .ref (ad 12), .int (nI ((E 1).length)), .int (nI 0)])), (ad 10, .inl (G.2.2.2.1, 8, .inl (fp 1))), (ad 11, .inl (G.2.2.2.1, 8, .inl (fv 1))), (ad 12, .inl (G.2.2.2.1, 8, .inl (ft 1))), (ad 13, .inr (1, [.ref (ad 14), .ref (ad 15), .ref (ad 16), .int (nI ((E 2).length)), .int (nI 0)])), (ad 14, .inl (G.2.2.2.1, 8, .inl (fp 2))), (ad 15, .inl (G.2.2.2.1, 8, .inl (fv 2))), (ad 16, .inl (G.2.2.2.1, 8, .inl (ft 2))), (ad 17, .inr (1, [.ref (ad 18), .ref (ad 19), .ref (ad 20), .int (nI ((E 3).length)), .int (nI 0)])), (ad 18, .inl (G.2.2.2.1, 8, .inl (fp 3))), (ad 19, .inl (G.2.2.2.1, 8, .inl (fv 3))), (ad 20, .inl (G.2.2.2.1, 8, .inl (ft 3))), (ad 2, .inl (G.2.2.2.1, 10, .inl f2)), (ad 5, .inr (0, [.ref (ad 6), .int (nI L_32.length)])), (ad 6, .inl (G.2.2.2.1, 160, .inl f0)), (ca, .inr (0, [.ref da, .int (nI bl.length)])), (da, .inl (G.2.2.2.1, kz, .inl g))] := hB.order [3, 4, 5, 6, 7, 8, 9, 10, 11, 12, 13, 14, 15, 16, 0, 17, 18, 1, 2] (by decide) rfl rfl
  have hl : lv_has ls 7 [(4, .int (nI (3 * 0 + 2))), (3, .int (nI 0)), (2, .int (nI 0)), (0, .ref (ad 0)), (1, .ref ca)] := hl
  have hl : lv_has ls 7 [(4, .int (nI (3 * 0 + 2))), (3, .int (nI (16 - 16))), (2, .int (nI 0)), (0, .ref (ad 0)), (1, .ref ca)] := hl
  have hl : lv_has ls 7 [(4, .int (nI (3 * 0 + 2))), (0, .ref (ad 0)), (1, .ref ca), (2, .int (nI 0)), (3, .int (nI (16 - 16)))] := lv_sub hl [0, 3, 4, 2, 1] rfl
  have hB : gB G.1 (rT G) A s H locs [(ad 0, .inr (7, [.ref (ad 21), .ref (ad 1), .ref (ad 2), .ref (ad 3), .ref (ad 4), .ref (ad 5), .ref (ad 7), .int (nI (n 7)), .int (nI (n 8)), .int (nI (n 9)), .int (nI 0), .int (nI (n 11)), .int (nI (n 12)), .int (nI (n 13)), .int (nI (n 14)), .int (nI (n 15)), .int (nI (n 16))])), (ad 4, .inl (cE, 3, .inr (.inr (.inr (.inr (evA ad)))))), (ad 9, .inr (1, [.ref (ad 10), .ref (ad 11), .ref (ad 12), .int (nI ((E 1).length)), .int (nI ((fun _ => 0) 1))])), (ad 10, .inl (G.2.2.2.1, 8, .inl (fp 1))), (ad 11, .inl (G.2.2.2.1, 8, .inl (fv 1))), (ad 12, .inl (G.2.2.2.1, 8, .inl (ft 1))), (ad 13, .inr (1, [.ref (ad 14), .ref (ad 15), .ref (ad 16), .int (nI ((E 2).length)), .int (nI ((fun _ => 0) 2))])), (ad 14, .inl (G.2.2.2.1, 8, .inl (fp 2))), (ad 15, .inl (G.2.2.2.1, 8, .inl (fv 2))), (ad 16, .inl (G.2.2.2.1, 8, .inl (ft 2))), (ad 17, .inr (1, [.ref (ad 18), .ref (ad 19), .ref (ad 20), .int (nI ((E 3).length)), .int (nI ((fun _ => 0) 3))])), (ad 18, .inl (G.2.2.2.1, 8, .inl (fp 3))), (ad 19, .inl (G.2.2.2.1, 8, .inl (fv 3))), (ad 20, .inl (G.2.2.2.1, 8, .inl (ft 3))), (ad 2, .inl (G.2.2.2.1, 10, .inl f2)), (ad 5, .inr (0, [.ref (ad 6), .int (nI L_32.length)])), (ad 6, .inl (G.2.2.2.1, 160, .inl f0)), (ca, .inr (0, [.ref da, .int (nI bl.length)])), (da, .inl (G.2.2.2.1, kz, .inl g))] := hB
  refine g_loop (σ := Nat × (Nat → Int32) × (List Int32) × (Nat → Nat) × Nat × Nat) (fun d xv H locs ls => (xv.1 + d = NN) ∧ (pfx xv.2.1 xv.2.2.1) ∧ (xv.2.2.1 = (rsS E f2 rd (bN (nI 0) 4) xv.1).1) ∧ (xv.2.2.2.1 = (rsS E f2 rd (bN (nI 0) 4) xv.1).2.2.2) ∧ (xv.2.2.2.2.1 = (rsS E f2 rd (bN (nI 0) 4) xv.1).2.1) ∧ (xv.2.2.2.2.2 = mkF rd xv.1) ∧ (∀ x ∈ xv.2.2.1, isB x) ∧ gB G.1 (rT G) A s H locs [(ad 0, .inr (7, [.ref (ad 21), .ref (ad 1), .ref (ad 2), .ref (ad 3), .ref (ad 4), .ref (ad 5), .ref (ad 7), .int (nI (n 7)), .int (nI (n 8)), .int (nI (n 9)), .int (nI 0), .int (nI (n 11)), .int (nI (n 12)), .int (nI (n 13)), .int (nI (n 14)), .int (nI (n 15)), .int (nI (n 16))])), (ad 4, .inl (cE, 3, .inr (.inr (.inr (.inr (evA ad)))))), (ad 9, .inr (1, [.ref (ad 10), .ref (ad 11), .ref (ad 12), .int (nI ((E 1).length)), .int (nI (xv.2.2.2.1 1))])), (ad 10, .inl (G.2.2.2.1, 8, .inl (fp 1))), (ad 11, .inl (G.2.2.2.1, 8, .inl (fv 1))), (ad 12, .inl (G.2.2.2.1, 8, .inl (ft 1))), (ad 13, .inr (1, [.ref (ad 14), .ref (ad 15), .ref (ad 16), .int (nI ((E 2).length)), .int (nI (xv.2.2.2.1 2))])), (ad 14, .inl (G.2.2.2.1, 8, .inl (fp 2))), (ad 15, .inl (G.2.2.2.1, 8, .inl (fv 2))), (ad 16, .inl (G.2.2.2.1, 8, .inl (ft 2))), (ad 17, .inr (1, [.ref (ad 18), .ref (ad 19), .ref (ad 20), .int (nI ((E 3).length)), .int (nI (xv.2.2.2.1 3))])), (ad 18, .inl (G.2.2.2.1, 8, .inl (fp 3))), (ad 19, .inl (G.2.2.2.1, 8, .inl (fv 3))), (ad 20, .inl (G.2.2.2.1, 8, .inl (ft 3))), (ad 2, .inl (G.2.2.2.1, 10, .inl f2)), (ad 5, .inr (0, [.ref (ad 6), .int (nI xv.2.2.1.length)])), (ad 6, .inl (G.2.2.2.1, 160, .inl xv.2.1)), (ca, .inr (0, [.ref da, .int (nI bl.length)])), (da, .inl (G.2.2.2.1, kz, .inl g))] ∧ lv_has ls 7 [(4, .int (nI (3 * xv.1 + 2))), (0, .ref (ad 0)), (1, .ref ca), (2, .int (nI xv.2.2.2.2.2)), (3, .int (nI (16 - xv.2.2.2.2.1)))]) NN (0, f0, L_32, (fun _ => 0), 16, 0) ⟨by omega, hL_32, eL_32, rfl, rfl, rfl, bL_32, hB, hl⟩ ?_
  rintro d ⟨k, h, L, W, lf, mk⟩ H locs ls ⟨hk, hh, hL, hW, hlf, hmk, bL, hB, hl⟩ ih_1
  have hk : k + d = NN := hk
  have hh : pfx h L := hh
  have hL : L = (rsS E f2 rd (bN (nI 0) 4) k).1 := hL
  have hW : W = (rsS E f2 rd (bN (nI 0) 4) k).2.2.2 := hW
  have hlf : lf = (rsS E f2 rd (bN (nI 0) 4) k).2.1 := hlf
  have hmk : mk = mkF rd k := hmk
  have bL : ∀ x ∈ L, isB x := bL
  have hB : gB G.1 (rT G) A s H locs [(ad 0, .inr (7, [.ref (ad 21), .ref (ad 1), .ref (ad 2), .ref (ad 3), .ref (ad 4), .ref (ad 5), .ref (ad 7), .int (nI (n 7)), .int (nI (n 8)), .int (nI (n 9)), .int (nI 0), .int (nI (n 11)), .int (nI (n 12)), .int (nI (n 13)), .int (nI (n 14)), .int (nI (n 15)), .int (nI (n 16))])), (ad 4, .inl (cE, 3, .inr (.inr (.inr (.inr (evA ad)))))), (ad 9, .inr (1, [.ref (ad 10), .ref (ad 11), .ref (ad 12), .int (nI ((E 1).length)), .int (nI (W 1))])), (ad 10, .inl (G.2.2.2.1, 8, .inl (fp 1))), (ad 11, .inl (G.2.2.2.1, 8, .inl (fv 1))), (ad 12, .inl (G.2.2.2.1, 8, .inl (ft 1))), (ad 13, .inr (1, [.ref (ad 14), .ref (ad 15), .ref (ad 16), .int (nI ((E 2).length)), .int (nI (W 2))])), (ad 14, .inl (G.2.2.2.1, 8, .inl (fp 2))), (ad 15, .inl (G.2.2.2.1, 8, .inl (fv 2))), (ad 16, .inl (G.2.2.2.1, 8, .inl (ft 2))), (ad 17, .inr (1, [.ref (ad 18), .ref (ad 19), .ref (ad 20), .int (nI ((E 3).length)), .int (nI (W 3))])), (ad 18, .inl (G.2.2.2.1, 8, .inl (fp 3))), (ad 19, .inl (G.2.2.2.1, 8, .inl (fv 3))), (ad 20, .inl (G.2.2.2.1, 8, .inl (ft 3))), (ad 2, .inl (G.2.2.2.1, 10, .inl f2)), (ad 5, .inr (0, [.ref (ad 6), .int (nI L.length)])), (ad 6, .inl (G.2.2.2.1, 160, .inl h)), (ca, .inr (0, [.ref da, .int (nI bl.length)])), (da, .inl (G.2.2.2.1, kz, .inl g))] := hB
  have hl : lv_has ls 7 [(4, .int (nI (3 * k + 2))), (0, .ref (ad 0)), (1, .ref ca), (2, .int (nI mk)), (3, .int (nI (16 - lf)))] := hl
  have hr9 := hroom k (by omega)
  rw [← hL, ← hlf] at hr9
  have lL : L.length ≤ 160 := by omega
  have hm32 : mk < 32 := by rw [hmk]; exact hmlt k (by omega)
  have hlf16 : lf ≤ 16 := by rw [hlf]; exact (rsS_len E f2 rd (bN (nI 0) 4) rfl k).2.1
  have hWl : ∀ c : Nat, 1 ≤ c → c ≤ 3 → W c ≤ (E c).length := fun c _ _ => by rw [hW]; exact rsS_wt E f2 rd (bN (nI 0) 4) k c
  refine lv_iload hx hb dX10_makeResponse_15 (lv_at hl 0 rfl) ?_
  refine lv_aload_n hx hb dX10_makeResponse_17 rfl (lv_at hl 2 rfl) ?_
  refine g_calliA (wr := [(ad 0, .inr (7, [.ref (ad 21), .ref (ad 1), .ref (ad 2), .ref (ad 3), .ref (ad 4), .ref (ad 5), .ref (ad 7), .int (nI (n 7)), .int (nI (n 8)), .int (nI (n 9)), .int (nI 0), .int (nI (n 11)), .int (nI (n 12)), .int (nI (n 13)), .int (nI (n 14)), .int (nI (n 15)), .int (nI (n 16))])), (ad 4, .inl (cE, 3, .inr (.inr (.inr (.inr (evA ad)))))), (ad 9, .inr (1, [.ref (ad 10), .ref (ad 11), .ref (ad 12), .int (nI ((E 1).length)), .int (nI (W 1))])), (ad 10, .inl (G.2.2.2.1, 8, .inl (fp 1))), (ad 11, .inl (G.2.2.2.1, 8, .inl (fv 1))), (ad 12, .inl (G.2.2.2.1, 8, .inl (ft 1))), (ad 13, .inr (1, [.ref (ad 14), .ref (ad 15), .ref (ad 16), .int (nI ((E 2).length)), .int (nI (W 2))])), (ad 14, .inl (G.2.2.2.1, 8, .inl (fp 2))), (ad 15, .inl (G.2.2.2.1, 8, .inl (fv 2))), (ad 16, .inl (G.2.2.2.1, 8, .inl (ft 2))), (ad 17, .inr (1, [.ref (ad 18), .ref (ad 19), .ref (ad 20), .int (nI ((E 3).length)), .int (nI (W 3))])), (ad 18, .inl (G.2.2.2.1, 8, .inl (fp 3))), (ad 19, .inl (G.2.2.2.1, 8, .inl (fv 3))), (ad 20, .inl (G.2.2.2.1, 8, .inl (ft 3))), (ad 2, .inl (G.2.2.2.1, 10, .inl f2)), (ad 5, .inr (0, [.ref (ad 6), .int (nI L.length)])), (ad 6, .inl (G.2.2.2.1, 160, .inl h))]) (wc := [(ca, .inr (0, [.ref da, .int (nI bl.length)])), (da, .inl (G.2.2.2.1, kz, .inl g))]) (av := []) (rest := [.int (nI (3 * k + 2))]) ⟨hx, hb, hml, hown, hts⟩ (k_Bytes_size l G (ca) (da) kz g bl hq hqn hk9) (cwV 0 hts gX10_makeResponse_X1_size rfl rfl rfl (by decide +kernel) ⟨Nat.le_of_ble_eq_true rfl, Nat.le_of_ble_eq_true rfl⟩) hB (q0 := 0) (ci := 0) rfl rfl rfl rfl hl.1 rfl (Nat.le_of_ble_eq_true rfl) dX10_makeResponse_18 ⟨Nat.le_of_ble_eq_true rfl, Nat.le_of_ble_eq_true rfl⟩ (fun r9 u H locs hw hB => ?_)
  obtain ⟨rfl, rfl⟩ := hw
  have hB : gB G.1 (rT G) A s H locs [(ad 0, .inr (7, [.ref (ad 21), .ref (ad 1), .ref (ad 2), .ref (ad 3), .ref (ad 4), .ref (ad 5), .ref (ad 7), .int (nI (n 7)), .int (nI (n 8)), .int (nI (n 9)), .int (nI 0), .int (nI (n 11)), .int (nI (n 12)), .int (nI (n 13)), .int (nI (n 14)), .int (nI (n 15)), .int (nI (n 16))])), (ad 4, .inl (cE, 3, .inr (.inr (.inr (.inr (evA ad)))))), (ad 9, .inr (1, [.ref (ad 10), .ref (ad 11), .ref (ad 12), .int (nI ((E 1).length)), .int (nI (W 1))])), (ad 10, .inl (G.2.2.2.1, 8, .inl (fp 1))), (ad 11, .inl (G.2.2.2.1, 8, .inl (fv 1))), (ad 12, .inl (G.2.2.2.1, 8, .inl (ft 1))), (ad 13, .inr (1, [.ref (ad 14), .ref (ad 15), .ref (ad 16), .int (nI ((E 2).length)), .int (nI (W 2))])), (ad 14, .inl (G.2.2.2.1, 8, .inl (fp 2))), (ad 15, .inl (G.2.2.2.1, 8, .inl (fv 2))), (ad 16, .inl (G.2.2.2.1, 8, .inl (ft 2))), (ad 17, .inr (1, [.ref (ad 18), .ref (ad 19), .ref (ad 20), .int (nI ((E 3).length)), .int (nI (W 3))])), (ad 18, .inl (G.2.2.2.1, 8, .inl (fp 3))), (ad 19, .inl (G.2.2.2.1, 8, .inl (fv 3))), (ad 20, .inl (G.2.2.2.1, 8, .inl (ft 3))), (ad 2, .inl (G.2.2.2.1, 10, .inl f2)), (ad 5, .inr (0, [.ref (ad 6), .int (nI L.length)])), (ad 6, .inl (G.2.2.2.1, 160, .inl h)), (ca, .inr (0, [.ref da, .int (nI bl.length)])), (da, .inl (G.2.2.2.1, kz, .inl g))] := hB
  refine lv_icmp_ge (tgt := 105) hx hb dX10_makeResponse_21 (by decide) (fun c_2 => ?_) (fun c_2 => ?_)
  · have c_2 : bl.length ≤ (3 * k + 2) := (nI_leI (a := bl.length) (b := (3 * k + 2)) (by omega) (by omega)).mp c_2
    have hkN : k = NN := by omega
    subst hkN
    have eRE : (rsS E f2 rd (bN (nI 0) 4) k).2 = (rsE E f2 rd).2 := by rw [eNN]; exact ((rs_head E f2 rd (bN (nI 0) 4) (rsN rd)).2).trans ((rs_head E f2 rd (rsH (rd.getD 0 0 &&& 15)) (rsN rd)).2).symm
    have hW2 : W = (rsE E f2 rd).2.2.2 := by rw [hW, eRE]
    have hlf2 : lf = (rsE E f2 rd).2.1 := by rw [hlf, eRE]
    refine lv_aload_n hx hb dX10_makeResponse_105 rfl (lv_at hl 1 rfl) ?_
    refine lv_aload_n hx hb dX10_makeResponse_106 rfl (lv_at hl 1 rfl) ?_
    refine g_get (own := RX10) (C := RX10) (T := TX10) (N := 17) (ci := 7) (v := .ref (ad 5)) hx hb hts (fun _ h => List.mem_cons_of_mem _ (List.mem_append_left _ (List.mem_append_left _ (List.mem_append_right _ h)))) hown hB 0 rfl rfl 5 (by decide) (hts (.fieldLink RX10 32 "PointReports$Station" "response" "LPointReports$Bytes;") (by decide +kernel)) rfl rfl dX10_makeResponse_107 ?_
    refine lv_sipush (v := nI 129) hx hb dX10_makeResponse_110 (by decide) ?_
    refine lv_aload_n hx hb dX10_makeResponse_113 rfl (lv_at hl 2 rfl) ?_
    refine lv_iconst (v := nI 0) hx hb dX10_makeResponse_114 (by decide) ?_
    refine g_calliA (wr := [(ad 0, .inr (7, [.ref (ad 21), .ref (ad 1), .ref (ad 2), .ref (ad 3), .ref (ad 4), .ref (ad 5), .ref (ad 7), .int (nI (n 7)), .int (nI (n 8)), .int (nI (n 9)), .int (nI 0), .int (nI (n 11)), .int (nI (n 12)), .int (nI (n 13)), .int (nI (n 14)), .int (nI (n 15)), .int (nI (n 16))])), (ad 4, .inl (cE, 3, .inr (.inr (.inr (.inr (evA ad)))))), (ad 9, .inr (1, [.ref (ad 10), .ref (ad 11), .ref (ad 12), .int (nI ((E 1).length)), .int (nI (W 1))])), (ad 10, .inl (G.2.2.2.1, 8, .inl (fp 1))), (ad 11, .inl (G.2.2.2.1, 8, .inl (fv 1))), (ad 12, .inl (G.2.2.2.1, 8, .inl (ft 1))), (ad 13, .inr (1, [.ref (ad 14), .ref (ad 15), .ref (ad 16), .int (nI ((E 2).length)), .int (nI (W 2))])), (ad 14, .inl (G.2.2.2.1, 8, .inl (fp 2))), (ad 15, .inl (G.2.2.2.1, 8, .inl (fv 2))), (ad 16, .inl (G.2.2.2.1, 8, .inl (ft 2))), (ad 17, .inr (1, [.ref (ad 18), .ref (ad 19), .ref (ad 20), .int (nI ((E 3).length)), .int (nI (W 3))])), (ad 18, .inl (G.2.2.2.1, 8, .inl (fp 3))), (ad 19, .inl (G.2.2.2.1, 8, .inl (fv 3))), (ad 20, .inl (G.2.2.2.1, 8, .inl (ft 3))), (ad 2, .inl (G.2.2.2.1, 10, .inl f2)), (ad 5, .inr (0, [.ref (ad 6), .int (nI L.length)])), (ad 6, .inl (G.2.2.2.1, 160, .inl h))]) (wc := [(ca, .inr (0, [.ref da, .int (nI bl.length)])), (da, .inl (G.2.2.2.1, kz, .inl g))]) (av := [.int (nI 0)]) (rest := [.int (nI 129), .ref (ad 5), .ref (ad 0)]) ⟨hx, hb, hml, hown, hts⟩ (k_Bytes_get l G (ca) (da) kz g bl hq hqn hk9 (nI 0)) (cwV 1 hts gX10_makeResponse_X1_get rfl rfl rfl (by decide +kernel) ⟨Nat.le_of_ble_eq_true rfl, Nat.le_of_ble_eq_true rfl⟩) hB (q0 := 0) (ci := 0) rfl rfl rfl rfl hl.1 rfl (Nat.le_of_ble_eq_true rfl) dX10_makeResponse_115 ⟨Nat.le_of_ble_eq_true rfl, Nat.le_of_ble_eq_true rfl⟩ (fun r9 u H locs hw hB => ?_)
    obtain ⟨er, rfl⟩ := hw
    have hB : gB G.1 (rT G) A s H locs [(ad 0, .inr (7, [.ref (ad 21), .ref (ad 1), .ref (ad 2), .ref (ad 3), .ref (ad 4), .ref (ad 5), .ref (ad 7), .int (nI (n 7)), .int (nI (n 8)), .int (nI (n 9)), .int (nI 0), .int (nI (n 11)), .int (nI (n 12)), .int (nI (n 13)), .int (nI (n 14)), .int (nI (n 15)), .int (nI (n 16))])), (ad 4, .inl (cE, 3, .inr (.inr (.inr (.inr (evA ad)))))), (ad 9, .inr (1, [.ref (ad 10), .ref (ad 11), .ref (ad 12), .int (nI ((E 1).length)), .int (nI (W 1))])), (ad 10, .inl (G.2.2.2.1, 8, .inl (fp 1))), (ad 11, .inl (G.2.2.2.1, 8, .inl (fv 1))), (ad 12, .inl (G.2.2.2.1, 8, .inl (ft 1))), (ad 13, .inr (1, [.ref (ad 14), .ref (ad 15), .ref (ad 16), .int (nI ((E 2).length)), .int (nI (W 2))])), (ad 14, .inl (G.2.2.2.1, 8, .inl (fp 2))), (ad 15, .inl (G.2.2.2.1, 8, .inl (fv 2))), (ad 16, .inl (G.2.2.2.1, 8, .inl (ft 2))), (ad 17, .inr (1, [.ref (ad 18), .ref (ad 19), .ref (ad 20), .int (nI ((E 3).length)), .int (nI (W 3))])), (ad 18, .inl (G.2.2.2.1, 8, .inl (fp 3))), (ad 19, .inl (G.2.2.2.1, 8, .inl (fv 3))), (ad 20, .inl (G.2.2.2.1, 8, .inl (ft 3))), (ad 2, .inl (G.2.2.2.1, 10, .inl f2)), (ad 5, .inr (0, [.ref (ad 6), .int (nI L.length)])), (ad 6, .inl (G.2.2.2.1, 160, .inl h)), (ca, .inr (0, [.ref da, .int (nI bl.length)])), (da, .inl (G.2.2.2.1, kz, .inl g))] := hB
    have hlt9 : 0 < bl.length := by omega
    have g_3 : rd.getD (0) 0 < 256 := by rw [hrd, rdN_get]; exact (bq_at hFB hlt9).2
    have er : r9 = nI (rd.getD (0) 0) := by rw [hrd, rdN_get]; exact er.trans (get_in hFB hlt9 (by omega))
    subst er
    refine lv_bipush (v := nI 15) hx hb dX10_makeResponse_118 (by decide) ?_
    refine lv_iand hx hb dX10_makeResponse_120 ?_
    refine g_top (y := nI (rd.getD (0) 0 &&& 15)) (nx_and _ _) ?_
    have hsq : (rd.getD (0) 0 &&& 15) < 16 := Nat.lt_of_le_of_lt Nat.and_le_right (by decide)
    refine lv_iload_n hx hb dX10_makeResponse_121 rfl (lv_at hl 4 rfl) ?_
    have hB : gB G.1 (rT G) A s H locs [(ad 2, .inl (G.2.2.2.1, 10, .inl f2)), (ca, .inr (0, [.ref da, .int (nI bl.length)])), (da, .inl (G.2.2.2.1, kz, .inl g)), (ad 0, .inr (7, [.ref (ad 21), .ref (ad 1), .ref (ad 2), .ref (ad 3), .ref (ad 4), .ref (ad 5), .ref (ad 7), .int (nI (n 7)), .int (nI (n 8)), .int (nI (n 9)), .int (nI 0), .int (nI (n 11)), .int (nI (n 12)), .int (nI (n 13)), .int (nI (n 14)), .int (nI (n 15)), .int (nI (n 16))])), (ad 4, .inl (cE, 3, .inr (.inr (.inr (.inr (evA ad)))))), (ad 9, .inr (1, [.ref (ad 10), .ref (ad 11), .ref (ad 12), .int (nI ((E 1).length)), .int (nI (W 1))])), (ad 10, .inl (G.2.2.2.1, 8, .inl (fp 1))), (ad 11, .inl (G.2.2.2.1, 8, .inl (fv 1))), (ad 12, .inl (G.2.2.2.1, 8, .inl (ft 1))), (ad 13, .inr (1, [.ref (ad 14), .ref (ad 15), .ref (ad 16), .int (nI ((E 2).length)), .int (nI (W 2))])), (ad 14, .inl (G.2.2.2.1, 8, .inl (fp 2))), (ad 15, .inl (G.2.2.2.1, 8, .inl (fv 2))), (ad 16, .inl (G.2.2.2.1, 8, .inl (ft 2))), (ad 17, .inr (1, [.ref (ad 18), .ref (ad 19), .ref (ad 20), .int (nI ((E 3).length)), .int (nI (W 3))])), (ad 18, .inl (G.2.2.2.1, 8, .inl (fp 3))), (ad 19, .inl (G.2.2.2.1, 8, .inl (fv 3))), (ad 20, .inl (G.2.2.2.1, 8, .inl (ft 3))), (ad 5, .inr (0, [.ref (ad 6), .int (nI L.length)])), (ad 6, .inl (G.2.2.2.1, 160, .inl h))] := hB.order [14, 17, 18, 0, 1, 2, 3, 4, 5, 6, 7, 8, 9, 10, 11, 12, 13, 15, 16] (by decide) rfl rfl
    refine g_callvA (wr := [(ad 2, .inl (G.2.2.2.1, 10, .inl f2)), (ca, .inr (0, [.ref da, .int (nI bl.length)])), (da, .inl (G.2.2.2.1, kz, .inl g))]) (wc := [(ad 0, .inr (7, [.ref (ad 21), .ref (ad 1), .ref (ad 2), .ref (ad 3), .ref (ad 4), .ref (ad 5), .ref (ad 7), .int (nI (n 7)), .int (nI (n 8)), .int (nI (n 9)), .int (nI 0), .int (nI (n 11)), .int (nI (n 12)), .int (nI (n 13)), .int (nI (n 14)), .int (nI (n 15)), .int (nI (n 16))])), (ad 4, .inl (cE, 3, .inr (.inr (.inr (.inr (evA ad)))))), (ad 9, .inr (1, [.ref (ad 10), .ref (ad 11), .ref (ad 12), .int (nI ((E 1).length)), .int (nI (W 1))])), (ad 10, .inl (G.2.2.2.1, 8, .inl (fp 1))), (ad 11, .inl (G.2.2.2.1, 8, .inl (fv 1))), (ad 12, .inl (G.2.2.2.1, 8, .inl (ft 1))), (ad 13, .inr (1, [.ref (ad 14), .ref (ad 15), .ref (ad 16), .int (nI ((E 2).length)), .int (nI (W 2))])), (ad 14, .inl (G.2.2.2.1, 8, .inl (fp 2))), (ad 15, .inl (G.2.2.2.1, 8, .inl (fv 2))), (ad 16, .inl (G.2.2.2.1, 8, .inl (ft 2))), (ad 17, .inr (1, [.ref (ad 18), .ref (ad 19), .ref (ad 20), .int (nI ((E 3).length)), .int (nI (W 3))])), (ad 18, .inl (G.2.2.2.1, 8, .inl (fp 3))), (ad 19, .inl (G.2.2.2.1, 8, .inl (fv 3))), (ad 20, .inl (G.2.2.2.1, 8, .inl (ft 3))), (ad 5, .inr (0, [.ref (ad 6), .int (nI L.length)])), (ad 6, .inl (G.2.2.2.1, 160, .inl h))]) (av := [.ref (ad 5), .int (nI 129), .int (nI (rd.getD (0) 0 &&& 15)), .int (nI (16 - lf))]) (rest := []) ⟨hx, hb, hml, hown, hts⟩ (k_Station_finish l G ad (va_up n 10 0) cE hTE E W fp fv ft (esR.mk (c123 ⟨e1.1, e1.2.1, hWl 1 (by decide) (by decide)⟩ ⟨e2.1, e2.2.1, hWl 2 (by decide) (by decide)⟩ ⟨e3.1, e3.2.1, hWl 3 (by decide) (by decide)⟩)) h8 h9 (ad 5) (ad 6) h L hh lL bL (by have := (rsS_len E f2 rd (bN (nI 0) 4) rfl k).2.2.1; rw [← hL] at this; exact this) 129 (rd.getD (0) 0 &&& 15) (16 - lf) (by decide) hsq (by omega)) (cwV 4 hts gX10_makeResponse_X10_finish rfl rfl rfl (by decide +kernel) ⟨Nat.le_of_ble_eq_true rfl, Nat.le_of_ble_eq_true rfl⟩) hB (q0 := 0) (ci := 7) rfl rfl rfl rfl hl.1 rfl (Nat.le_of_ble_eq_true rfl) dX10_makeResponse_122 ⟨Nat.le_of_ble_eq_true rfl, Nat.le_of_ble_eq_true rfl⟩ (fun u H locs hw hB => ?_)
    obtain ⟨f9, hf9, eu9⟩ := hw
    have eO : ((((L.set 0 (nI (192 + (if 0 < 16 - lf then 32 else 0) + (if 129 = 130 then 16 else 0) + (rd.getD 0 0 &&& 15)) &&& 255)).set 1 (nI 129 &&& 255)).set 2 (moK E W 3 &&& 255)).set 3 (nI (if n 9 = 0 then 0 else 8) &&& 255)) = (rsO E f2 rd (nI (n 9))) := by rw [hL, eNN, hW2]; exact rs_fin E f2 rd (n 9) lf hlf2 hlf16 h9
    have hf9 : pfx f9 (rsO E f2 rd (nI (n 9))) := by rw [← eO]; exact hf9
    have lO : (rsO E f2 rd (nI (n 9))).length = L.length := by rw [← eO]; simp only [List.length_set]
    have bO : ∀ x ∈ (rsO E f2 rd (nI (n 9))), isB x := by rw [← eO]; exact isB_set (isB_set (isB_set (isB_set bL (isB_and _)) (isB_and _)) (isB_and _)) (isB_and _)
    obtain ⟨n2, en2⟩ : ∃ n2 : Nat → Nat, n2 = (if 0 < 16 - lf then va_up (va_up (va_up n 10 0) 10 129) 11 (rd.getD (0) 0 &&& 15) else va_up n 10 0) := ⟨_, rfl⟩
    rw [← en2] at eu9
    subst eu9
    have hnn : ∀ j, j ≠ 10 → j ≠ 11 → n2 j = n j := fun j h1 h2 => by rw [en2]; split; (show (if j = 11 then _ else if j = 10 then _ else if j = 10 then _ else n j) = _; rw [if_neg h2, if_neg h1, if_neg h1]); (show (if j = 10 then _ else n j) = _; rw [if_neg h1])
    have h82 : n2 8 ≤ 1 := by rw [hnn 8 (by decide) (by decide)]; exact h8
    have h92 : n2 9 ≤ 1 := by rw [hnn 9 (by decide) (by decide)]; exact h9
    have hB : gB G.1 (rT G) A s H locs [(ad 2, .inl (G.2.2.2.1, 10, .inl f2)), (ca, .inr (0, [.ref da, .int (nI bl.length)])), (da, .inl (G.2.2.2.1, kz, .inl g)), (ad 0, .inr (7, [.ref (ad 21), .ref (ad 1), .ref (ad 2), .ref (ad 3), .ref (ad 4), .ref (ad 5), .ref (ad 7), .int (nI (n2 7)), .int (nI (n2 8)), .int (nI (n2 9)), .int (nI (n2 10)), .int (nI (n2 11)), .int (nI (n2 12)), .int (nI (n2 13)), .int (nI (n2 14)), .int (nI (n2 15)), .int (nI (n2 16))])), (ad 4, .inl (cE, 3, .inr (.inr (.inr (.inr (evA ad)))))), (ad 9, .inr (1, [.ref (ad 10), .ref (ad 11), .ref (ad 12), .int (nI ((E 1).length)), .int (nI (W 1))])), (ad 10, .inl (G.2.2.2.1, 8, .inl (fp 1))), (ad 11, .inl (G.2.2.2.1, 8, .inl (fv 1))), (ad 12, .inl (G.2.2.2.1, 8, .inl (ft 1))), (ad 13, .inr (1, [.ref (ad 14), .ref (ad 15), .ref (ad 16), .int (nI ((E 2).length)), .int (nI (W 2))])), (ad 14, .inl (G.2.2.2.1, 8, .inl (fp 2))), (ad 15, .inl (G.2.2.2.1, 8, .inl (fv 2))), (ad 16, .inl (G.2.2.2.1, 8, .inl (ft 2))), (ad 17, .inr (1, [.ref (ad 18), .ref (ad 19), .ref (ad 20), .int (nI ((E 3).length)), .int (nI (W 3))])), (ad 18, .inl (G.2.2.2.1, 8, .inl (fp 3))), (ad 19, .inl (G.2.2.2.1, 8, .inl (fv 3))), (ad 20, .inl (G.2.2.2.1, 8, .inl (ft 3))), (ad 5, .inr (0, [.ref (ad 6), .int (nI L.length)])), (ad 6, .inl (G.2.2.2.1, 160, .inl f9))] := hB
    refine lv_iload_n hx hb dX10_makeResponse_125 rfl (lv_at hl 3 rfl) ?_
    refine lv_iconst (v := nI 2) hx hb dX10_makeResponse_126 (by decide) ?_
    refine lv_iand hx hb dX10_makeResponse_127 ?_
    have hfl : (rsE E f2 rd).2.2.1 = 0 ↔ (mk).testBit 1 = false := by rw [← eRE, rs_flag, hmk, mk_fs]; by_cases z : fsF rd 1 k = 1; (rw [if_pos z]; simp [z]); (rw [if_neg z]; simp [z])
    have en : rsNm E f2 rd n = va_up n2 9 (if (rsE E f2 rd).2.2.1 = 0 then n 9 else 0) := by rw [en2, hlf2]; rfl
    refine lv_if_eq (tgt := 136) hx hb dX10_makeResponse_128 (by decide) (fun c_4 => ?_) (fun c_4 => ?_)
    · have c_4 := c_4
      have hz : (rsE E f2 rd).2.2.1 = 0 := hfl.mpr ((mk_2 mk hm32).mp c_4)
      have hB : gB G.1 (rT G) A s H locs [(ad 0, .inr (7, [.ref (ad 21), .ref (ad 1), .ref (ad 2), .ref (ad 3), .ref (ad 4), .ref (ad 5), .ref (ad 7), .int (nI (n2 7)), .int (nI (n2 8)), .int (nI (n2 9)), .int (nI (n2 10)), .int (nI (n2 11)), .int (nI (n2 12)), .int (nI (n2 13)), .int (nI (n2 14)), .int (nI (n2 15)), .int (nI (n2 16))])), (ad 4, .inl (cE, 3, .inr (.inr (.inr (.inr (evA ad)))))), (ad 9, .inr (1, [.ref (ad 10), .ref (ad 11), .ref (ad 12), .int (nI ((E 1).length)), .int (nI (W 1))])), (ad 10, .inl (G.2.2.2.1, 8, .inl (fp 1))), (ad 11, .inl (G.2.2.2.1, 8, .inl (fv 1))), (ad 12, .inl (G.2.2.2.1, 8, .inl (ft 1))), (ad 13, .inr (1, [.ref (ad 14), .ref (ad 15), .ref (ad 16), .int (nI ((E 2).length)), .int (nI (W 2))])), (ad 14, .inl (G.2.2.2.1, 8, .inl (fp 2))), (ad 15, .inl (G.2.2.2.1, 8, .inl (fv 2))), (ad 16, .inl (G.2.2.2.1, 8, .inl (ft 2))), (ad 17, .inr (1, [.ref (ad 18), .ref (ad 19), .ref (ad 20), .int (nI ((E 3).length)), .int (nI (W 3))])), (ad 18, .inl (G.2.2.2.1, 8, .inl (fp 3))), (ad 19, .inl (G.2.2.2.1, 8, .inl (fv 3))), (ad 20, .inl (G.2.2.2.1, 8, .inl (ft 3))), (ad 2, .inl (G.2.2.2.1, 10, .inl f2)), (ad 5, .inr (0, [.ref (ad 6), .int (nI L.length)])), (ad 6, .inl (G.2.2.2.1, 160, .inl f9)), (ca, .inr (0, [.ref da, .int (nI bl.length)])), (da, .inl (G.2.2.2.1, kz, .inl g))] := hB.order [3, 4, 5, 6, 7, 8, 9, 10, 11, 12, 13, 14, 15, 16, 0, 17, 18, 1, 2] (by decide) rfl rfl
      have en9 : va_up n2 9 (n 9) = n2 := by funext j; unfold va_up; split; (rename_i e; rw [e]; exact (hnn 9 (by decide) (by decide)).symm); rfl
      exact g_vret (S := ((Nat → Nat) × eS) × (Int32 × (Nat → Int32))) (Wd := mrW G ad cE f2 ca da kz (nI bl.length, g)) ((n2, E, W, fp, fv, ft), (nI L.length, f9)) hB hx hb hr hlocks rfl ⟨f9, hf9, by rw [lO]; exact lL, bO, by rw [lO, hW2, en, if_pos hz, en9]⟩ dX10_makeResponse_136
    · have c_4 := c_4
      have hz : ¬ (rsE E f2 rd).2.2.1 = 0 := fun z => c_4 ((mk_2 mk hm32).mpr (hfl.mp z))
      refine lv_aload_n hx hb dX10_makeResponse_131 rfl (lv_at hl 1 rfl) ?_
      refine lv_iconst (v := nI 0) hx hb dX10_makeResponse_132 (by decide) ?_
      refine g_put (own := RX10) (C := RX10) (T := TX10) (N := 17) (ci := 7) (v := .int (nI 0)) hx hb ([(ad 2, .inl (G.2.2.2.1, 10, .inl f2)), (ca, .inr (0, [.ref da, .int (nI bl.length)])), (da, .inl (G.2.2.2.1, kz, .inl g)), (ad 0, .inr (7, [.ref (ad 21), .ref (ad 1), .ref (ad 2), .ref (ad 3), .ref (ad 4), .ref (ad 5), .ref (ad 7), .int (nI (n2 7)), .int (nI (n2 8)), .int (nI 0), .int (nI (n2 10)), .int (nI (n2 11)), .int (nI (n2 12)), .int (nI (n2 13)), .int (nI (n2 14)), .int (nI (n2 15)), .int (nI (n2 16))])), (ad 4, .inl (cE, 3, .inr (.inr (.inr (.inr (evA ad)))))), (ad 9, .inr (1, [.ref (ad 10), .ref (ad 11), .ref (ad 12), .int (nI ((E 1).length)), .int (nI (W 1))])), (ad 10, .inl (G.2.2.2.1, 8, .inl (fp 1))), (ad 11, .inl (G.2.2.2.1, 8, .inl (fv 1))), (ad 12, .inl (G.2.2.2.1, 8, .inl (ft 1))), (ad 13, .inr (1, [.ref (ad 14), .ref (ad 15), .ref (ad 16), .int (nI ((E 2).length)), .int (nI (W 2))])), (ad 14, .inl (G.2.2.2.1, 8, .inl (fp 2))), (ad 15, .inl (G.2.2.2.1, 8, .inl (fv 2))), (ad 16, .inl (G.2.2.2.1, 8, .inl (ft 2))), (ad 17, .inr (1, [.ref (ad 18), .ref (ad 19), .ref (ad 20), .int (nI ((E 3).length)), .int (nI (W 3))])), (ad 18, .inl (G.2.2.2.1, 8, .inl (fp 3))), (ad 19, .inl (G.2.2.2.1, 8, .inl (fv 3))), (ad 20, .inl (G.2.2.2.1, 8, .inl (ft 3))), (ad 5, .inr (0, [.ref (ad 6), .int (nI L.length)])), (ad 6, .inl (G.2.2.2.1, 160, .inl f9))]) hts (fun _ h => List.mem_cons_of_mem _ (List.mem_append_left _ (List.mem_append_left _ (List.mem_append_right _ h)))) tyX10 tyX10_ok nmX10 hown hB 3 rfl rfl 9 (by decide) (hts (.fieldLink RX10 59 "PointReports$Station" "lostIsKnown" "Z") (by decide +kernel)) rfl rfl (ty := .boolean) rfl (narrow_z (Or.inl rfl)) (fits_z (Or.inl rfl)) (Nat.le_of_ble_eq_true rfl) rfl dX10_makeResponse_133 (fun H locs hB => ?_)
      have hB : gB G.1 (rT G) A s H locs [(ad 0, .inr (7, [.ref (ad 21), .ref (ad 1), .ref (ad 2), .ref (ad 3), .ref (ad 4), .ref (ad 5), .ref (ad 7), .int (nI (n2 7)), .int (nI (n2 8)), .int (nI 0), .int (nI (n2 10)), .int (nI (n2 11)), .int (nI (n2 12)), .int (nI (n2 13)), .int (nI (n2 14)), .int (nI (n2 15)), .int (nI (n2 16))])), (ad 4, .inl (cE, 3, .inr (.inr (.inr (.inr (evA ad)))))), (ad 9, .inr (1, [.ref (ad 10), .ref (ad 11), .ref (ad 12), .int (nI ((E 1).length)), .int (nI (W 1))])), (ad 10, .inl (G.2.2.2.1, 8, .inl (fp 1))), (ad 11, .inl (G.2.2.2.1, 8, .inl (fv 1))), (ad 12, .inl (G.2.2.2.1, 8, .inl (ft 1))), (ad 13, .inr (1, [.ref (ad 14), .ref (ad 15), .ref (ad 16), .int (nI ((E 2).length)), .int (nI (W 2))])), (ad 14, .inl (G.2.2.2.1, 8, .inl (fp 2))), (ad 15, .inl (G.2.2.2.1, 8, .inl (fv 2))), (ad 16, .inl (G.2.2.2.1, 8, .inl (ft 2))), (ad 17, .inr (1, [.ref (ad 18), .ref (ad 19), .ref (ad 20), .int (nI ((E 3).length)), .int (nI (W 3))])), (ad 18, .inl (G.2.2.2.1, 8, .inl (fp 3))), (ad 19, .inl (G.2.2.2.1, 8, .inl (fv 3))), (ad 20, .inl (G.2.2.2.1, 8, .inl (ft 3))), (ad 2, .inl (G.2.2.2.1, 10, .inl f2)), (ad 5, .inr (0, [.ref (ad 6), .int (nI L.length)])), (ad 6, .inl (G.2.2.2.1, 160, .inl f9)), (ca, .inr (0, [.ref da, .int (nI bl.length)])), (da, .inl (G.2.2.2.1, kz, .inl g))] := hB.order [3, 4, 5, 6, 7, 8, 9, 10, 11, 12, 13, 14, 15, 16, 0, 17, 18, 1, 2] (by decide) rfl rfl
      exact g_vret (S := ((Nat → Nat) × eS) × (Int32 × (Nat → Int32))) (Wd := mrW G ad cE f2 ca da kz (nI bl.length, g)) ((va_up n2 9 0, E, W, fp, fv, ft), (nI L.length, f9)) hB hx hb hr hlocks rfl ⟨f9, hf9, by rw [lO]; exact lL, bO, by rw [lO, hW2, en, if_neg hz]⟩ dX10_makeResponse_136
  · have c_2 : ¬ bl.length ≤ (3 * k + 2) := fun h9 => c_2 ((nI_leI (a := bl.length) (b := (3 * k + 2)) (by omega) (by omega)).mpr h9)
    have hkN : k < NN := by omega
    obtain ⟨v1, v4⟩ := hN4 k hkN
    refine lv_aload_n hx hb dX10_makeResponse_24 rfl (lv_at hl 2 rfl) ?_
    refine lv_iload hx hb dX10_makeResponse_25 (lv_at hl 0 rfl) ?_
    refine lv_iconst (v := nI 1) hx hb dX10_makeResponse_27 (by decide) ?_
    refine lv_iadd hx hb dX10_makeResponse_28 ?_
    refine g_top (y := nI ((3 * k + 2) + 1)) (nI_add _ _) ?_
    refine g_top (y := nI (3 * k + 3)) rfl ?_
    refine g_calliA (wr := [(ad 0, .inr (7, [.ref (ad 21), .ref (ad 1), .ref (ad 2), .ref (ad 3), .ref (ad 4), .ref (ad 5), .ref (ad 7), .int (nI (n 7)), .int (nI (n 8)), .int (nI (n 9)), .int (nI 0), .int (nI (n 11)), .int (nI (n 12)), .int (nI (n 13)), .int (nI (n 14)), .int (nI (n 15)), .int (nI (n 16))])), (ad 4, .inl (cE, 3, .inr (.inr (.inr (.inr (evA ad)))))), (ad 9, .inr (1, [.ref (ad 10), .ref (ad 11), .ref (ad 12), .int (nI ((E 1).length)), .int (nI (W 1))])), (ad 10, .inl (G.2.2.2.1, 8, .inl (fp 1))), (ad 11, .inl (G.2.2.2.1, 8, .inl (fv 1))), (ad 12, .inl (G.2.2.2.1, 8, .inl (ft 1))), (ad 13, .inr (1, [.ref (ad 14), .ref (ad 15), .ref (ad 16), .int (nI ((E 2).length)), .int (nI (W 2))])), (ad 14, .inl (G.2.2.2.1, 8, .inl (fp 2))), (ad 15, .inl (G.2.2.2.1, 8, .inl (fv 2))), (ad 16, .inl (G.2.2.2.1, 8, .inl (ft 2))), (ad 17, .inr (1, [.ref (ad 18), .ref (ad 19), .ref (ad 20), .int (nI ((E 3).length)), .int (nI (W 3))])), (ad 18, .inl (G.2.2.2.1, 8, .inl (fp 3))), (ad 19, .inl (G.2.2.2.1, 8, .inl (fv 3))), (ad 20, .inl (G.2.2.2.1, 8, .inl (ft 3))), (ad 2, .inl (G.2.2.2.1, 10, .inl f2)), (ad 5, .inr (0, [.ref (ad 6), .int (nI L.length)])), (ad 6, .inl (G.2.2.2.1, 160, .inl h))]) (wc := [(ca, .inr (0, [.ref da, .int (nI bl.length)])), (da, .inl (G.2.2.2.1, kz, .inl g))]) (av := [.int (nI (3 * k + 3))]) (rest := []) ⟨hx, hb, hml, hown, hts⟩ (k_Bytes_get l G (ca) (da) kz g bl hq hqn hk9 (nI (3 * k + 3))) (cwV 1 hts gX10_makeResponse_X1_get rfl rfl rfl (by decide +kernel) ⟨Nat.le_of_ble_eq_true rfl, Nat.le_of_ble_eq_true rfl⟩) hB (q0 := 0) (ci := 0) rfl rfl rfl rfl hl.1 rfl (Nat.le_of_ble_eq_true rfl) dX10_makeResponse_29 ⟨Nat.le_of_ble_eq_true rfl, Nat.le_of_ble_eq_true rfl⟩ (fun r9 u H locs hw hB => ?_)
    obtain ⟨er, rfl⟩ := hw
    have hB : gB G.1 (rT G) A s H locs [(ad 0, .inr (7, [.ref (ad 21), .ref (ad 1), .ref (ad 2), .ref (ad 3), .ref (ad 4), .ref (ad 5), .ref (ad 7), .int (nI (n 7)), .int (nI (n 8)), .int (nI (n 9)), .int (nI 0), .int (nI (n 11)), .int (nI (n 12)), .int (nI (n 13)), .int (nI (n 14)), .int (nI (n 15)), .int (nI (n 16))])), (ad 4, .inl (cE, 3, .inr (.inr (.inr (.inr (evA ad)))))), (ad 9, .inr (1, [.ref (ad 10), .ref (ad 11), .ref (ad 12), .int (nI ((E 1).length)), .int (nI (W 1))])), (ad 10, .inl (G.2.2.2.1, 8, .inl (fp 1))), (ad 11, .inl (G.2.2.2.1, 8, .inl (fv 1))), (ad 12, .inl (G.2.2.2.1, 8, .inl (ft 1))), (ad 13, .inr (1, [.ref (ad 14), .ref (ad 15), .ref (ad 16), .int (nI ((E 2).length)), .int (nI (W 2))])), (ad 14, .inl (G.2.2.2.1, 8, .inl (fp 2))), (ad 15, .inl (G.2.2.2.1, 8, .inl (fv 2))), (ad 16, .inl (G.2.2.2.1, 8, .inl (ft 2))), (ad 17, .inr (1, [.ref (ad 18), .ref (ad 19), .ref (ad 20), .int (nI ((E 3).length)), .int (nI (W 3))])), (ad 18, .inl (G.2.2.2.1, 8, .inl (fp 3))), (ad 19, .inl (G.2.2.2.1, 8, .inl (fv 3))), (ad 20, .inl (G.2.2.2.1, 8, .inl (ft 3))), (ad 2, .inl (G.2.2.2.1, 10, .inl f2)), (ad 5, .inr (0, [.ref (ad 6), .int (nI L.length)])), (ad 6, .inl (G.2.2.2.1, 160, .inl h)), (ca, .inr (0, [.ref da, .int (nI bl.length)])), (da, .inl (G.2.2.2.1, kz, .inl g))] := hB
    have hlt9 : 3 * k + 3 < bl.length := by omega
    have g_5 : rd.getD (3 * k + 3) 0 < 256 := by rw [hrd, rdN_get]; exact (bq_at hFB hlt9).2
    have er : r9 = nI (rd.getD (3 * k + 3) 0) := by rw [hrd, rdN_get]; exact er.trans (get_in hFB hlt9 (by omega))
    subst er
    obtain ⟨v, ev⟩ : ∃ v, v = rd.getD (3 * k + 3) 0 := ⟨_, rfl⟩
    rw [← ev] at v1 v4
    refine g_top (y := nI v) (by rw [ev]) ?_
    refine lv_istore (lv' := [(5, .int (nI v)), (4, .int (nI (3 * k + 2))), (0, .ref (ad 0)), (1, .ref ca), (2, .int (nI mk)), (3, .int (nI (16 - lf)))]) hx hb dX10_makeResponse_32 hl (by decide) rfl (fun ls hl => ?_)
    refine lv_iload hx hb dX10_makeResponse_34 (lv_at hl 0 rfl) ?_
    refine lv_iconst (v := nI 1) hx hb dX10_makeResponse_36 (by decide) ?_
    refine lv_isub hx hb dX10_makeResponse_37 ?_
    refine g_top (y := nI (v - 1)) (pk_sub (by omega)) ?_
    refine lv_istore (lv' := [(6, .int (nI (v - 1))), (5, .int (nI v)), (4, .int (nI (3 * k + 2))), (0, .ref (ad 0)), (1, .ref ca), (2, .int (nI mk)), (3, .int (nI (16 - lf)))]) hx hb dX10_makeResponse_38 hl (by decide) rfl (fun ls hl => ?_)
    refine lv_iload_n hx hb dX10_makeResponse_40 rfl (lv_at hl 5 rfl) ?_
    refine lv_iconst (v := nI 1) hx hb dX10_makeResponse_41 (by decide) ?_
    refine lv_iload hx hb dX10_makeResponse_42 (lv_at hl 1 rfl) ?_
    refine lv_ishl hx hb dX10_makeResponse_44 ?_
    refine lv_iand hx hb dX10_makeResponse_45 ?_
    refine lv_if_eq (tgt := 52) hx hb dX10_makeResponse_46 (by decide) (fun c_6 => ?_) (fun c_6 => ?_)
    · have c_6 := c_6
      have hnew : fsF rd v k = 1 := by have h1 := (mk_test mk hm32 v (by omega)).mp c_6; rw [hmk, mk_fs] at h1; exact Classical.not_not.mp (of_decide_eq_false h1)
      refine lv_iload_n hx hb dX10_makeResponse_52 rfl (lv_at hl 5 rfl) ?_
      refine lv_iconst (v := nI 1) hx hb dX10_makeResponse_53 (by decide) ?_
      refine lv_iload hx hb dX10_makeResponse_54 (lv_at hl 1 rfl) ?_
      refine lv_ishl hx hb dX10_makeResponse_56 ?_
      refine lv_ior hx hb dX10_makeResponse_57 ?_
      refine g_top (y := nI (mk ||| 2 ^ v)) (mk_or mk hm32 v (by omega)) ?_
      refine lv_istore_n (lv' := [(2, .int (nI (mk ||| 2 ^ v))), (6, .int (nI (v - 1))), (5, .int (nI v)), (4, .int (nI (3 * k + 2))), (0, .ref (ad 0)), (1, .ref ca), (3, .int (nI (16 - lf)))]) hx hb dX10_makeResponse_58 rfl hl (by decide) rfl (fun ls hl => ?_)
      refine lv_iload hx hb dX10_makeResponse_59 (lv_at hl 1 rfl) ?_
      have hmk2 : mk ||| 2 ^ v = mkF rd (k + 1) := by rw [mkF, ← hmk, ← ev]
      have hrs : rsS E f2 rd (bN (nI 0) 4) (k + 1) = (if v = 1 then (L ++ ptG f2, lf, 1, W) else (L ++ grS (E (v - 1)) (v - 1) (mnN (E (v - 1)).length lf), lf - mnN (E (v - 1)).length lf, (rsS E f2 rd (bN (nI 0) 4) k).2.2.1, va_up W (v - 1) (max (W (v - 1)) (mnN (E (v - 1)).length lf)))) := by rw [rsS, ← ev, if_pos hnew, ← hL, ← hlf, ← hW]
      have hw0 : 2 ≤ v → W (v - 1) = 0 := fun h2 => by rw [hW]; exact rs_wt0 E f2 rd (bN (nI 0) 4) (v - 1) k (by omega) (fun j hj => (hN4 j (by omega)).1) (by rw [show v - 1 + 1 = v by omega]; exact hnew)
      rcases (show v = 1 ∨ v = 2 ∨ v = 3 ∨ v = 4 by omega) with rfl | rfl | rfl | rfl
      · have hl : lv_has ls 7 [(2, .int (nI (mk ||| 2 ^ 1))), (6, .int (nI 0)), (5, .int (nI 1)), (4, .int (nI (3 * k + 2))), (0, .ref (ad 0)), (1, .ref ca), (3, .int (nI (16 - lf)))] := hl
        refine g_callS0 (av := [.int (nI 0)]) (rest := []) ⟨hx, hb, hml, hown, hts⟩ (k_Group_isClass l G (nI 0)) (va_cwS 1 hts gX10_makeResponse_X4_isClass rfl rfl rfl (by decide +kernel) ⟨Nat.le_of_ble_eq_true rfl, Nat.le_of_ble_eq_true rfl⟩) hB rfl hl.1 rfl (Nat.le_of_ble_eq_true rfl) dX10_makeResponse_61 ⟨Nat.le_of_ble_eq_true rfl, Nat.le_of_ble_eq_true rfl⟩ (fun r9 H locs hw hB => ?_)
        have hcl := hw
        have er : r9 = nI 0 := by rcases hcl with ⟨h1, h2⟩ | ⟨h1, h2⟩; exact absurd (by decide) h2.1; exact h1
        subst er
        refine lv_if_eq (tgt := 95) hx hb dX10_makeResponse_64 (by decide) (fun _ => ?_) (fun c9 => absurd c9 (by decide))
        refine lv_aload_n hx hb dX10_makeResponse_95 rfl (lv_at hl 4 rfl) ?_
        have hrs : rsS E f2 rd (bN (nI 0) 4) (k + 1) = (L ++ ptG f2, lf, 1, W) := hrs
        have hB : gB G.1 (rT G) A s H locs [(ad 4, .inl (cE, 3, .inr (.inr (.inr (.inr (evA ad)))))), (ad 9, .inr (1, [.ref (ad 10), .ref (ad 11), .ref (ad 12), .int (nI ((E 1).length)), .int (nI (W 1))])), (ad 10, .inl (G.2.2.2.1, 8, .inl (fp 1))), (ad 11, .inl (G.2.2.2.1, 8, .inl (fv 1))), (ad 12, .inl (G.2.2.2.1, 8, .inl (ft 1))), (ad 13, .inr (1, [.ref (ad 14), .ref (ad 15), .ref (ad 16), .int (nI ((E 2).length)), .int (nI (W 2))])), (ad 14, .inl (G.2.2.2.1, 8, .inl (fp 2))), (ad 15, .inl (G.2.2.2.1, 8, .inl (fv 2))), (ad 16, .inl (G.2.2.2.1, 8, .inl (ft 2))), (ad 17, .inr (1, [.ref (ad 18), .ref (ad 19), .ref (ad 20), .int (nI ((E 3).length)), .int (nI (W 3))])), (ad 18, .inl (G.2.2.2.1, 8, .inl (fp 3))), (ad 19, .inl (G.2.2.2.1, 8, .inl (fv 3))), (ad 20, .inl (G.2.2.2.1, 8, .inl (ft 3))), (ca, .inr (0, [.ref da, .int (nI bl.length)])), (da, .inl (G.2.2.2.1, kz, .inl g)), (ad 0, .inr (7, [.ref (ad 21), .ref (ad 1), .ref (ad 2), .ref (ad 3), .ref (ad 4), .ref (ad 5), .ref (ad 7), .int (nI (n 7)), .int (nI (n 8)), .int (nI (n 9)), .int (nI 0), .int (nI (n 11)), .int (nI (n 12)), .int (nI (n 13)), .int (nI (n 14)), .int (nI (n 15)), .int (nI (n 16))])), (ad 2, .inl (G.2.2.2.1, 10, .inl f2)), (ad 5, .inr (0, [.ref (ad 6), .int (nI L.length)])), (ad 6, .inl (G.2.2.2.1, 160, .inl h))] := hB.order [1, 2, 3, 4, 5, 6, 7, 8, 9, 10, 11, 12, 13, 17, 18, 0, 14, 15, 16] (by decide) rfl rfl
        refine g_callvA (wr := [(ad 4, .inl (cE, 3, .inr (.inr (.inr (.inr (evA ad)))))), (ad 9, .inr (1, [.ref (ad 10), .ref (ad 11), .ref (ad 12), .int (nI ((E 1).length)), .int (nI (W 1))])), (ad 10, .inl (G.2.2.2.1, 8, .inl (fp 1))), (ad 11, .inl (G.2.2.2.1, 8, .inl (fv 1))), (ad 12, .inl (G.2.2.2.1, 8, .inl (ft 1))), (ad 13, .inr (1, [.ref (ad 14), .ref (ad 15), .ref (ad 16), .int (nI ((E 2).length)), .int (nI (W 2))])), (ad 14, .inl (G.2.2.2.1, 8, .inl (fp 2))), (ad 15, .inl (G.2.2.2.1, 8, .inl (fv 2))), (ad 16, .inl (G.2.2.2.1, 8, .inl (ft 2))), (ad 17, .inr (1, [.ref (ad 18), .ref (ad 19), .ref (ad 20), .int (nI ((E 3).length)), .int (nI (W 3))])), (ad 18, .inl (G.2.2.2.1, 8, .inl (fp 3))), (ad 19, .inl (G.2.2.2.1, 8, .inl (fv 3))), (ad 20, .inl (G.2.2.2.1, 8, .inl (ft 3))), (ca, .inr (0, [.ref da, .int (nI bl.length)])), (da, .inl (G.2.2.2.1, kz, .inl g))]) (wc := [(ad 0, .inr (7, [.ref (ad 21), .ref (ad 1), .ref (ad 2), .ref (ad 3), .ref (ad 4), .ref (ad 5), .ref (ad 7), .int (nI (n 7)), .int (nI (n 8)), .int (nI (n 9)), .int (nI 0), .int (nI (n 11)), .int (nI (n 12)), .int (nI (n 13)), .int (nI (n 14)), .int (nI (n 15)), .int (nI (n 16))])), (ad 2, .inl (G.2.2.2.1, 10, .inl f2)), (ad 5, .inr (0, [.ref (ad 6), .int (nI L.length)])), (ad 6, .inl (G.2.2.2.1, 160, .inl h))]) (av := []) (rest := []) ⟨hx, hb, hml, hown, hts⟩ (k_Station_putStates l G ad (va_up n 10 0) h8 h9 f2 h L hh lL (by omega)) (cwV 0 hts gX10_makeResponse_X10_putStates rfl rfl rfl (by decide +kernel) ⟨Nat.le_of_ble_eq_true rfl, Nat.le_of_ble_eq_true rfl⟩) hB (q0 := 0) (ci := 7) rfl rfl rfl rfl hl.1 rfl (Nat.le_of_ble_eq_true rfl) dX10_makeResponse_96 ⟨Nat.le_of_ble_eq_true rfl, Nat.le_of_ble_eq_true rfl⟩ (fun u H locs hw hB => ?_)
        obtain ⟨h2, hh2, rfl⟩ := hw
        have hB : gB G.1 (rT G) A s H locs [(ad 4, .inl (cE, 3, .inr (.inr (.inr (.inr (evA ad)))))), (ad 9, .inr (1, [.ref (ad 10), .ref (ad 11), .ref (ad 12), .int (nI ((E 1).length)), .int (nI (W 1))])), (ad 10, .inl (G.2.2.2.1, 8, .inl (fp 1))), (ad 11, .inl (G.2.2.2.1, 8, .inl (fv 1))), (ad 12, .inl (G.2.2.2.1, 8, .inl (ft 1))), (ad 13, .inr (1, [.ref (ad 14), .ref (ad 15), .ref (ad 16), .int (nI ((E 2).length)), .int (nI (W 2))])), (ad 14, .inl (G.2.2.2.1, 8, .inl (fp 2))), (ad 15, .inl (G.2.2.2.1, 8, .inl (fv 2))), (ad 16, .inl (G.2.2.2.1, 8, .inl (ft 2))), (ad 17, .inr (1, [.ref (ad 18), .ref (ad 19), .ref (ad 20), .int (nI ((E 3).length)), .int (nI (W 3))])), (ad 18, .inl (G.2.2.2.1, 8, .inl (fp 3))), (ad 19, .inl (G.2.2.2.1, 8, .inl (fv 3))), (ad 20, .inl (G.2.2.2.1, 8, .inl (ft 3))), (ca, .inr (0, [.ref da, .int (nI bl.length)])), (da, .inl (G.2.2.2.1, kz, .inl g)), (ad 0, .inr (7, [.ref (ad 21), .ref (ad 1), .ref (ad 2), .ref (ad 3), .ref (ad 4), .ref (ad 5), .ref (ad 7), .int (nI (n 7)), .int (nI (n 8)), .int (nI (n 9)), .int (nI 0), .int (nI (n 11)), .int (nI (n 12)), .int (nI (n 13)), .int (nI (n 14)), .int (nI (n 15)), .int (nI (n 16))])), (ad 2, .inl (G.2.2.2.1, 10, .inl f2)), (ad 5, .inr (0, [.ref (ad 6), .int (nI ((L ++ ptG f2).length))])), (ad 6, .inl (G.2.2.2.1, 160, .inl h2))] := hB
        refine lv_iinc (v := nI (3 * k + 2 + 3)) (lv' := [(4, .int (nI (3 * k + 2 + 3))), (2, .int (nI (mk ||| 2 ^ 1))), (6, .int (nI 0)), (5, .int (nI 1)), (0, .ref (ad 0)), (1, .ref ca), (3, .int (nI (16 - lf)))]) hx hb dX10_makeResponse_99 hl (k := 3) rfl (nI_add _ _) (by decide) rfl (fun ls hl => ?_)
        refine lv_goto (tgt := 15) hx hb dX10_makeResponse_102 (by decide) ?_
        rw [show 3 * k + 2 + 3 = 3 * (k + 1) + 2 from by omega] at hl
        have hl : lv_has ls 7 [(4, .int (nI (3 * (k + 1) + 2))), (2, .int (nI (mk ||| 2 ^ 1))), (6, .int (nI 0)), (5, .int (nI 1)), (0, .ref (ad 0)), (1, .ref ca), (3, .int (nI (16 - lf)))] := hl
        have hB : gB G.1 (rT G) A s H locs [(ad 0, .inr (7, [.ref (ad 21), .ref (ad 1), .ref (ad 2), .ref (ad 3), .ref (ad 4), .ref (ad 5), .ref (ad 7), .int (nI (n 7)), .int (nI (n 8)), .int (nI (n 9)), .int (nI 0), .int (nI (n 11)), .int (nI (n 12)), .int (nI (n 13)), .int (nI (n 14)), .int (nI (n 15)), .int (nI (n 16))])), (ad 4, .inl (cE, 3, .inr (.inr (.inr (.inr (evA ad)))))), (ad 9, .inr (1, [.ref (ad 10), .ref (ad 11), .ref (ad 12), .int (nI ((E 1).length)), .int (nI (W 1))])), (ad 10, .inl (G.2.2.2.1, 8, .inl (fp 1))), (ad 11, .inl (G.2.2.2.1, 8, .inl (fv 1))), (ad 12, .inl (G.2.2.2.1, 8, .inl (ft 1))), (ad 13, .inr (1, [.ref (ad 14), .ref (ad 15), .ref (ad 16), .int (nI ((E 2).length)), .int (nI (W 2))])), (ad 14, .inl (G.2.2.2.1, 8, .inl (fp 2))), (ad 15, .inl (G.2.2.2.1, 8, .inl (fv 2))), (ad 16, .inl (G.2.2.2.1, 8, .inl (ft 2))), (ad 17, .inr (1, [.ref (ad 18), .ref (ad 19), .ref (ad 20), .int (nI ((E 3).length)), .int (nI (W 3))])), (ad 18, .inl (G.2.2.2.1, 8, .inl (fp 3))), (ad 19, .inl (G.2.2.2.1, 8, .inl (fv 3))), (ad 20, .inl (G.2.2.2.1, 8, .inl (ft 3))), (ad 2, .inl (G.2.2.2.1, 10, .inl f2)), (ad 5, .inr (0, [.ref (ad 6), .int (nI ((L ++ ptG f2).length))])), (ad 6, .inl (G.2.2.2.1, 160, .inl h2)), (ca, .inr (0, [.ref da, .int (nI bl.length)])), (da, .inl (G.2.2.2.1, kz, .inl g))] := hB.order [15, 0, 1, 2, 3, 4, 5, 6, 7, 8, 9, 10, 11, 12, 16, 17, 18, 13, 14] (by decide) rfl rfl
        have hl : lv_has ls 7 [(4, .int (nI (3 * (k + 1) + 2))), (0, .ref (ad 0)), (1, .ref ca), (2, .int (nI (mk ||| 2 ^ 1))), (3, .int (nI (16 - lf)))] := lv_sub hl [0, 4, 5, 1, 6] rfl
        have hB : gB G.1 (rT G) A s H locs [(ad 0, .inr (7, [.ref (ad 21), .ref (ad 1), .ref (ad 2), .ref (ad 3), .ref (ad 4), .ref (ad 5), .ref (ad 7), .int (nI (n 7)), .int (nI (n 8)), .int (nI (n 9)), .int (nI 0), .int (nI (n 11)), .int (nI (n 12)), .int (nI (n 13)), .int (nI (n 14)), .int (nI (n 15)), .int (nI (n 16))])), (ad 4, .inl (cE, 3, .inr (.inr (.inr (.inr (evA ad)))))), (ad 9, .inr (1, [.ref (ad 10), .ref (ad 11), .ref (ad 12), .int (nI ((E 1).length)), .int (nI (W 1))])), (ad 10, .inl (G.2.2.2.1, 8, .inl (fp 1))), (ad 11, .inl (G.2.2.2.1, 8, .inl (fv 1))), (ad 12, .inl (G.2.2.2.1, 8, .inl (ft 1))), (ad 13, .inr (1, [.ref (ad 14), .ref (ad 15), .ref (ad 16), .int (nI ((E 2).length)), .int (nI (W 2))])), (ad 14, .inl (G.2.2.2.1, 8, .inl (fp 2))), (ad 15, .inl (G.2.2.2.1, 8, .inl (fv 2))), (ad 16, .inl (G.2.2.2.1, 8, .inl (ft 2))), (ad 17, .inr (1, [.ref (ad 18), .ref (ad 19), .ref (ad 20), .int (nI ((E 3).length)), .int (nI (W 3))])), (ad 18, .inl (G.2.2.2.1, 8, .inl (fp 3))), (ad 19, .inl (G.2.2.2.1, 8, .inl (fv 3))), (ad 20, .inl (G.2.2.2.1, 8, .inl (ft 3))), (ad 2, .inl (G.2.2.2.1, 10, .inl f2)), (ad 5, .inr (0, [.ref (ad 6), .int (nI (L ++ ptG f2).length)])), (ad 6, .inl (G.2.2.2.1, 160, .inl h2)), (ca, .inr (0, [.ref da, .int (nI bl.length)])), (da, .inl (G.2.2.2.1, kz, .inl g))] := hB
        have b_7 : (k + 1) + (d - 1) = NN := by omega
        have b_8 : pfx h2 (L ++ ptG f2) := hh2
        have b_9 : (L ++ ptG f2) = (rsS E f2 rd (bN (nI 0) 4) (k + 1)).1 := by rw [hrs]
        have b_10 : W = (rsS E f2 rd (bN (nI 0) 4) (k + 1)).2.2.2 := by rw [hrs]
        have b_11 : lf = (rsS E f2 rd (bN (nI 0) 4) (k + 1)).2.1 := by rw [hrs]
        have b_12 : (mk ||| 2 ^ 1) = mkF rd (k + 1) := hmk2
        have b_13 : ∀ x ∈ (L ++ ptG f2), isB x := isB_app bL (ptG_B f2)
        exact ih_1 (d - 1) (k + 1, h2, L ++ ptG f2, W, lf, mk ||| 2 ^ 1) H locs ls (by omega) ⟨b_7, b_8, b_9, b_10, b_11, b_12, b_13, hB, hl⟩
      · have hl : lv_has ls 7 [(2, .int (nI (mk ||| 2 ^ 2))), (6, .int (nI 1)), (5, .int (nI 2)), (4, .int (nI (3 * k + 2))), (0, .ref (ad 0)), (1, .ref ca), (3, .int (nI (16 - lf)))] := hl
        refine g_callS0 (av := [.int (nI 1)]) (rest := []) ⟨hx, hb, hml, hown, hts⟩ (k_Group_isClass l G (nI 1)) (va_cwS 1 hts gX10_makeResponse_X4_isClass rfl rfl rfl (by decide +kernel) ⟨Nat.le_of_ble_eq_true rfl, Nat.le_of_ble_eq_true rfl⟩) hB rfl hl.1 rfl (Nat.le_of_ble_eq_true rfl) dX10_makeResponse_61 ⟨Nat.le_of_ble_eq_true rfl, Nat.le_of_ble_eq_true rfl⟩ (fun r9 H locs hw hB => ?_)
        have hcl := hw
        have er : r9 = nI 1 := by rcases hcl with ⟨h1, h2⟩ | ⟨h1, h2⟩; exact h1; exact absurd h2 (by decide)
        subst er
        refine lv_if_eq (tgt := 95) hx hb dX10_makeResponse_64 (by decide) (fun c9 => absurd c9 (by decide)) (fun _ => ?_)
        refine lv_iload_n hx hb dX10_makeResponse_67 rfl (lv_at hl 6 rfl) ?_
        refine lv_aload_n hx hb dX10_makeResponse_68 rfl (lv_at hl 4 rfl) ?_
        refine g_get (own := RX10) (C := RX10) (T := TX10) (N := 17) (ci := 7) (v := .ref (ad 4)) hx hb hts (fun _ h => List.mem_cons_of_mem _ (List.mem_append_left _ (List.mem_append_left _ (List.mem_append_right _ h)))) hown hB 0 rfl rfl 4 (by decide) (hts (.fieldLink RX10 23 "PointReports$Station" "events" "[LPointReports$Events;") (by decide +kernel)) rfl rfl dX10_makeResponse_69 ?_
        refine lv_iload hx hb dX10_makeResponse_72 (lv_at hl 1 rfl) ?_
        refine lv_iconst (v := nI 1) hx hb dX10_makeResponse_74 (by decide) ?_
        refine lv_isub hx hb dX10_makeResponse_75 ?_
        refine g_top (y := nI 0) (by decide) ?_
        refine g_aldq (r := some (ad 9)) hx hb hB 1 3 rfl hTE 0 rfl (by omega) (by omega) rfl dX10_makeResponse_76 ?_
        refine lv_aload_n hx hb dX10_makeResponse_77 rfl (lv_at hl 4 rfl) ?_
        refine g_get (own := RX10) (C := RX10) (T := TX10) (N := 17) (ci := 7) (v := .ref (ad 5)) hx hb hts (fun _ h => List.mem_cons_of_mem _ (List.mem_append_left _ (List.mem_append_left _ (List.mem_append_right _ h)))) hown hB 0 rfl rfl 5 (by decide) (hts (.fieldLink RX10 32 "PointReports$Station" "response" "LPointReports$Bytes;") (by decide +kernel)) rfl rfl dX10_makeResponse_78 ?_
        refine lv_iload hx hb dX10_makeResponse_81 (lv_at hl 1 rfl) ?_
        refine lv_bipush (v := nI 16) hx hb dX10_makeResponse_83 (by decide) ?_
        refine lv_iload_n hx hb dX10_makeResponse_85 rfl (lv_at hl 6 rfl) ?_
        refine lv_isub hx hb dX10_makeResponse_86 ?_
        obtain ⟨mm, emm⟩ : ∃ mm, mm = mnN (E 1).length lf := ⟨_, rfl⟩
        have bmm : mm ≤ (E 1).length ∧ mm ≤ lf := by rw [emm]; unfold mnN; split <;> omega
        have hw0 : W 1 = 0 := hw0 (by decide)
        have hrs : rsS E f2 rd (bN (nI 0) 4) (k + 1) = (L ++ grS (E 1) 1 mm, lf - mm, (rsS E f2 rd (bN (nI 0) 4) k).2.2.1, va_up W 1 mm) := by rw [hrs, if_neg (by decide), emm]; show (_, _, _, va_up W 1 (max (W 1) _)) = _; rw [hw0, Nat.zero_max]
        refine g_top (y := nI lf) ((pk_sub (by omega)).trans (congrArg nI (by omega))) ?_
        have hB : gB G.1 (rT G) A s H locs [(ad 0, .inr (7, [.ref (ad 21), .ref (ad 1), .ref (ad 2), .ref (ad 3), .ref (ad 4), .ref (ad 5), .ref (ad 7), .int (nI (n 7)), .int (nI (n 8)), .int (nI (n 9)), .int (nI 0), .int (nI (n 11)), .int (nI (n 12)), .int (nI (n 13)), .int (nI (n 14)), .int (nI (n 15)), .int (nI (n 16))])), (ad 4, .inl (cE, 3, .inr (.inr (.inr (.inr (evA ad)))))), (ad 13, .inr (1, [.ref (ad 14), .ref (ad 15), .ref (ad 16), .int (nI ((E 2).length)), .int (nI (W 2))])), (ad 14, .inl (G.2.2.2.1, 8, .inl (fp 2))), (ad 15, .inl (G.2.2.2.1, 8, .inl (fv 2))), (ad 16, .inl (G.2.2.2.1, 8, .inl (ft 2))), (ad 17, .inr (1, [.ref (ad 18), .ref (ad 19), .ref (ad 20), .int (nI ((E 3).length)), .int (nI (W 3))])), (ad 18, .inl (G.2.2.2.1, 8, .inl (fp 3))), (ad 19, .inl (G.2.2.2.1, 8, .inl (fv 3))), (ad 20, .inl (G.2.2.2.1, 8, .inl (ft 3))), (ad 2, .inl (G.2.2.2.1, 10, .inl f2)), (ca, .inr (0, [.ref da, .int (nI bl.length)])), (da, .inl (G.2.2.2.1, kz, .inl g)), (ad 9, .inr (1, [.ref (ad 10), .ref (ad 11), .ref (ad 12), .int (nI ((E 1).length)), .int (nI (W 1))])), (ad 10, .inl (G.2.2.2.1, 8, .inl (fp 1))), (ad 11, .inl (G.2.2.2.1, 8, .inl (fv 1))), (ad 12, .inl (G.2.2.2.1, 8, .inl (ft 1))), (ad 5, .inr (0, [.ref (ad 6), .int (nI L.length)])), (ad 6, .inl (G.2.2.2.1, 160, .inl h))] := hB.order [0, 1, 6, 7, 8, 9, 10, 11, 12, 13, 14, 17, 18, 2, 3, 4, 5, 15, 16] (by decide) rfl rfl
        refine g_calliA (wr := [(ad 0, .inr (7, [.ref (ad 21), .ref (ad 1), .ref (ad 2), .ref (ad 3), .ref (ad 4), .ref (ad 5), .ref (ad 7), .int (nI (n 7)), .int (nI (n 8)), .int (nI (n 9)), .int (nI 0), .int (nI (n 11)), .int (nI (n 12)), .int (nI (n 13)), .int (nI (n 14)), .int (nI (n 15)), .int (nI (n 16))])), (ad 4, .inl (cE, 3, .inr (.inr (.inr (.inr (evA ad)))))), (ad 13, .inr (1, [.ref (ad 14), .ref (ad 15), .ref (ad 16), .int (nI ((E 2).length)), .int (nI (W 2))])), (ad 14, .inl (G.2.2.2.1, 8, .inl (fp 2))), (ad 15, .inl (G.2.2.2.1, 8, .inl (fv 2))), (ad 16, .inl (G.2.2.2.1, 8, .inl (ft 2))), (ad 17, .inr (1, [.ref (ad 18), .ref (ad 19), .ref (ad 20), .int (nI ((E 3).length)), .int (nI (W 3))])), (ad 18, .inl (G.2.2.2.1, 8, .inl (fp 3))), (ad 19, .inl (G.2.2.2.1, 8, .inl (fv 3))), (ad 20, .inl (G.2.2.2.1, 8, .inl (ft 3))), (ad 2, .inl (G.2.2.2.1, 10, .inl f2)), (ca, .inr (0, [.ref da, .int (nI bl.length)])), (da, .inl (G.2.2.2.1, kz, .inl g))]) (wc := [(ad 9, .inr (1, [.ref (ad 10), .ref (ad 11), .ref (ad 12), .int (nI ((E 1).length)), .int (nI (W 1))])), (ad 10, .inl (G.2.2.2.1, 8, .inl (fp 1))), (ad 11, .inl (G.2.2.2.1, 8, .inl (fv 1))), (ad 12, .inl (G.2.2.2.1, 8, .inl (ft 1))), (ad 5, .inr (0, [.ref (ad 6), .int (nI L.length)])), (ad 6, .inl (G.2.2.2.1, 160, .inl h))]) (av := [.ref (ad 5), .int (nI 1), .int (nI lf)]) (rest := [.int (nI (16 - lf))]) ⟨hx, hb, hml, hown, hts⟩ (k_Events_putGroup l G (ad 9) (ad 10) (ad 11) (ad 12) (fp 1) (fv 1) (ft 1) (E 1) e1.1 e1.2.1 (W 1) (hWl 1 (by decide) (by decide)) (ad 5) (ad 6) 160 h L hh lL (by decide) 1 lf (by decide) hlf16 (by rw [← emm]; omega)) (cwV 3 hts gX10_makeResponse_X2_putGroup rfl rfl rfl (by decide +kernel) ⟨Nat.le_of_ble_eq_true rfl, Nat.le_of_ble_eq_true rfl⟩) hB (q0 := 0) (ci := 1) rfl rfl rfl rfl hl.1 rfl (Nat.le_of_ble_eq_true rfl) dX10_makeResponse_87 ⟨Nat.le_of_ble_eq_true rfl, Nat.le_of_ble_eq_true rfl⟩ (fun r9 u H locs hw hB => ?_)
        obtain ⟨er, h2, hh2, rfl⟩ := hw
        rw [← emm] at er hh2 hB
        subst er
        rw [show (if mm = 0 then W 1 else mm) = va_up W 1 mm 1 by show _ = mm; rw [hw0]; split <;> omega] at hB
        have hB : gB G.1 (rT G) A s H locs [(ad 0, .inr (7, [.ref (ad 21), .ref (ad 1), .ref (ad 2), .ref (ad 3), .ref (ad 4), .ref (ad 5), .ref (ad 7), .int (nI (n 7)), .int (nI (n 8)), .int (nI (n 9)), .int (nI 0), .int (nI (n 11)), .int (nI (n 12)), .int (nI (n 13)), .int (nI (n 14)), .int (nI (n 15)), .int (nI (n 16))])), (ad 4, .inl (cE, 3, .inr (.inr (.inr (.inr (evA ad)))))), (ad 13, .inr (1, [.ref (ad 14), .ref (ad 15), .ref (ad 16), .int (nI ((E 2).length)), .int (nI (W 2))])), (ad 14, .inl (G.2.2.2.1, 8, .inl (fp 2))), (ad 15, .inl (G.2.2.2.1, 8, .inl (fv 2))), (ad 16, .inl (G.2.2.2.1, 8, .inl (ft 2))), (ad 17, .inr (1, [.ref (ad 18), .ref (ad 19), .ref (ad 20), .int (nI ((E 3).length)), .int (nI (W 3))])), (ad 18, .inl (G.2.2.2.1, 8, .inl (fp 3))), (ad 19, .inl (G.2.2.2.1, 8, .inl (fv 3))), (ad 20, .inl (G.2.2.2.1, 8, .inl (ft 3))), (ad 2, .inl (G.2.2.2.1, 10, .inl f2)), (ca, .inr (0, [.ref da, .int (nI bl.length)])), (da, .inl (G.2.2.2.1, kz, .inl g)), (ad 9, .inr (1, [.ref (ad 10), .ref (ad 11), .ref (ad 12), .int (nI ((E 1).length)), .int (nI (va_up W 1 mm 1))])), (ad 10, .inl (G.2.2.2.1, 8, .inl (fp 1))), (ad 11, .inl (G.2.2.2.1, 8, .inl (fv 1))), (ad 12, .inl (G.2.2.2.1, 8, .inl (ft 1))), (ad 5, .inr (0, [.ref (ad 6), .int (nI ((L ++ grS (E 1) 1 mm).length))])), (ad 6, .inl (G.2.2.2.1, 160, .inl h2))] := hB
        refine lv_iadd hx hb dX10_makeResponse_90 ?_
        refine g_top (y := nI ((16 - lf) + mm)) (nI_add _ _) ?_
        refine g_top (y := nI (16 - (lf - mm))) (congrArg nI (by omega)) ?_
        refine lv_istore_n (lv' := [(3, .int (nI (16 - (lf - mm)))), (2, .int (nI (mk ||| 2 ^ 2))), (6, .int (nI 1)), (5, .int (nI 2)), (4, .int (nI (3 * k + 2))), (0, .ref (ad 0)), (1, .ref ca)]) hx hb dX10_makeResponse_91 rfl hl (by decide) rfl (fun ls hl => ?_)
        refine lv_goto (tgt := 99) hx hb dX10_makeResponse_92 (by decide) ?_
        refine lv_iinc (v := nI (3 * k + 2 + 3)) (lv' := [(4, .int (nI (3 * k + 2 + 3))), (3, .int (nI (16 - (lf - mm)))), (2, .int (nI (mk ||| 2 ^ 2))), (6, .int (nI 1)), (5, .int (nI 2)), (0, .ref (ad 0)), (1, .ref ca)]) hx hb dX10_makeResponse_99 hl (k := 4) rfl (nI_add _ _) (by decide) rfl (fun ls hl => ?_)
        refine lv_goto (tgt := 15) hx hb dX10_makeResponse_102 (by decide) ?_
        rw [show 3 * k + 2 + 3 = 3 * (k + 1) + 2 from by omega] at hl
        have hl : lv_has ls 7 [(4, .int (nI (3 * (k + 1) + 2))), (3, .int (nI (16 - (lf - mm)))), (2, .int (nI (mk ||| 2 ^ 2))), (6, .int (nI 1)), (5, .int (nI 2)), (0, .ref (ad 0)), (1, .ref ca)] := hl
        have hB : gB G.1 (rT G) A s H locs [(ad 0, .inr (7, [.ref (ad 21), .ref (ad 1), .ref (ad 2), .ref (ad 3), .ref (ad 4), .ref (ad 5), .ref (ad 7), .int (nI (n 7)), .int (nI (n 8)), .int (nI (n 9)), .int (nI 0), .int (nI (n 11)), .int (nI (n 12)), .int (nI (n 13)), .int (nI (n 14)), .int (nI (n 15)), .int (nI (n 16))])), (ad 4, .inl (cE, 3, .inr (.inr (.inr (.inr (evA ad)))))), (ad 9, .inr (1, [.ref (ad 10), .ref (ad 11), .ref (ad 12), .int (nI ((E 1).length)), .int (nI (va_up W 1 mm 1))])), (ad 10, .inl (G.2.2.2.1, 8, .inl (fp 1))), (ad 11, .inl (G.2.2.2.1, 8, .inl (fv 1))), (ad 12, .inl (G.2.2.2.1, 8, .inl (ft 1))), (ad 13, .inr (1, [.ref (ad 14), .ref (ad 15), .ref (ad 16), .int (nI ((E 2).length)), .int (nI (W 2))])), (ad 14, .inl (G.2.2.2.1, 8, .inl (fp 2))), (ad 15, .inl (G.2.2.2.1, 8, .inl (fv 2))), (ad 16, .inl (G.2.2.2.1, 8, .inl (ft 2))), (ad 17, .inr (1, [.ref (ad 18), .ref (ad 19), .ref (ad 20), .int (nI ((E 3).length)), .int (nI (W 3))])), (ad 18, .inl (G.2.2.2.1, 8, .inl (fp 3))), (ad 19, .inl (G.2.2.2.1, 8, .inl (fv 3))), (ad 20, .inl (G.2.2.2.1, 8, .inl (ft 3))), (ad 2, .inl (G.2.2.2.1, 10, .inl f2)), (ad 5, .inr (0, [.ref (ad 6), .int (nI ((L ++ grS (E 1) 1 mm).length))])), (ad 6, .inl (G.2.2.2.1, 160, .inl h2)), (ca, .inr (0, [.ref da, .int (nI bl.length)])), (da, .inl (G.2.2.2.1, kz, .inl g))] := hB.order [0, 1, 13, 14, 15, 16, 2, 3, 4, 5, 6, 7, 8, 9, 10, 17, 18, 11, 12] (by decide) rfl rfl
        have hl : lv_has ls 7 [(4, .int (nI (3 * (k + 1) + 2))), (0, .ref (ad 0)), (1, .ref ca), (2, .int (nI (mk ||| 2 ^ 2))), (3, .int (nI (16 - (lf - mm))))] := lv_sub hl [0, 5, 6, 2, 1] rfl
        have hB : gB G.1 (rT G) A s H locs [(ad 0, .inr (7, [.ref (ad 21), .ref (ad 1), .ref (ad 2), .ref (ad 3), .ref (ad 4), .ref (ad 5), .ref (ad 7), .int (nI (n 7)), .int (nI (n 8)), .int (nI (n 9)), .int (nI 0), .int (nI (n 11)), .int (nI (n 12)), .int (nI (n 13)), .int (nI (n 14)), .int (nI (n 15)), .int (nI (n 16))])), (ad 4, .inl (cE, 3, .inr (.inr (.inr (.inr (evA ad)))))), (ad 9, .inr (1, [.ref (ad 10), .ref (ad 11), .ref (ad 12), .int (nI ((E 1).length)), .int (nI ((va_up W 1 mm) 1))])), (ad 10, .inl (G.2.2.2.1, 8, .inl (fp 1))), (ad 11, .inl (G.2.2.2.1, 8, .inl (fv 1))), (ad 12, .inl (G.2.2.2.1, 8, .inl (ft 1))), (ad 13, .inr (1, [.ref (ad 14), .ref (ad 15), .ref (ad 16), .int (nI ((E 2).length)), .int (nI ((va_up W 1 mm) 2))])), (ad 14, .inl (G.2.2.2.1, 8, .inl (fp 2))), (ad 15, .inl (G.2.2.2.1, 8, .inl (fv 2))), (ad 16, .inl (G.2.2.2.1, 8, .inl (ft 2))), (ad 17, .inr (1, [.ref (ad 18), .ref (ad 19), .ref (ad 20), .int (nI ((E 3).length)), .int (nI ((va_up W 1 mm) 3))])), (ad 18, .inl (G.2.2.2.1, 8, .inl (fp 3))), (ad 19, .inl (G.2.2.2.1, 8, .inl (fv 3))), (ad 20, .inl (G.2.2.2.1, 8, .inl (ft 3))), (ad 2, .inl (G.2.2.2.1, 10, .inl f2)), (ad 5, .inr (0, [.ref (ad 6), .int (nI (L ++ grS (E 1) 1 mm).length)])), (ad 6, .inl (G.2.2.2.1, 160, .inl h2)), (ca, .inr (0, [.ref da, .int (nI bl.length)])), (da, .inl (G.2.2.2.1, kz, .inl g))] := hB
        have b_14 : (k + 1) + (d - 1) = NN := by omega
        have b_15 : pfx h2 (L ++ grS (E 1) 1 mm) := hh2
        have b_16 : (L ++ grS (E 1) 1 mm) = (rsS E f2 rd (bN (nI 0) 4) (k + 1)).1 := by rw [hrs]
        have b_17 : (va_up W 1 mm) = (rsS E f2 rd (bN (nI 0) 4) (k + 1)).2.2.2 := by rw [hrs]
        have b_18 : (lf - mm) = (rsS E f2 rd (bN (nI 0) 4) (k + 1)).2.1 := by rw [hrs]
        have b_19 : (mk ||| 2 ^ 2) = mkF rd (k + 1) := hmk2
        have b_20 : ∀ x ∈ (L ++ grS (E 1) 1 mm), isB x := isB_app bL (grS_B _ _ _)
        exact ih_1 (d - 1) (k + 1, h2, L ++ grS (E 1) 1 mm, va_up W 1 mm, lf - mm, mk ||| 2 ^ 2) H locs ls (by omega) ⟨b_14, b_15, b_16, b_17, b_18, b_19, b_20, hB, hl⟩
      · have hl : lv_has ls 7 [(2, .int (nI (mk ||| 2 ^ 3))), (6, .int (nI 2)), (5, .int (nI 3)), (4, .int (nI (3 * k + 2))), (0, .ref (ad 0)), (1, .ref ca), (3, .int (nI (16 - lf)))] := hl
        refine g_callS0 (av := [.int (nI 2)]) (rest := []) ⟨hx, hb, hml, hown, hts⟩ (k_Group_isClass l G (nI 2)) (va_cwS 1 hts gX10_makeResponse_X4_isClass rfl rfl rfl (by decide +kernel) ⟨Nat.le_of_ble_eq_true rfl, Nat.le_of_ble_eq_true rfl⟩) hB rfl hl.1 rfl (Nat.le_of_ble_eq_true rfl) dX10_makeResponse_61 ⟨Nat.le_of_ble_eq_true rfl, Nat.le_of_ble_eq_true rfl⟩ (fun r9 H locs hw hB => ?_)
        have hcl := hw
        have er : r9 = nI 1 := by rcases hcl with ⟨h1, h2⟩ | ⟨h1, h2⟩; exact h1; exact absurd h2 (by decide)
        subst er
        refine lv_if_eq (tgt := 95) hx hb dX10_makeResponse_64 (by decide) (fun c9 => absurd c9 (by decide)) (fun _ => ?_)
        refine lv_iload_n hx hb dX10_makeResponse_67 rfl (lv_at hl 6 rfl) ?_
        refine lv_aload_n hx hb dX10_makeResponse_68 rfl (lv_at hl 4 rfl) ?_
        refine g_get (own := RX10) (C := RX10) (T := TX10) (N := 17) (ci := 7) (v := .ref (ad 4)) hx hb hts (fun _ h => List.mem_cons_of_mem _ (List.mem_append_left _ (List.mem_append_left _ (List.mem_append_right _ h)))) hown hB 0 rfl rfl 4 (by decide) (hts (.fieldLink RX10 23 "PointReports$Station" "events" "[LPointReports$Events;") (by decide +kernel)) rfl rfl dX10_makeResponse_69 ?_
        refine lv_iload hx hb dX10_makeResponse_72 (lv_at hl 1 rfl) ?_
        refine lv_iconst (v := nI 1) hx hb dX10_makeResponse_74 (by decide) ?_
        refine lv_isub hx hb dX10_makeResponse_75 ?_
        refine g_top (y := nI 1) (by decide) ?_
        refine g_aldq (r := some (ad 13)) hx hb hB 1 3 rfl hTE 1 rfl (by omega) (by omega) rfl dX10_makeResponse_76 ?_
        refine lv_aload_n hx hb dX10_makeResponse_77 rfl (lv_at hl 4 rfl) ?_
        refine g_get (own := RX10) (C := RX10) (T := TX10) (N := 17) (ci := 7) (v := .ref (ad 5)) hx hb hts (fun _ h => List.mem_cons_of_mem _ (List.mem_append_left _ (List.mem_append_left _ (List.mem_append_right _ h)))) hown hB 0 rfl rfl 5 (by decide) (hts (.fieldLink RX10 32 "PointReports$Station" "response" "LPointReports$Bytes;") (by decide +kernel)) rfl rfl dX10_makeResponse_78 ?_
        refine lv_iload hx hb dX10_makeResponse_81 (lv_at hl 1 rfl) ?_
        refine lv_bipush (v := nI 16) hx hb dX10_makeResponse_83 (by decide) ?_
        refine lv_iload_n hx hb dX10_makeResponse_85 rfl (lv_at hl 6 rfl) ?_
        refine lv_isub hx hb dX10_makeResponse_86 ?_
        obtain ⟨mm, emm⟩ : ∃ mm, mm = mnN (E 2).length lf := ⟨_, rfl⟩
        have bmm : mm ≤ (E 2).length ∧ mm ≤ lf := by rw [emm]; unfold mnN; split <;> omega
        have hw0 : W 2 = 0 := hw0 (by decide)
        have hrs : rsS E f2 rd (bN (nI 0) 4) (k + 1) = (L ++ grS (E 2) 2 mm, lf - mm, (rsS E f2 rd (bN (nI 0) 4) k).2.2.1, va_up W 2 mm) := by rw [hrs, if_neg (by decide), emm]; show (_, _, _, va_up W 2 (max (W 2) _)) = _; rw [hw0, Nat.zero_max]
        refine g_top (y := nI lf) ((pk_sub (by omega)).trans (congrArg nI (by omega))) ?_
        have hB : gB G.1 (rT G) A s H locs [(ad 0, .inr (7, [.ref (ad 21), .ref (ad 1), .ref (ad 2), .ref (ad 3), .ref (ad 4), .ref (ad 5), .ref (ad 7), .int (nI (n 7)), .int (nI (n 8)), .int (nI (n 9)), .int (nI 0), .int (nI (n 11)), .int (nI (n 12)), .int (nI (n 13)), .int (nI (n 14)), .int (nI (n 15)), .int (nI (n 16))])), (ad 4, .inl (cE, 3, .inr (.inr (.inr (.inr (evA ad)))))), (ad 9, .inr (1, [.ref (ad 10), .ref (ad 11), .ref (ad 12), .int (nI ((E 1).length)), .int (nI (W 1))])), (ad 10, .inl (G.2.2.2.1, 8, .inl (fp 1))), (ad 11, .inl (G.2.2.2.1, 8, .inl (fv 1))), (ad 12, .inl (G.2.2.2.1, 8, .inl (ft 1))), (ad 17, .inr (1, [.ref (ad 18), .ref (ad 19), .ref (ad 20), .int (nI ((E 3).length)), .int (nI (W 3))])), (ad 18, .inl (G.2.2.2.1, 8, .inl (fp 3))), (ad 19, .inl (G.2.2.2.1, 8, .inl (fv 3))), (ad 20, .inl (G.2.2.2.1, 8, .inl (ft 3))), (ad 2, .inl (G.2.2.2.1, 10, .inl f2)), (ca, .inr (0, [.ref da, .int (nI bl.length)])), (da, .inl (G.2.2.2.1, kz, .inl g)), (ad 13, .inr (1, [.ref (ad 14), .ref (ad 15), .ref (ad 16), .int (nI ((E 2).length)), .int (nI (W 2))])), (ad 14, .inl (G.2.2.2.1, 8, .inl (fp 2))), (ad 15, .inl (G.2.2.2.1, 8, .inl (fv 2))), (ad 16, .inl (G.2.2.2.1, 8, .inl (ft 2))), (ad 5, .inr (0, [.ref (ad 6), .int (nI L.length)])), (ad 6, .inl (G.2.2.2.1, 160, .inl h))] := hB.order [0, 1, 2, 3, 4, 5, 10, 11, 12, 13, 14, 17, 18, 6, 7, 8, 9, 15, 16] (by decide) rfl rfl
        refine g_calliA (wr := [(ad 0, .inr (7, [.ref (ad 21), .ref (ad 1), .ref (ad 2), .ref (ad 3), .ref (ad 4), .ref (ad 5), .ref (ad 7), .int (nI (n 7)), .int (nI (n 8)), .int (nI (n 9)), .int (nI 0), .int (nI (n 11)), .int (nI (n 12)), .int (nI (n 13)), .int (nI (n 14)), .int (nI (n 15)), .int (nI (n 16))])), (ad 4, .inl (cE, 3, .inr (.inr (.inr (.inr (evA ad)))))), (ad 9, .inr (1, [.ref (ad 10), .ref (ad 11), .ref (ad 12), .int (nI ((E 1).length)), .int (nI (W 1))])), (ad 10, .inl (G.2.2.2.1, 8, .inl (fp 1))), (ad 11, .inl (G.2.2.2.1, 8, .inl (fv 1))), (ad 12, .inl (G.2.2.2.1, 8, .inl (ft 1))), (ad 17, .inr (1, [.ref (ad 18), .ref (ad 19), .ref (ad 20), .int (nI ((E 3).length)), .int (nI (W 3))])), (ad 18, .inl (G.2.2.2.1, 8, .inl (fp 3))), (ad 19, .inl (G.2.2.2.1, 8, .inl (fv 3))), (ad 20, .inl (G.2.2.2.1, 8, .inl (ft 3))), (ad 2, .inl (G.2.2.2.1, 10, .inl f2)), (ca, .inr (0, [.ref da, .int (nI bl.length)])), (da, .inl (G.2.2.2.1, kz, .inl g))]) (wc := [(ad 13, .inr (1, [.ref (ad 14), .ref (ad 15), .ref (ad 16), .int (nI ((E 2).length)), .int (nI (W 2))])), (ad 14, .inl (G.2.2.2.1, 8, .inl (fp 2))), (ad 15, .inl (G.2.2.2.1, 8, .inl (fv 2))), (ad 16, .inl (G.2.2.2.1, 8, .inl (ft 2))), (ad 5, .inr (0, [.ref (ad 6), .int (nI L.length)])), (ad 6, .inl (G.2.2.2.1, 160, .inl h))]) (av := [.ref (ad 5), .int (nI 2), .int (nI lf)]) (rest := [.int (nI (16 - lf))]) ⟨hx, hb, hml, hown, hts⟩ (k_Events_putGroup l G (ad 13) (ad 14) (ad 15) (ad 16) (fp 2) (fv 2) (ft 2) (E 2) e2.1 e2.2.1 (W 2) (hWl 2 (by decide) (by decide)) (ad 5) (ad 6) 160 h L hh lL (by decide) 2 lf (by decide) hlf16 (by rw [← emm]; omega)) (cwV 3 hts gX10_makeResponse_X2_putGroup rfl rfl rfl (by decide +kernel) ⟨Nat.le_of_ble_eq_true rfl, Nat.le_of_ble_eq_true rfl⟩) hB (q0 := 0) (ci := 1) rfl rfl rfl rfl hl.1 rfl (Nat.le_of_ble_eq_true rfl) dX10_makeResponse_87 ⟨Nat.le_of_ble_eq_true rfl, Nat.le_of_ble_eq_true rfl⟩ (fun r9 u H locs hw hB => ?_)
        obtain ⟨er, h2, hh2, rfl⟩ := hw
        rw [← emm] at er hh2 hB
        subst er
        rw [show (if mm = 0 then W 2 else mm) = va_up W 2 mm 2 by show _ = mm; rw [hw0]; split <;> omega] at hB
        have hB : gB G.1 (rT G) A s H locs [(ad 0, .inr (7, [.ref (ad 21), .ref (ad 1), .ref (ad 2), .ref (ad 3), .ref (ad 4), .ref (ad 5), .ref (ad 7), .int (nI (n 7)), .int (nI (n 8)), .int (nI (n 9)), .int (nI 0), .int (nI (n 11)), .int (nI (n 12)), .int (nI (n 13)), .int (nI (n 14)), .int (nI (n 15)), .int (nI (n 16))])), (ad 4, .inl (cE, 3, .inr (.inr (.inr (.inr (evA ad)))))), (ad 9, .inr (1, [.ref (ad 10), .ref (ad 11), .ref (ad 12), .int (nI ((E 1).length)), .int (nI (W 1))])), (ad 10, .inl (G.2.2.2.1, 8, .inl (fp 1))), (ad 11, .inl (G.2.2.2.1, 8, .inl (fv 1))), (ad 12, .inl (G.2.2.2.1, 8, .inl (ft 1))), (ad 17, .inr (1, [.ref (ad 18), .ref (ad 19), .ref (ad 20), .int (nI ((E 3).length)), .int (nI (W 3))])), (ad 18, .inl (G.2.2.2.1, 8, .inl (fp 3))), (ad 19, .inl (G.2.2.2.1, 8, .inl (fv 3))), (ad 20, .inl (G.2.2.2.1, 8, .inl (ft 3))), (ad 2, .inl (G.2.2.2.1, 10, .inl f2)), (ca, .inr (0, [.ref da, .int (nI bl.length)])), (da, .inl (G.2.2.2.1, kz, .inl g)), (ad 13, .inr (1, [.ref (ad 14), .ref (ad 15), .ref (ad 16), .int (nI ((E 2).length)), .int (nI (va_up W 2 mm 2))])), (ad 14, .inl (G.2.2.2.1, 8, .inl (fp 2))), (ad 15, .inl (G.2.2.2.1, 8, .inl (fv 2))), (ad 16, .inl (G.2.2.2.1, 8, .inl (ft 2))), (ad 5, .inr (0, [.ref (ad 6), .int (nI ((L ++ grS (E 2) 2 mm).length))])), (ad 6, .inl (G.2.2.2.1, 160, .inl h2))] := hB
        refine lv_iadd hx hb dX10_makeResponse_90 ?_
        refine g_top (y := nI ((16 - lf) + mm)) (nI_add _ _) ?_
        refine g_top (y := nI (16 - (lf - mm))) (congrArg nI (by omega)) ?_
        refine lv_istore_n (lv' := [(3, .int (nI (16 - (lf - mm)))), (2, .int (nI (mk ||| 2 ^ 3))), (6, .int (nI 2)), (5, .int (nI 3)), (4, .int (nI (3 * k + 2))), (0, .ref (ad 0)), (1, .ref ca)]) hx hb dX10_makeResponse_91 rfl hl (by decide) rfl (fun ls hl => ?_)
        refine lv_goto (tgt := 99) hx hb dX10_makeResponse_92 (by decide) ?_
        refine lv_iinc (v := nI (3 * k + 2 + 3)) (lv' := [(4, .int (nI (3 * k + 2 + 3))), (3, .int (nI (16 - (lf - mm)))), (2, .int (nI (mk ||| 2 ^ 3))), (6, .int (nI 2)), (5, .int (nI 3)), (0, .ref (ad 0)), (1, .ref ca)]) hx hb dX10_makeResponse_99 hl (k := 4) rfl (nI_add _ _) (by decide) rfl (fun ls hl => ?_)
        refine lv_goto (tgt := 15) hx hb dX10_makeResponse_102 (by decide) ?_
        rw [show 3 * k + 2 + 3 = 3 * (k + 1) + 2 from by omega] at hl
        have hl : lv_has ls 7 [(4, .int (nI (3 * (k + 1) + 2))), (3, .int (nI (16 - (lf - mm)))), (2, .int (nI (mk ||| 2 ^ 3))), (6, .int (nI 2)), (5, .int (nI 3)), (0, .ref (ad 0)), (1, .ref ca)] := hl
        have hB : gB G.1 (rT G) A s H locs [(ad 0, .inr (7, [.ref (ad 21), .ref (ad 1), .ref (ad 2), .ref (ad 3), .ref (ad 4), .ref (ad 5), .ref (ad 7), .int (nI (n 7)), .int (nI (n 8)), .int (nI (n 9)), .int (nI 0), .int (nI (n 11)), .int (nI (n 12)), .int (nI (n 13)), .int (nI (n 14)), .int (nI (n 15)), .int (nI (n 16))])), (ad 4, .inl (cE, 3, .inr (.inr (.inr (.inr (evA ad)))))), (ad 9, .inr (1, [.ref (ad 10), .ref (ad 11), .ref (ad 12), .int (nI ((E 1).length)), .int (nI (W 1))])), (ad 10, .inl (G.2.2.2.1, 8, .inl (fp 1))), (ad 11, .inl (G.2.2.2.1, 8, .inl (fv 1))), (ad 12, .inl (G.2.2.2.1, 8, .inl (ft 1))), (ad 13, .inr (1, [.ref (ad 14), .ref (ad 15), .ref (ad 16), .int (nI ((E 2).length)), .int (nI (va_up W 2 mm 2))])), (ad 14, .inl (G.2.2.2.1, 8, .inl (fp 2))), (ad 15, .inl (G.2.2.2.1, 8, .inl (fv 2))), (ad 16, .inl (G.2.2.2.1, 8, .inl (ft 2))), (ad 17, .inr (1, [.ref (ad 18), .ref (ad 19), .ref (ad 20), .int (nI ((E 3).length)), .int (nI (W 3))])), (ad 18, .inl (G.2.2.2.1, 8, .inl (fp 3))), (ad 19, .inl (G.2.2.2.1, 8, .inl (fv 3))), (ad 20, .inl (G.2.2.2.1, 8, .inl (ft 3))), (ad 2, .inl (G.2.2.2.1, 10, .inl f2)), (ad 5, .inr (0, [.ref (ad 6), .int (nI ((L ++ grS (E 2) 2 mm).length))])), (ad 6, .inl (G.2.2.2.1, 160, .inl h2)), (ca, .inr (0, [.ref da, .int (nI bl.length)])), (da, .inl (G.2.2.2.1, kz, .inl g))] := hB.order [0, 1, 2, 3, 4, 5, 13, 14, 15, 16, 6, 7, 8, 9, 10, 17, 18, 11, 12] (by decide) rfl rfl
        have hl : lv_has ls 7 [(4, .int (nI (3 * (k + 1) + 2))), (0, .ref (ad 0)), (1, .ref ca), (2, .int (nI (mk ||| 2 ^ 3))), (3, .int (nI (16 - (lf - mm))))] := lv_sub hl [0, 5, 6, 2, 1] rfl
        have hB : gB G.1 (rT G) A s H locs [(ad 0, .inr (7, [.ref (ad 21), .ref (ad 1), .ref (ad 2), .ref (ad 3), .ref (ad 4), .ref (ad 5), .ref (ad 7), .int (nI (n 7)), .int (nI (n 8)), .int (nI (n 9)), .int (nI 0), .int (nI (n 11)), .int (nI (n 12)), .int (nI (n 13)), .int (nI (n 14)), .int (nI (n 15)), .int (nI (n 16))])), (ad 4, .inl (cE, 3, .inr (.inr (.inr (.inr (evA ad)))))), (ad 9, .inr (1, [.ref (ad 10), .ref (ad 11), .ref (ad 12), .int (nI ((E 1).length)), .int (nI ((va_up W 2 mm) 1))])), (ad 10, .inl (G.2.2.2.1, 8, .inl (fp 1))), (ad 11, .inl (G.2.2.2.1, 8, .inl (fv 1))), (ad 12, .inl (G.2.2.2.1, 8, .inl (ft 1))), (ad 13, .inr (1, [.ref (ad 14), .ref (ad 15), .ref (ad 16), .int (nI ((E 2).length)), .int (nI ((va_up W 2 mm) 2))])), (ad 14, .inl (G.2.2.2.1, 8, .inl (fp 2))), (ad 15, .inl (G.2.2.2.1, 8, .inl (fv 2))), (ad 16, .inl (G.2.2.2.1, 8, .inl (ft 2))), (ad 17, .inr (1, [.ref (ad 18), .ref (ad 19), .ref (ad 20), .int (nI ((E 3).length)), .int (nI ((va_up W 2 mm) 3))])), (ad 18, .inl (G.2.2.2.1, 8, .inl (fp 3))), (ad 19, .inl (G.2.2.2.1, 8, .inl (fv 3))), (ad 20, .inl (G.2.2.2.1, 8, .inl (ft 3))), (ad 2, .inl (G.2.2.2.1, 10, .inl f2)), (ad 5, .inr (0, [.ref (ad 6), .int (nI (L ++ grS (E 2) 2 mm).length)])), (ad 6, .inl (G.2.2.2.1, 160, .inl h2)), (ca, .inr (0, [.ref da, .int (nI bl.length)])), (da, .inl (G.2.2.2.1, kz, .inl g))] := hB
        have b_21 : (k + 1) + (d - 1) = NN := by omega
        have b_22 : pfx h2 (L ++ grS (E 2) 2 mm) := hh2
        have b_23 : (L ++ grS (E 2) 2 mm) = (rsS E f2 rd (bN (nI 0) 4) (k + 1)).1 := by rw [hrs]
        have b_24 : (va_up W 2 mm) = (rsS E f2 rd (bN (nI 0) 4) (k + 1)).2.2.2 := by rw [hrs]
        have b_25 : (lf - mm) = (rsS E f2 rd (bN (nI 0) 4) (k + 1)).2.1 := by rw [hrs]
        have b_26 : (mk ||| 2 ^ 3) = mkF rd (k + 1) := hmk2
        have b_27 : ∀ x ∈ (L ++ grS (E 2) 2 mm), isB x := isB_app bL (grS_B _ _ _)
        exact ih_1 (d - 1) (k + 1, h2, L ++ grS (E 2) 2 mm, va_up W 2 mm, lf - mm, mk ||| 2 ^ 3) H locs ls (by omega) ⟨b_21, b_22, b_23, b_24, b_25, b_26, b_27, hB, hl⟩
      · have hl : lv_has ls 7 [(2, .int (nI (mk ||| 2 ^ 4))), (6, .int (nI 3)), (5, .int (nI 4)), (4, .int (nI (3 * k + 2))), (0, .ref (ad 0)), (1, .ref ca), (3, .int (nI (16 - lf)))] := hl
        refine g_callS0 (av := [.int (nI 3)]) (rest := []) ⟨hx, hb, hml, hown, hts⟩ (k_Group_isClass l G (nI 3)) (va_cwS 1 hts gX10_makeResponse_X4_isClass rfl rfl rfl (by decide +kernel) ⟨Nat.le_of_ble_eq_true rfl, Nat.le_of_ble_eq_true rfl⟩) hB rfl hl.1 rfl (Nat.le_of_ble_eq_true rfl) dX10_makeResponse_61 ⟨Nat.le_of_ble_eq_true rfl, Nat.le_of_ble_eq_true rfl⟩ (fun r9 H locs hw hB => ?_)
        have hcl := hw
        have er : r9 = nI 1 := by rcases hcl with ⟨h1, h2⟩ | ⟨h1, h2⟩; exact h1; exact absurd h2 (by decide)
        subst er
        refine lv_if_eq (tgt := 95) hx hb dX10_makeResponse_64 (by decide) (fun c9 => absurd c9 (by decide)) (fun _ => ?_)
        refine lv_iload_n hx hb dX10_makeResponse_67 rfl (lv_at hl 6 rfl) ?_
        refine lv_aload_n hx hb dX10_makeResponse_68 rfl (lv_at hl 4 rfl) ?_
        refine g_get (own := RX10) (C := RX10) (T := TX10) (N := 17) (ci := 7) (v := .ref (ad 4)) hx hb hts (fun _ h => List.mem_cons_of_mem _ (List.mem_append_left _ (List.mem_append_left _ (List.mem_append_right _ h)))) hown hB 0 rfl rfl 4 (by decide) (hts (.fieldLink RX10 23 "PointReports$Station" "events" "[LPointReports$Events;") (by decide +kernel)) rfl rfl dX10_makeResponse_69 ?_
        refine lv_iload hx hb dX10_makeResponse_72 (lv_at hl 1 rfl) ?_
        refine lv_iconst (v := nI 1) hx hb dX10_makeResponse_74 (by decide) ?_
        refine lv_isub hx hb dX10_makeResponse_75 ?_
        refine g_top (y := nI 2) (by decide) ?_
        refine g_aldq (r := some (ad 17)) hx hb hB 1 3 rfl hTE 2 rfl (by omega) (by omega) rfl dX10_makeResponse_76 ?_
        refine lv_aload_n hx hb dX10_makeResponse_77 rfl (lv_at hl 4 rfl) ?_
        refine g_get (own := RX10) (C := RX10) (T := TX10) (N := 17) (ci := 7) (v := .ref (ad 5)) hx hb hts (fun _ h => List.mem_cons_of_mem _ (List.mem_append_left _ (List.mem_append_left _ (List.mem_append_right _ h)))) hown hB 0 rfl rfl 5 (by decide) (hts (.fieldLink RX10 32 "PointReports$Station" "response" "LPointReports$Bytes;") (by decide +kernel)) rfl rfl dX10_makeResponse_78 ?_
        refine lv_iload hx hb dX10_makeResponse_81 (lv_at hl 1 rfl) ?_
        refine lv_bipush (v := nI 16) hx hb dX10_makeResponse_83 (by decide) ?_
        refine lv_iload_n hx hb dX10_makeResponse_85 rfl (lv_at hl 6 rfl) ?_
        refine lv_isub hx hb dX10_makeResponse_86 ?_
        obtain ⟨mm, emm⟩ : ∃ mm, mm = mnN (E 3).length lf := ⟨_, rfl⟩
        have bmm : mm ≤ (E 3).length ∧ mm ≤ lf := by rw [emm]; unfold mnN; split <;> omega
        have hw0 : W 3 = 0 := hw0 (by decide)
        have hrs : rsS E f2 rd (bN (nI 0) 4) (k + 1) = (L ++ grS (E 3) 3 mm, lf - mm, (rsS E f2 rd (bN (nI 0) 4) k).2.2.1, va_up W 3 mm) := by rw [hrs, if_neg (by decide), emm]; show (_, _, _, va_up W 3 (max (W 3) _)) = _; rw [hw0, Nat.zero_max]
        refine g_top (y := nI lf) ((pk_sub (by omega)).trans (congrArg nI (by omega))) ?_
        have hB : gB G.1 (rT G) A s H locs [(ad 0, .inr (7, [.ref (ad 21), .ref (ad 1), .ref (ad 2), .ref (ad 3), .ref (ad 4), .ref (ad 5), .ref (ad 7), .int (nI (n 7)), .int (nI (n 8)), .int (nI (n 9)), .int (nI 0), .int (nI (n 11)), .int (nI (n 12)), .int (nI (n 13)), .int (nI (n 14)), .int (nI (n 15)), .int (nI (n 16))])), (ad 4, .inl (cE, 3, .inr (.inr (.inr (.inr (evA ad)))))), (ad 9, .inr (1, [.ref (ad 10), .ref (ad 11), .ref (ad 12), .int (nI ((E 1).length)), .int (nI (W 1))])), (ad 10, .inl (G.2.2.2.1, 8, .inl (fp 1))), (ad 11, .inl (G.2.2.2.1, 8, .inl (fv 1))), (ad 12, .inl (G.2.2.2.1, 8, .inl (ft 1))), (ad 13, .inr (1, [.ref (ad 14), .ref (ad 15), .ref (ad 16), .int (nI ((E 2).length)), .int (nI (W 2))])), (ad 14, .inl (G.2.2.2.1, 8, .inl (fp 2))), (ad 15, .inl (G.2.2.2.1, 8, .inl (fv 2))), (ad 16, .inl (G.2.2.2.1, 8, .inl (ft 2))), (ad 2, .inl (G.2.2.2.1, 10, .inl f2)), (ca, .inr (0, [.ref da, .int (nI bl.length)])), (da, .inl (G.2.2.2.1, kz, .inl g)), (ad 17, .inr (1, [.ref (ad 18), .ref (ad 19), .ref (ad 20), .int (nI ((E 3).length)), .int (nI (W 3))])), (ad 18, .inl (G.2.2.2.1, 8, .inl (fp 3))), (ad 19, .inl (G.2.2.2.1, 8, .inl (fv 3))), (ad 20, .inl (G.2.2.2.1, 8, .inl (ft 3))), (ad 5, .inr (0, [.ref (ad 6), .int (nI L.length)])), (ad 6, .inl (G.2.2.2.1, 160, .inl h))] := hB.order [0, 1, 2, 3, 4, 5, 6, 7, 8, 9, 14, 17, 18, 10, 11, 12, 13, 15, 16] (by decide) rfl rfl
        refine g_calliA (wr := [(ad 0, .inr (7, [.ref (ad 21), .ref (ad 1), .ref (ad 2), .ref (ad 3), .ref (ad 4), .ref (ad 5), .ref (ad 7), .int (nI (n 7)), .int (nI (n 8)), .int (nI (n 9)), .int (nI 0), .int (nI (n 11)), .int (nI (n 12)), .int (nI (n 13)), .int (nI (n 14)), .int (nI (n 15)), .int (nI (n 16))])), (ad 4, .inl (cE, 3, .inr (.inr (.inr (.inr (evA ad)))))), (ad 9, .inr (1, [.ref (ad 10), .ref (ad 11), .ref (ad 12), .int (nI ((E 1).length)), .int (nI (W 1))])), (ad 10, .inl (G.2.2.2.1, 8, .inl (fp 1))), (ad 11, .inl (G.2.2.2.1, 8, .inl (fv 1))), (ad 12, .inl (G.2.2.2.1, 8, .inl (ft 1))), (ad 13, .inr (1, [.ref (ad 14), .ref (ad 15), .ref (ad 16), .int (nI ((E 2).length)), .int (nI (W 2))])), (ad 14, .inl (G.2.2.2.1, 8, .inl (fp 2))), (ad 15, .inl (G.2.2.2.1, 8, .inl (fv 2))), (ad 16, .inl (G.2.2.2.1, 8, .inl (ft 2))), (ad 2, .inl (G.2.2.2.1, 10, .inl f2)), (ca, .inr (0, [.ref da, .int (nI bl.length)])), (da, .inl (G.2.2.2.1, kz, .inl g))]) (wc := [(ad 17, .inr (1, [.ref (ad 18), .ref (ad 19), .ref (ad 20), .int (nI ((E 3).length)), .int (nI (W 3))])), (ad 18, .inl (G.2.2.2.1, 8, .inl (fp 3))), (ad 19, .inl (G.2.2.2.1, 8, .inl (fv 3))), (ad 20, .inl (G.2.2.2.1, 8, .inl (ft 3))), (ad 5, .inr (0, [.ref (ad 6), .int (nI L.length)])), (ad 6, .inl (G.2.2.2.1, 160, .inl h))]) (av := [.ref (ad 5), .int (nI 3), .int (nI lf)]) (rest := [.int (nI (16 - lf))]) ⟨hx, hb, hml, hown, hts⟩ (k_Events_putGroup l G (ad 17) (ad 18) (ad 19) (ad 20) (fp 3) (fv 3) (ft 3) (E 3) e3.1 e3.2.1 (W 3) (hWl 3 (by decide) (by decide)) (ad 5) (ad 6) 160 h L hh lL (by decide) 3 lf (by decide) hlf16 (by rw [← emm]; omega)) (cwV 3 hts gX10_makeResponse_X2_putGroup rfl rfl rfl (by decide +kernel) ⟨Nat.le_of_ble_eq_true rfl, Nat.le_of_ble_eq_true rfl⟩) hB (q0 := 0) (ci := 1) rfl rfl rfl rfl hl.1 rfl (Nat.le_of_ble_eq_true rfl) dX10_makeResponse_87 ⟨Nat.le_of_ble_eq_true rfl, Nat.le_of_ble_eq_true rfl⟩ (fun r9 u H locs hw hB => ?_)
        obtain ⟨er, h2, hh2, rfl⟩ := hw
        rw [← emm] at er hh2 hB
        subst er
        rw [show (if mm = 0 then W 3 else mm) = va_up W 3 mm 3 by show _ = mm; rw [hw0]; split <;> omega] at hB
        have hB : gB G.1 (rT G) A s H locs [(ad 0, .inr (7, [.ref (ad 21), .ref (ad 1), .ref (ad 2), .ref (ad 3), .ref (ad 4), .ref (ad 5), .ref (ad 7), .int (nI (n 7)), .int (nI (n 8)), .int (nI (n 9)), .int (nI 0), .int (nI (n 11)), .int (nI (n 12)), .int (nI (n 13)), .int (nI (n 14)), .int (nI (n 15)), .int (nI (n 16))])), (ad 4, .inl (cE, 3, .inr (.inr (.inr (.inr (evA ad)))))), (ad 9, .inr (1, [.ref (ad 10), .ref (ad 11), .ref (ad 12), .int (nI ((E 1).length)), .int (nI (W 1))])), (ad 10, .inl (G.2.2.2.1, 8, .inl (fp 1))), (ad 11, .inl (G.2.2.2.1, 8, .inl (fv 1))), (ad 12, .inl (G.2.2.2.1, 8, .inl (ft 1))), (ad 13, .inr (1, [.ref (ad 14), .ref (ad 15), .ref (ad 16), .int (nI ((E 2).length)), .int (nI (W 2))])), (ad 14, .inl (G.2.2.2.1, 8, .inl (fp 2))), (ad 15, .inl (G.2.2.2.1, 8, .inl (fv 2))), (ad 16, .inl (G.2.2.2.1, 8, .inl (ft 2))), (ad 2, .inl (G.2.2.2.1, 10, .inl f2)), (ca, .inr (0, [.ref da, .int (nI bl.length)])), (da, .inl (G.2.2.2.1, kz, .inl g)), (ad 17, .inr (1, [.ref (ad 18), .ref (ad 19), .ref (ad 20), .int (nI ((E 3).length)), .int (nI (va_up W 3 mm 3))])), (ad 18, .inl (G.2.2.2.1, 8, .inl (fp 3))), (ad 19, .inl (G.2.2.2.1, 8, .inl (fv 3))), (ad 20, .inl (G.2.2.2.1, 8, .inl (ft 3))), (ad 5, .inr (0, [.ref (ad 6), .int (nI ((L ++ grS (E 3) 3 mm).length))])), (ad 6, .inl (G.2.2.2.1, 160, .inl h2))] := hB
        refine lv_iadd hx hb dX10_makeResponse_90 ?_
        refine g_top (y := nI ((16 - lf) + mm)) (nI_add _ _) ?_
        refine g_top (y := nI (16 - (lf - mm))) (congrArg nI (by omega)) ?_
        refine lv_istore_n (lv' := [(3, .int (nI (16 - (lf - mm)))), (2, .int (nI (mk ||| 2 ^ 4))), (6, .int (nI 3)), (5, .int (nI 4)), (4, .int (nI (3 * k + 2))), (0, .ref (ad 0)), (1, .ref ca)]) hx hb dX10_makeResponse_91 rfl hl (by decide) rfl (fun ls hl => ?_)
        refine lv_goto (tgt := 99) hx hb dX10_makeResponse_92 (by decide) ?_
        refine lv_iinc (v := nI (3 * k + 2 + 3)) (lv' := [(4, .int (nI (3 * k + 2 + 3))), (3, .int (nI (16 - (lf - mm)))), (2, .int (nI (mk ||| 2 ^ 4))), (6, .int (nI 3)), (5, .int (nI 4)), (0, .ref (ad 0)), (1, .ref ca)]) hx hb dX10_makeResponse_99 hl (k := 4) rfl (nI_add _ _) (by decide) rfl (fun ls hl => ?_)
        refine lv_goto (tgt := 15) hx hb dX10_makeResponse_102 (by decide) ?_
        rw [show 3 * k + 2 + 3 = 3 * (k + 1) + 2 from by omega] at hl
        have hl : lv_has ls 7 [(4, .int (nI (3 * (k + 1) + 2))), (3, .int (nI (16 - (lf - mm)))), (2, .int (nI (mk ||| 2 ^ 4))), (6, .int (nI 3)), (5, .int (nI 4)), (0, .ref (ad 0)), (1, .ref ca)] := hl
        have hB : gB G.1 (rT G) A s H locs [(ad 0, .inr (7, [.ref (ad 21), .ref (ad 1), .ref (ad 2), .ref (ad 3), .ref (ad 4), .ref (ad 5), .ref (ad 7), .int (nI (n 7)), .int (nI (n 8)), .int (nI (n 9)), .int (nI 0), .int (nI (n 11)), .int (nI (n 12)), .int (nI (n 13)), .int (nI (n 14)), .int (nI (n 15)), .int (nI (n 16))])), (ad 4, .inl (cE, 3, .inr (.inr (.inr (.inr (evA ad)))))), (ad 9, .inr (1, [.ref (ad 10), .ref (ad 11), .ref (ad 12), .int (nI ((E 1).length)), .int (nI (W 1))])), (ad 10, .inl (G.2.2.2.1, 8, .inl (fp 1))), (ad 11, .inl (G.2.2.2.1, 8, .inl (fv 1))), (ad 12, .inl (G.2.2.2.1, 8, .inl (ft 1))), (ad 13, .inr (1, [.ref (ad 14), .ref (ad 15), .ref (ad 16), .int (nI ((E 2).length)), .int (nI (W 2))])), (ad 14, .inl (G.2.2.2.1, 8, .inl (fp 2))), (ad 15, .inl (G.2.2.2.1, 8, .inl (fv 2))), (ad 16, .inl (G.2.2.2.1, 8, .inl (ft 2))), (ad 17, .inr (1, [.ref (ad 18), .ref (ad 19), .ref (ad 20), .int (nI ((E 3).length)), .int (nI (va_up W 3 mm 3))])), (ad 18, .inl (G.2.2.2.1, 8, .inl (fp 3))), (ad 19, .inl (G.2.2.2.1, 8, .inl (fv 3))), (ad 20, .inl (G.2.2.2.1, 8, .inl (ft 3))), (ad 2, .inl (G.2.2.2.1, 10, .inl f2)), (ad 5, .inr (0, [.ref (ad 6), .int (nI ((L ++ grS (E 3) 3 mm).length))])), (ad 6, .inl (G.2.2.2.1, 160, .inl h2)), (ca, .inr (0, [.ref da, .int (nI bl.length)])), (da, .inl (G.2.2.2.1, kz, .inl g))] := hB.order [0, 1, 2, 3, 4, 5, 6, 7, 8, 9, 13, 14, 15, 16, 10, 17, 18, 11, 12] (by decide) rfl rfl
        have hl : lv_has ls 7 [(4, .int (nI (3 * (k + 1) + 2))), (0, .ref (ad 0)), (1, .ref ca), (2, .int (nI (mk ||| 2 ^ 4))), (3, .int (nI (16 - (lf - mm))))] := lv_sub hl [0, 5, 6, 2, 1] rfl
        have hB : gB G.1 (rT G) A s H locs [(ad 0, .inr (7, [.ref (ad 21), .ref (ad 1), .ref (ad 2), .ref (ad 3), .ref (ad 4), .ref (ad 5), .ref (ad 7), .int (nI (n 7)), .int (nI (n 8)), .int (nI (n 9)), .int (nI 0), .int (nI (n 11)), .int (nI (n 12)), .int (nI (n 13)), .int (nI (n 14)), .int (nI (n 15)), .int (nI (n 16))])), (ad 4, .inl (cE, 3, .inr (.inr (.inr (.inr (evA ad)))))), (ad 9, .inr (1, [.ref (ad 10), .ref (ad 11), .ref (ad 12), .int (nI ((E 1).length)), .int (nI ((va_up W 3 mm) 1))])), (ad 10, .inl (G.2.2.2.1, 8, .inl (fp 1))), (ad 11, .inl (G.2.2.2.1, 8, .inl (fv 1))), (ad 12, .inl (G.2.2.2.1, 8, .inl (ft 1))), (ad 13, .inr (1, [.ref (ad 14), .ref (ad 15), .ref (ad 16), .int (nI ((E 2).length)), .int (nI ((va_up W 3 mm) 2))])), (ad 14, .inl (G.2.2.2.1, 8, .inl (fp 2))), (ad 15, .inl (G.2.2.2.1, 8, .inl (fv 2))), (ad 16, .inl (G.2.2.2.1, 8, .inl (ft 2))), (ad 17, .inr (1, [.ref (ad 18), .ref (ad 19), .ref (ad 20), .int (nI ((E 3).length)), .int (nI ((va_up W 3 mm) 3))])), (ad 18, .inl (G.2.2.2.1, 8, .inl (fp 3))), (ad 19, .inl (G.2.2.2.1, 8, .inl (fv 3))), (ad 20, .inl (G.2.2.2.1, 8, .inl (ft 3))), (ad 2, .inl (G.2.2.2.1, 10, .inl f2)), (ad 5, .inr (0, [.ref (ad 6), .int (nI (L ++ grS (E 3) 3 mm).length)])), (ad 6, .inl (G.2.2.2.1, 160, .inl h2)), (ca, .inr (0, [.ref da, .int (nI bl.length)])), (da, .inl (G.2.2.2.1, kz, .inl g))] := hB
        have b_28 : (k + 1) + (d - 1) = NN := by omega
        have b_29 : pfx h2 (L ++ grS (E 3) 3 mm) := hh2
        have b_30 : (L ++ grS (E 3) 3 mm) = (rsS E f2 rd (bN (nI 0) 4) (k + 1)).1 := by rw [hrs]
        have b_31 : (va_up W 3 mm) = (rsS E f2 rd (bN (nI 0) 4) (k + 1)).2.2.2 := by rw [hrs]
        have b_32 : (lf - mm) = (rsS E f2 rd (bN (nI 0) 4) (k + 1)).2.1 := by rw [hrs]
        have b_33 : (mk ||| 2 ^ 4) = mkF rd (k + 1) := hmk2
        have b_34 : ∀ x ∈ (L ++ grS (E 3) 3 mm), isB x := isB_app bL (grS_B _ _ _)
        exact ih_1 (d - 1) (k + 1, h2, L ++ grS (E 3) 3 mm, va_up W 3 mm, lf - mm, mk ||| 2 ^ 4) H locs ls (by omega) ⟨b_28, b_29, b_30, b_31, b_32, b_33, b_34, hB, hl⟩
    · have c_6 := c_6
      have hold : (mkF rd k).testBit v = true := by have h1 : ¬ mk.testBit v = false := fun z => c_6 ((mk_test mk hm32 v (by omega)).mpr z); rw [hmk] at h1; exact Bool.not_eq_false _ ▸ h1
      have hnew : ¬ fsF rd v k = 1 := by rw [mk_fs] at hold; exact of_decide_eq_true hold
      have hrs : rsS E f2 rd (bN (nI 0) 4) (k + 1) = (rsS E f2 rd (bN (nI 0) 4) k) := by rw [rsS, ← ev, if_neg hnew]
      have hmk2 : mk = mkF rd (k + 1) := by rw [mkF, ← ev, mk_in hold]; exact hmk
      refine lv_goto (tgt := 99) hx hb dX10_makeResponse_49 (by decide) ?_
      refine lv_iinc (v := nI (3 * k + 2 + 3)) (lv' := [(4, .int (nI (3 * k + 2 + 3))), (6, .int (nI (v - 1))), (5, .int (nI v)), (0, .ref (ad 0)), (1, .ref ca), (2, .int (nI mk)), (3, .int (nI (16 - lf)))]) hx hb dX10_makeResponse_99 hl (k := 2) rfl (nI_add _ _) (by decide) rfl (fun ls hl => ?_)
      refine lv_goto (tgt := 15) hx hb dX10_makeResponse_102 (by decide) ?_
      rw [show 3 * k + 2 + 3 = 3 * (k + 1) + 2 from by omega] at hl
      have hl : lv_has ls 7 [(4, .int (nI (3 * (k + 1) + 2))), (6, .int (nI (v - 1))), (5, .int (nI v)), (0, .ref (ad 0)), (1, .ref ca), (2, .int (nI mk)), (3, .int (nI (16 - lf)))] := hl
      have hl : lv_has ls 7 [(4, .int (nI (3 * (k + 1) + 2))), (0, .ref (ad 0)), (1, .ref ca), (2, .int (nI mk)), (3, .int (nI (16 - lf)))] := lv_sub hl [0, 3, 4, 5, 6] rfl
      have hB : gB G.1 (rT G) A s H locs [(ad 0, .inr (7, [.ref (ad 21), .ref (ad 1), .ref (ad 2), .ref (ad 3), .ref (ad 4), .ref (ad 5), .ref (ad 7), .int (nI (n 7)), .int (nI (n 8)), .int (nI (n 9)), .int (nI 0), .int (nI (n 11)), .int (nI (n 12)), .int (nI (n 13)), .int (nI (n 14)), .int (nI (n 15)), .int (nI (n 16))])), (ad 4, .inl (cE, 3, .inr (.inr (.inr (.inr (evA ad)))))), (ad 9, .inr (1, [.ref (ad 10), .ref (ad 11), .ref (ad 12), .int (nI ((E 1).length)), .int (nI (W 1))])), (ad 10, .inl (G.2.2.2.1, 8, .inl (fp 1))), (ad 11, .inl (G.2.2.2.1, 8, .inl (fv 1))), (ad 12, .inl (G.2.2.2.1, 8, .inl (ft 1))), (ad 13, .inr (1, [.ref (ad 14), .ref (ad 15), .ref (ad 16), .int (nI ((E 2).length)), .int (nI (W 2))])), (ad 14, .inl (G.2.2.2.1, 8, .inl (fp 2))), (ad 15, .inl (G.2.2.2.1, 8, .inl (fv 2))), (ad 16, .inl (G.2.2.2.1, 8, .inl (ft 2))), (ad 17, .inr (1, [.ref (ad 18), .ref (ad 19), .ref (ad 20), .int (nI ((E 3).length)), .int (nI (W 3))])), (ad 18, .inl (G.2.2.2.1, 8, .inl (fp 3))), (ad 19, .inl (G.2.2.2.1, 8, .inl (fv 3))), (ad 20, .inl (G.2.2.2.1, 8, .inl (ft 3))), (ad 2, .inl (G.2.2.2.1, 10, .inl f2)), (ad 5, .inr (0, [.ref (ad 6), .int (nI L.length)])), (ad 6, .inl (G.2.2.2.1, 160, .inl h)), (ca, .inr (0, [.ref da, .int (nI bl.length)])), (da, .inl (G.2.2.2.1, kz, .inl g))] := hB
      have b_35 : (k + 1) + (d - 1) = NN := by omega
      have b_36 : pfx h L := hh
      have b_37 : L = (rsS E f2 rd (bN (nI 0) 4) (k + 1)).1 := by rw [hrs]; exact hL
      have b_38 : W = (rsS E f2 rd (bN (nI 0) 4) (k + 1)).2.2.2 := by rw [hrs]; exact hW
      have b_39 : lf = (rsS E f2 rd (bN (nI 0) 4) (k + 1)).2.1 := by rw [hrs]; exact hlf
      have b_40 : mk = mkF rd (k + 1) := hmk2
      have b_41 : ∀ x ∈ L, isB x := bL
      exact ih_1 (d - 1) (k + 1, h, L, W, lf, mk) H locs ls (by omega) ⟨b_35, b_36, b_37, b_38, b_39, b_40, b_41, hB, hl⟩
