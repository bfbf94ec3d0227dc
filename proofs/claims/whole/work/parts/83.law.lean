/-! THE CLAIM OUT OF ONE WALK OF THE LAW'S BODY. Your part is whole_start (and what it stands on); all else here is the same for every law, but numbers. -/
def R_law : String := "PointReportsLaw"
def lw_P (b : Addr) (xs : List Int32) (args : Array Value) (s : State) : Prop := args = #[.ref b] ∧ s.IntsAt b xs ∧ xs.length ≤ 2048 ∧ (Jvm.Cond.and given_1 narrow_1).before args s = true
def lw_Q (_ : Array Value) (s : State) (o : Outcome) (t : State) : Prop := o = .returned (some (.int 1)) ∧ Framed s o t [] 600000 7302250
def lw_Z (below : List Frame) (a : Array Value) (s : State) : State → Prop := fun t => ∃ o, t.status = .running ∧ Ended t below o ∧ lw_Q a s o t
/-- the law's own end, with 1 on the stack, nothing written that was there before, its room as the claim has it -/
theorem lw_ret {p : Program} {l : Launch} {e : Env} {s : State} {m : MethodId} {below : List Frame} {meth : Method} {c : Code} {b : Nat} (hx : p.tables.exec = Jvm.exec) (hb : c.code = code) (hr : meth.sig.returnType = ret) (hlocks : meth.locks = false) {pc : Nat} {H : Heap} {ls : Array Slot} (hdg : decode code pc = .ok (.ireturn, 1)) : W p l e room_1 s m #[Value.ref b] below meth c H [] 600000 7302250 (lw_Z below #[Value.ref b] s) (F0 m pc ls [.int 1]) := by
  intro T hT X
  obtain ⟨fs, hret, hrun, hended, hW, hframe⟩ := X.leave (v := some (.int 1)) (hlocks := hlocks) (fun h => by rw [hr] at h; cases h)
  have hmeth' : T.vm.method? m = some meth := X.method'
  refine ⟨T.setFrames fs, ?_, .returned (some (.int 1)), hrun, hended, rfl, ⟨_, rfl⟩, hW, hframe⟩
  jvm_step X.here [X.here.top, hx, hb, hdg, hmeth', hr, ret, narrow_b1]
  (try refine ⟨rfl, ?_⟩); (try refine ⟨rfl, ?_⟩)
  first | (intro acts; rw [hret _ acts rfl rfl rfl]) | rw [hret _ _ rfl rfl rfl]
  exact Steps.refl _
/-- what holds at the law's entry: the machine, the code, the tables' words (any of lw_tbl by 'hts w (by decide +kernel)'), the script of L ints xs at the cell b, what the Statement gives of the start (any of its parts by flat_of_before) -/
def lw_At (p : Program) (s : State) (m : MethodId) (meth : Method) (c : Code) (b L : Nat) (xs : Nat → Int32) : Prop :=
  p.tables.exec = Jvm.exec ∧ c.code = code ∧ meth.sig.returnType = ret ∧ c.maxLocals = 4 ∧ s.vm.findClass R_law = some m.cls ∧ (∀ w ∈ lw_tbl, w.before #[Value.ref b] s = true) ∧ va_X b L xs s s.heap ∧ b < s.heap.size ∧ meth.locks = false ∧ (Jvm.Cond.and given_1 narrow_1).before #[Value.ref b] s = true
theorem nsD_in : ∀ w ∈ nsD, w ∈ lw_tbl := by decide +kernel
theorem nsC_in : ∀ w ∈ nsC, w ∈ lw_tbl := by decide +kernel
set_option maxRecDepth 100000 in
set_option maxHeartbeats 4000000 in
/-- the law from its loop on -/
theorem law_loop (l : Launch) (G : rG) (ad : Nat → Nat) (cE cF : ClassId) (hTF : (rT G)[2]? = some (cF, .object RX3)) (hTE : (rT G)[3]? = some (cE, .object RX2)) {p : Program} {e : Env} {s : State} {m : MethodId} {below : List Frame} {meth : Method} {c : Code} {b L : Nat} {xs : Nat → Int32} (hL : L ≤ 2048) (C0 : lw_At p s m meth c b L xs) (uc0 : cSt) (sc0 : Nat → Int32) (ar0 : Nat → Nat → Int32) (a0 : aS) (hr00 : rRep 1 (sc0, ar0) a0) (hc00 : cR uc0 a0) {H : Heap} {locs : List Loc} {ls : Array Slot} (hB : gB G.1 (rT G) (fun q : Nat => s.heap.size ≤ q) s H locs (cW G ad cE cF uc0 ++ rWs G (sc0, ar0))) (hl : lv_has ls 4 [(3, .int (nI 0)), (2, .ref G.2.1), (1, .ref (ad 31)), (0, .ref b)]) : W p l e room_1 s m #[Value.ref b] below meth c H locs 600000 7302250 (lw_Z below #[Value.ref b] s) (F0 m 18 ls []) := by
  obtain ⟨hx, hb, hr, hml, hown0, hts0, hX, hbl, hlocks, hgv⟩ := id C0
  have hown : s.vm.findClass RL = some m.cls := hown0
  have hts : ∀ w ∈ wsL_law, w.before #[Value.ref b] s = true := fun w h => hts0 w (wsL_law_in w h)
  have hbA : ¬ (fun q : Nat => s.heap.size ≤ q) b := Nat.not_le.mpr hbl
  have hnD : ∀ w ∈ nsD, w.before #[Value.ref b] s = true := fun w h => hts0 w (nsD_in w h)
  have hnC : ∀ w ∈ nsC, w.before #[Value.ref b] s = true := fun w h => hts0 w (nsC_in w h)
  refine g_loop (σ := Nat × cSt × (Nat → Int32) × (Nat → Nat → Int32) × aS) (fun d x H locs ls => x.1 + d = L + 8 ∧ x.1 ≤ L + 4 ∧ rRep (1 + 125 * x.1) (x.2.2.1, x.2.2.2.1) x.2.2.2.2 ∧ cR x.2.1 x.2.2.2.2 ∧ gB G.1 (rT G) (fun q : Nat => s.heap.size ≤ q) s H locs (cW G ad cE cF x.2.1 ++ rWs G (x.2.2.1, x.2.2.2.1)) ∧ lv_has ls 4 [(3, .int (nI x.1)), (2, .ref G.2.1), (1, .ref (ad 31)), (0, .ref b)]) (L + 8) (0, uc0, sc0, ar0, a0) ⟨Nat.zero_add _, Nat.zero_le _, hr00, hc00, hB, hl⟩ ?_
  rintro d ⟨i, uc, sc, ar, a⟩ H locs ls ⟨hi, hi4, hrr, hcc, hB, hl⟩ ih
  have hi : i + d = L + 8 := hi
  have hi4 : i ≤ L + 4 := hi4
  have hrr : rRep (1 + 125 * i) (sc, ar) a := hrr
  have hcc : cR uc a := hcc
  have hB : gB G.1 (rT G) (fun q : Nat => s.heap.size ≤ q) s H locs (cW G ad cE cF uc ++ rWs G (sc, ar)) := hB
  have hl : lv_has ls 4 [(3, .int (nI i)), (2, .ref G.2.1), (1, .ref (ad 31)), (0, .ref b)] := hl
  have hb9 : 1 + 125 * i ≤ 890000 := by omega
  have hok := hrr.ok
  refine lv_iload_n hx hb dL_law_18 rfl (lv_at hl 0 rfl) ?_
  refine lv_aload_n hx hb dL_law_19 rfl (lv_at hl 3 rfl) ?_
  refine va_slen (A := (fun q : Nat => s.heap.size ≤ q)) hx hb hX hbl hbA hB.2.2.2.1 dL_law_20 ?_
  refine g_top (y := nI L) rfl ?_
  refine lv_iconst (v := nI 4) hx hb dL_law_21 (by decide) ?_
  refine lv_isub hx hb dL_law_22 ?_
  refine lv_icmp_gt (tgt := 597) hx hb dL_law_23 (by decide) (fun c_1 => ?_) (fun c_1 => ?_)
  · have c_1 := c_1
    refine lv_iconst (v := nI 1) hx hb dL_law_597 (by decide) ?_
    refine va_forget (fun q hq => hB.2.2.2.1.2.2 q hq) ?_
    exact lw_ret hx hb hr hlocks dL_law_598
  · have c_1 := c_1
    have hin : i + 4 ≤ L := Nat.not_lt.mp (fun q => c_1 ((lt_sub4 hL (by omega)).mpr q))
    refine lv_aload_n hx hb dL_law_26 rfl (lv_at hl 3 rfl) ?_
    refine lv_iload_n hx hb dL_law_27 rfl (lv_at hl 0 rfl) ?_
    refine va_sld (A := (fun q : Nat => s.heap.size ≤ q)) hx hb hX hbl hbA hB.2.2.2.1 (show vp_in (nI i) L from vp_in_nI (by omega) (by omega)) dL_law_28 ?_
    refine g_top (y := xs i) (by rw [nI_clamp (by omega)]) ?_
    refine lv_bipush (v := nI 31) hx hb dL_law_29 (by decide) ?_
    refine lv_iand hx hb dL_law_31 ?_
    obtain ⟨j, hj, ej⟩ := and31 (xs i)
    refine g_top (y := nI j) ej ?_
    by_cases hj16 : 16 < j
    · refine lv_tableOut (tgt := 591) hx hb dL_law_32 (Or.inr (by rw [nI_toInt (by omega)]; omega)) (by decide) ?_
      refine lv_iinc (v := nI (i + 4)) (lv' := [(3, .int (nI (i + 4))), (2, .ref G.2.1), (1, .ref (ad 31)), (0, .ref b)]) hx hb dL_law_591 hl (k := 0) rfl (nI_add _ _) (by decide) rfl (fun ls hl => ?_)
      refine lv_goto (tgt := 18) hx hb dL_law_594 (by decide) ?_
      have hl : lv_has ls 4 [(3, .int (nI (i + 4))), (2, .ref G.2.1), (1, .ref (ad 31)), (0, .ref b)] := lv_sub hl [0, 1, 2, 3] rfl
      exact ih (d - 4) (i + 4, uc, sc, ar, a) H locs ls (by omega) ⟨by show i + 4 + (d - 4) = L + 8; omega, by show i + 4 ≤ L + 4; omega, hrr.mono (by show 1 + 125 * i ≤ 1 + 125 * (i + 4); omega), hcc, hB, hl⟩
    · rcases (show j = 0 ∨ j = 1 ∨ j = 2 ∨ j = 3 ∨ j = 4 ∨ j = 5 ∨ j = 6 ∨ j = 7 ∨ j = 8 ∨ j = 9 ∨ j = 10 ∨ j = 11 ∨ j = 12 ∨ j = 13 ∨ j = 14 ∨ j = 15 ∨ j = 16 by omega) with rfl | rfl | rfl | rfl | rfl | rfl | rfl | rfl | rfl | rfl | rfl | rfl | rfl | rfl | rfl | rfl | rfl
      · refine lv_tableIn (off := 84) (tgt := 116) hx hb dL_law_32 (by decide) (by decide) (by decide) (by decide) ?_
        refine lv_aload_n hx hb dL_law_116 rfl (lv_at hl 2 rfl) ?_
        refine lv_aload_n hx hb dL_law_117 rfl (lv_at hl 3 rfl) ?_
        refine lv_iload_n hx hb dL_law_118 rfl (lv_at hl 0 rfl) ?_
        refine lv_iconst (v := nI 1) hx hb dL_law_119 (by decide) ?_
        refine lv_iadd hx hb dL_law_120 ?_
        refine g_top (y := nI (i + 1)) (nI_add _ _) ?_
        refine va_sld (A := (fun q : Nat => s.heap.size ≤ q)) hx hb hX hbl hbA hB.2.2.2.1 (show vp_in (nI (i + 1)) L from vp_in_nI (by omega) (by omega)) dL_law_121 ?_
        refine g_top (y := xs (i + 1)) (by rw [nI_clamp (by omega)]) ?_
        refine lv_aload_n hx hb dL_law_122 rfl (lv_at hl 3 rfl) ?_
        refine lv_iload_n hx hb dL_law_123 rfl (lv_at hl 0 rfl) ?_
        refine lv_iconst (v := nI 2) hx hb dL_law_124 (by decide) ?_
        refine lv_iadd hx hb dL_law_125 ?_
        refine g_top (y := nI (i + 2)) (nI_add _ _) ?_
        refine va_sld (A := (fun q : Nat => s.heap.size ≤ q)) hx hb hX hbl hbA hB.2.2.2.1 (show vp_in (nI (i + 2)) L from vp_in_nI (by omega) (by omega)) dL_law_126 ?_
        refine g_top (y := xs (i + 2)) (by rw [nI_clamp (by omega)]) ?_
        have hB : gB G.1 (rT G) (fun q : Nat => s.heap.size ≤ q) s H locs (rWs G (sc, ar) ++ cW G ad cE cF uc) := hB.perm List.perm_append_comm
        refine g_calliA (wr := rWs G (sc, ar)) (wc := cW G ad cE cF uc) (av := [.int (xs (i + 1)), .int (xs (i + 2))]) (rest := []) ⟨hx, hb, hml, hown, hts⟩ (K_kind l G ad cE cF hTF hTE uc (1 + 125 * i) hb9 a hok hcc (xs (i + 1)) (xs (i + 2))) (cwV 2 hts gL_law_X11_kind rfl rfl rfl (by decide +kernel) ⟨Nat.le_of_ble_eq_true rfl, Nat.le_of_ble_eq_true rfl⟩) hB (q0 := 0) (ci := 8) (cW_0 G ad cE cF uc) rfl rfl rfl hl.1 rfl (Nat.le_of_ble_eq_true rfl) dL_law_127 ⟨Nat.le_of_ble_eq_true rfl, Nat.le_of_ble_eq_true rfl⟩ (fun r9 u H locs hw hB => ?_)
        obtain ⟨er, hc2⟩ := hw
        have hB : gB G.1 (rT G) (fun q : Nat => s.heap.size ≤ q) s H locs (cW G ad cE cF u ++ rWs G (sc, ar)) := hB.perm List.perm_append_comm
        obtain ⟨u2, eu2⟩ : ∃ u2, u2 = u := ⟨_, rfl⟩
        rw [← eu2] at hB hc2
        have hc2 : cR u2 (spKind a (xs (i + 1)) (xs (i + 2))).1 := hc2
        obtain ⟨r1, er1⟩ : ∃ r1 : Int32, r1 = r9 := ⟨_, rfl⟩
        refine g_top (y := r1) er1.symm ?_
        rw [← er1] at er
        have hB : gB G.1 (rT G) (fun q : Nat => s.heap.size ≤ q) s H locs (cW G ad cE cF u2 ++ rWs G (sc, ar)) := hB
        refine lv_aload_n hx hb dL_law_130 rfl (lv_at hl 1 rfl) ?_
        refine lv_aload_n hx hb dL_law_131 rfl (lv_at hl 3 rfl) ?_
        refine lv_iload_n hx hb dL_law_132 rfl (lv_at hl 0 rfl) ?_
        refine lv_iconst (v := nI 1) hx hb dL_law_133 (by decide) ?_
        refine lv_iadd hx hb dL_law_134 ?_
        refine g_top (y := nI (i + 1)) (nI_add _ _) ?_
        refine va_sld (A := (fun q : Nat => s.heap.size ≤ q)) hx hb hX hbl hbA hB.2.2.2.1 (show vp_in (nI (i + 1)) L from vp_in_nI (by omega) (by omega)) dL_law_135 ?_
        refine g_top (y := xs (i + 1)) (by rw [nI_clamp (by omega)]) ?_
        refine lv_aload_n hx hb dL_law_136 rfl (lv_at hl 3 rfl) ?_
        refine lv_iload_n hx hb dL_law_137 rfl (lv_at hl 0 rfl) ?_
        refine lv_iconst (v := nI 2) hx hb dL_law_138 (by decide) ?_
        refine lv_iadd hx hb dL_law_139 ?_
        refine g_top (y := nI (i + 2)) (nI_add _ _) ?_
        refine va_sld (A := (fun q : Nat => s.heap.size ≤ q)) hx hb hX hbl hbA hB.2.2.2.1 (show vp_in (nI (i + 2)) L from vp_in_nI (by omega) (by omega)) dL_law_140 ?_
        refine g_top (y := xs (i + 2)) (by rw [nI_clamp (by omega)]) ?_
        have hB : gB G.1 (rT G) (fun q : Nat => s.heap.size ≤ q) s H locs (rWs G (sc, ar) ++ cW G ad cE cF u2) := hB.perm List.perm_append_comm
        have hB : gB G.1 (rT G) (fun q : Nat => s.heap.size ≤ q) s H locs (cW G ad cE cF u2 ++ rWs G (sc, ar)) := hB.perm List.perm_append_comm
        refine g_calliA (wr := cW G ad cE cF u2) (wc := rWs G (sc, ar)) (av := [.int (xs (i + 1)), .int (xs (i + 2))]) (rest := [.int r1]) ⟨hx, hb, hml, hown, hts⟩ (c_kind l G sc ar (1 + 125 * i) (by omega) a hrr (xs (i + 1)) (xs (i + 2))) (cwV 2 hts gL_law_X12_kind rfl rfl rfl (by decide +kernel) ⟨Nat.le_of_ble_eq_true rfl, Nat.le_of_ble_eq_true rfl⟩) hB (q0 := 0) (ci := 9) rfl rfl rfl rfl hl.1 rfl (Nat.le_of_ble_eq_true rfl) dL_law_141 ⟨Nat.le_of_ble_eq_true rfl, Nat.le_of_ble_eq_true rfl⟩ (fun r9 u H locs hw hB => ?_)
        obtain ⟨er2, hr2⟩ := hw
        obtain ⟨sc2, ar2⟩ := u
        have hB : gB G.1 (rT G) (fun q : Nat => s.heap.size ≤ q) s H locs (cW G ad cE cF u2 ++ rWs G (sc2, ar2)) := hB
        have e12 : r1 = r9 := er.trans (er2.trans rfl).symm
        refine lv_icmp_eq (tgt := 591) hx hb dL_law_144 (by decide) (fun c_2 => ?_) (fun c9 => (c9 e12).elim)
        refine lv_iinc (v := nI (i + 4)) (lv' := [(3, .int (nI (i + 4))), (2, .ref G.2.1), (1, .ref (ad 31)), (0, .ref b)]) hx hb dL_law_591 hl (k := 0) rfl (nI_add _ _) (by decide) rfl (fun ls hl => ?_)
        refine lv_goto (tgt := 18) hx hb dL_law_594 (by decide) ?_
        have hl : lv_has ls 4 [(3, .int (nI (i + 4))), (2, .ref G.2.1), (1, .ref (ad 31)), (0, .ref b)] := lv_sub hl [0, 1, 2, 3] rfl
        exact ih (d - 4) (i + 4, u2, sc2, ar2, (spKind a (xs (i + 1)) (xs (i + 2))).1) H locs ls (by omega) ⟨by show i + 4 + (d - 4) = L + 8; omega, by show i + 4 ≤ L + 4; omega, hr2.mono (by show 1 + 125 * i + 400 ≤ 1 + 125 * (i + 4); omega), hc2, hB, hl⟩
      · refine lv_tableIn (off := 117) (tgt := 149) hx hb dL_law_32 (by decide) (by decide) (by decide) (by decide) ?_
        refine lv_aload_n hx hb dL_law_149 rfl (lv_at hl 2 rfl) ?_
        refine lv_aload_n hx hb dL_law_150 rfl (lv_at hl 3 rfl) ?_
        refine lv_iload_n hx hb dL_law_151 rfl (lv_at hl 0 rfl) ?_
        refine lv_iconst (v := nI 1) hx hb dL_law_152 (by decide) ?_
        refine lv_iadd hx hb dL_law_153 ?_
        refine g_top (y := nI (i + 1)) (nI_add _ _) ?_
        refine va_sld (A := (fun q : Nat => s.heap.size ≤ q)) hx hb hX hbl hbA hB.2.2.2.1 (show vp_in (nI (i + 1)) L from vp_in_nI (by omega) (by omega)) dL_law_154 ?_
        refine g_top (y := xs (i + 1)) (by rw [nI_clamp (by omega)]) ?_
        refine lv_aload_n hx hb dL_law_155 rfl (lv_at hl 3 rfl) ?_
        refine lv_iload_n hx hb dL_law_156 rfl (lv_at hl 0 rfl) ?_
        refine lv_iconst (v := nI 2) hx hb dL_law_157 (by decide) ?_
        refine lv_iadd hx hb dL_law_158 ?_
        refine g_top (y := nI (i + 2)) (nI_add _ _) ?_
        refine va_sld (A := (fun q : Nat => s.heap.size ≤ q)) hx hb hX hbl hbA hB.2.2.2.1 (show vp_in (nI (i + 2)) L from vp_in_nI (by omega) (by omega)) dL_law_159 ?_
        refine g_top (y := xs (i + 2)) (by rw [nI_clamp (by omega)]) ?_
        have hB : gB G.1 (rT G) (fun q : Nat => s.heap.size ≤ q) s H locs (rWs G (sc, ar) ++ cW G ad cE cF uc) := hB.perm List.perm_append_comm
        refine g_calliA (wr := rWs G (sc, ar)) (wc := cW G ad cE cF uc) (av := [.int (xs (i + 1)), .int (xs (i + 2))]) (rest := []) ⟨hx, hb, hml, hown, hts⟩ (K_change l G ad cE cF hTF hTE uc (1 + 125 * i) hb9 a hok hcc (xs (i + 1)) (xs (i + 2))) (cwV 2 hts gL_law_X11_change rfl rfl rfl (by decide +kernel) ⟨Nat.le_of_ble_eq_true rfl, Nat.le_of_ble_eq_true rfl⟩) hB (q0 := 0) (ci := 8) (cW_0 G ad cE cF uc) rfl rfl rfl hl.1 rfl (Nat.le_of_ble_eq_true rfl) dL_law_160 ⟨Nat.le_of_ble_eq_true rfl, Nat.le_of_ble_eq_true rfl⟩ (fun r9 u H locs hw hB => ?_)
        obtain ⟨er, hc2⟩ := hw
        have hB : gB G.1 (rT G) (fun q : Nat => s.heap.size ≤ q) s H locs (cW G ad cE cF u ++ rWs G (sc, ar)) := hB.perm List.perm_append_comm
        obtain ⟨u2, eu2⟩ : ∃ u2, u2 = u := ⟨_, rfl⟩
        rw [← eu2] at hB hc2
        have hc2 : cR u2 (spChange a (xs (i + 1)) (xs (i + 2))).1 := hc2
        obtain ⟨r1, er1⟩ : ∃ r1 : Int32, r1 = r9 := ⟨_, rfl⟩
        refine g_top (y := r1) er1.symm ?_
        rw [← er1] at er
        have hB : gB G.1 (rT G) (fun q : Nat => s.heap.size ≤ q) s H locs (cW G ad cE cF u2 ++ rWs G (sc, ar)) := hB
        refine lv_aload_n hx hb dL_law_163 rfl (lv_at hl 1 rfl) ?_
        refine lv_aload_n hx hb dL_law_164 rfl (lv_at hl 3 rfl) ?_
        refine lv_iload_n hx hb dL_law_165 rfl (lv_at hl 0 rfl) ?_
        refine lv_iconst (v := nI 1) hx hb dL_law_166 (by decide) ?_
        refine lv_iadd hx hb dL_law_167 ?_
        refine g_top (y := nI (i + 1)) (nI_add _ _) ?_
        refine va_sld (A := (fun q : Nat => s.heap.size ≤ q)) hx hb hX hbl hbA hB.2.2.2.1 (show vp_in (nI (i + 1)) L from vp_in_nI (by omega) (by omega)) dL_law_168 ?_
        refine g_top (y := xs (i + 1)) (by rw [nI_clamp (by omega)]) ?_
        refine lv_aload_n hx hb dL_law_169 rfl (lv_at hl 3 rfl) ?_
        refine lv_iload_n hx hb dL_law_170 rfl (lv_at hl 0 rfl) ?_
        refine lv_iconst (v := nI 2) hx hb dL_law_171 (by decide) ?_
        refine lv_iadd hx hb dL_law_172 ?_
        refine g_top (y := nI (i + 2)) (nI_add _ _) ?_
        refine va_sld (A := (fun q : Nat => s.heap.size ≤ q)) hx hb hX hbl hbA hB.2.2.2.1 (show vp_in (nI (i + 2)) L from vp_in_nI (by omega) (by omega)) dL_law_173 ?_
        refine g_top (y := xs (i + 2)) (by rw [nI_clamp (by omega)]) ?_
        have hB : gB G.1 (rT G) (fun q : Nat => s.heap.size ≤ q) s H locs (rWs G (sc, ar) ++ cW G ad cE cF u2) := hB.perm List.perm_append_comm
        have hB : gB G.1 (rT G) (fun q : Nat => s.heap.size ≤ q) s H locs (cW G ad cE cF u2 ++ rWs G (sc, ar)) := hB.perm List.perm_append_comm
        refine g_calliA (wr := cW G ad cE cF u2) (wc := rWs G (sc, ar)) (av := [.int (xs (i + 1)), .int (xs (i + 2))]) (rest := [.int r1]) ⟨hx, hb, hml, hown, hts⟩ (c_change l G sc ar (1 + 125 * i) (by omega) a hrr (xs (i + 1)) (xs (i + 2))) (cwV 2 hts gL_law_X12_change rfl rfl rfl (by decide +kernel) ⟨Nat.le_of_ble_eq_true rfl, Nat.le_of_ble_eq_true rfl⟩) hB (q0 := 0) (ci := 9) rfl rfl rfl rfl hl.1 rfl (Nat.le_of_ble_eq_true rfl) dL_law_174 ⟨Nat.le_of_ble_eq_true rfl, Nat.le_of_ble_eq_true rfl⟩ (fun r9 u H locs hw hB => ?_)
        obtain ⟨er2, hr2⟩ := hw
        obtain ⟨sc2, ar2⟩ := u
        have hB : gB G.1 (rT G) (fun q : Nat => s.heap.size ≤ q) s H locs (cW G ad cE cF u2 ++ rWs G (sc2, ar2)) := hB
        have e12 : r1 = r9 := er.trans (er2.trans rfl).symm
        refine lv_icmp_eq (tgt := 591) hx hb dL_law_177 (by decide) (fun c_3 => ?_) (fun c9 => (c9 e12).elim)
        refine lv_iinc (v := nI (i + 4)) (lv' := [(3, .int (nI (i + 4))), (2, .ref G.2.1), (1, .ref (ad 31)), (0, .ref b)]) hx hb dL_law_591 hl (k := 0) rfl (nI_add _ _) (by decide) rfl (fun ls hl => ?_)
        refine lv_goto (tgt := 18) hx hb dL_law_594 (by decide) ?_
        have hl : lv_has ls 4 [(3, .int (nI (i + 4))), (2, .ref G.2.1), (1, .ref (ad 31)), (0, .ref b)] := lv_sub hl [0, 1, 2, 3] rfl
        exact ih (d - 4) (i + 4, u2, sc2, ar2, (spChange a (xs (i + 1)) (xs (i + 2))).1) H locs ls (by omega) ⟨by show i + 4 + (d - 4) = L + 8; omega, by show i + 4 ≤ L + 4; omega, hr2.mono (by show 1 + 125 * i + 400 ≤ 1 + 125 * (i + 4); omega), hc2, hB, hl⟩
      · refine lv_tableIn (off := 150) (tgt := 182) hx hb dL_law_32 (by decide) (by decide) (by decide) (by decide) ?_
        refine lv_aload_n hx hb dL_law_182 rfl (lv_at hl 2 rfl) ?_
        refine lv_aload_n hx hb dL_law_183 rfl (lv_at hl 3 rfl) ?_
        refine lv_iload_n hx hb dL_law_184 rfl (lv_at hl 0 rfl) ?_
        refine lv_iconst (v := nI 1) hx hb dL_law_185 (by decide) ?_
        refine lv_iadd hx hb dL_law_186 ?_
        refine g_top (y := nI (i + 1)) (nI_add _ _) ?_
        refine va_sld (A := (fun q : Nat => s.heap.size ≤ q)) hx hb hX hbl hbA hB.2.2.2.1 (show vp_in (nI (i + 1)) L from vp_in_nI (by omega) (by omega)) dL_law_187 ?_
        refine g_top (y := xs (i + 1)) (by rw [nI_clamp (by omega)]) ?_
        obtain ⟨may, hmay, emay⟩ : ∃ may : Nat, may ≤ 1 ∧ may = (if xs (i + 1) = 0 then 0 else 1) := ⟨_, by split <;> decide, rfl⟩
        refine g_cut (σ := Unit) 196 (fun _ H locs ls => gB G.1 (rT G) (fun q : Nat => s.heap.size ≤ q) s H locs (cW G ad cE cF uc ++ rWs G (sc, ar)) ∧ lv_has ls 4 [(3, .int (nI i)), (2, .ref G.2.1), (1, .ref (ad 31)), (0, .ref b)]) (fun _ => [.int (nI may), .ref (ad 31)]) ?_ (fun cut => ?_)
        rotate_left
        · refine lv_if_eq (tgt := 195) hx hb dL_law_188 (by decide) (fun c_4 => ?_) (fun c_4 => ?_)
          · have c_4 := c_4
            refine lv_iconst (v := nI 0) hx hb dL_law_195 (by decide) ?_
            refine g_top (y := nI may) (by rw [emay, if_pos c_4]) ?_
            exact cut () H locs ls ⟨hB, hl⟩
          · have c_4 := c_4
            refine lv_iconst (v := nI 1) hx hb dL_law_191 (by decide) ?_
            refine lv_goto (tgt := 196) hx hb dL_law_192 (by decide) ?_
            refine g_top (y := nI may) (by rw [emay, if_neg c_4]) ?_
            exact cut () H locs ls ⟨hB, hl⟩
        rintro - H locs ls ⟨hB, hl⟩
        have hB : gB G.1 (rT G) (fun q : Nat => s.heap.size ≤ q) s H locs (rWs G (sc, ar) ++ cW G ad cE cF uc) := hB.perm List.perm_append_comm
        refine g_callvA (wr := rWs G (sc, ar)) (wc := cW G ad cE cF uc) (av := [.int (nI may)]) (rest := []) ⟨hx, hb, hml, hown, hts⟩ (K_reports l G ad cE cF hTF hTE uc (1 + 125 * i) hb9 a hok hcc may hmay) (cwV 1 hts gL_law_X11_reports rfl rfl rfl (by decide +kernel) ⟨Nat.le_of_ble_eq_true rfl, Nat.le_of_ble_eq_true rfl⟩) hB (q0 := 0) (ci := 8) (cW_0 G ad cE cF uc) rfl rfl rfl hl.1 rfl (Nat.le_of_ble_eq_true rfl) dL_law_196 ⟨Nat.le_of_ble_eq_true rfl, Nat.le_of_ble_eq_true rfl⟩ (fun u H locs hw hB => ?_)
        have hc2 := hw
        have hB : gB G.1 (rT G) (fun q : Nat => s.heap.size ≤ q) s H locs (cW G ad cE cF u ++ rWs G (sc, ar)) := hB.perm List.perm_append_comm
        obtain ⟨u2, eu2⟩ : ∃ u2, u2 = u := ⟨_, rfl⟩
        rw [← eu2] at hB hc2
        refine lv_aload_n hx hb dL_law_199 rfl (lv_at hl 1 rfl) ?_
        refine lv_aload_n hx hb dL_law_200 rfl (lv_at hl 3 rfl) ?_
        refine lv_iload_n hx hb dL_law_201 rfl (lv_at hl 0 rfl) ?_
        refine lv_iconst (v := nI 1) hx hb dL_law_202 (by decide) ?_
        refine lv_iadd hx hb dL_law_203 ?_
        refine g_top (y := nI (i + 1)) (nI_add _ _) ?_
        refine va_sld (A := (fun q : Nat => s.heap.size ≤ q)) hx hb hX hbl hbA hB.2.2.2.1 (show vp_in (nI (i + 1)) L from vp_in_nI (by omega) (by omega)) dL_law_204 ?_
        refine g_top (y := xs (i + 1)) (by rw [nI_clamp (by omega)]) ?_
        refine g_cut (σ := Unit) 213 (fun _ H locs ls => gB G.1 (rT G) (fun q : Nat => s.heap.size ≤ q) s H locs (cW G ad cE cF u2 ++ rWs G (sc, ar)) ∧ lv_has ls 4 [(3, .int (nI i)), (2, .ref G.2.1), (1, .ref (ad 31)), (0, .ref b)]) (fun _ => [.int (nI may), .ref G.2.1]) ?_ (fun cut => ?_)
        rotate_left
        · refine lv_if_eq (tgt := 212) hx hb dL_law_205 (by decide) (fun c_5 => ?_) (fun c_5 => ?_)
          · have c_5 := c_5
            refine lv_iconst (v := nI 0) hx hb dL_law_212 (by decide) ?_
            refine g_top (y := nI may) (by rw [emay, if_pos c_5]) ?_
            exact cut () H locs ls ⟨hB, hl⟩
          · have c_5 := c_5
            refine lv_iconst (v := nI 1) hx hb dL_law_208 (by decide) ?_
            refine lv_goto (tgt := 213) hx hb dL_law_209 (by decide) ?_
            refine g_top (y := nI may) (by rw [emay, if_neg c_5]) ?_
            exact cut () H locs ls ⟨hB, hl⟩
        rintro - H locs ls ⟨hB, hl⟩
        have hB : gB G.1 (rT G) (fun q : Nat => s.heap.size ≤ q) s H locs (rWs G (sc, ar) ++ cW G ad cE cF u2) := hB.perm List.perm_append_comm
        have hB : gB G.1 (rT G) (fun q : Nat => s.heap.size ≤ q) s H locs (cW G ad cE cF u2 ++ rWs G (sc, ar)) := hB.perm List.perm_append_comm
        refine g_callvA (wr := cW G ad cE cF u2) (wc := rWs G (sc, ar)) (av := [.int (nI may)]) (rest := []) ⟨hx, hb, hml, hown, hts⟩ (c_reports l G sc ar (1 + 125 * i) (by omega) a hrr may hmay) (cwV 1 hts gL_law_X12_reports rfl rfl rfl (by decide +kernel) ⟨Nat.le_of_ble_eq_true rfl, Nat.le_of_ble_eq_true rfl⟩) hB (q0 := 0) (ci := 9) rfl rfl rfl rfl hl.1 rfl (Nat.le_of_ble_eq_true rfl) dL_law_213 ⟨Nat.le_of_ble_eq_true rfl, Nat.le_of_ble_eq_true rfl⟩ (fun u H locs hw hB => ?_)
        obtain ⟨sc2, ar2⟩ := u
        have hr2 : rRep _ (sc2, ar2) _ := hw
        have hB : gB G.1 (rT G) (fun q : Nat => s.heap.size ≤ q) s H locs (cW G ad cE cF u2 ++ rWs G (sc2, ar2)) := hB
        refine lv_goto (tgt := 591) hx hb dL_law_216 (by decide) ?_
        refine lv_iinc (v := nI (i + 4)) (lv' := [(3, .int (nI (i + 4))), (2, .ref G.2.1), (1, .ref (ad 31)), (0, .ref b)]) hx hb dL_law_591 hl (k := 0) rfl (nI_add _ _) (by decide) rfl (fun ls hl => ?_)
        refine lv_goto (tgt := 18) hx hb dL_law_594 (by decide) ?_
        have hl : lv_has ls 4 [(3, .int (nI (i + 4))), (2, .ref G.2.1), (1, .ref (ad 31)), (0, .ref b)] := lv_sub hl [0, 1, 2, 3] rfl
        exact ih (d - 4) (i + 4, u2, sc2, ar2, spReports a may) H locs ls (by omega) ⟨by show i + 4 + (d - 4) = L + 8; omega, by show i + 4 ≤ L + 4; omega, hr2.mono (by show 1 + 125 * i + 400 ≤ 1 + 125 * (i + 4); omega), hc2, hB, hl⟩
      · refine lv_tableIn (off := 187) (tgt := 219) hx hb dL_law_32 (by decide) (by decide) (by decide) (by decide) ?_
        refine lv_aload_n hx hb dL_law_219 rfl (lv_at hl 2 rfl) ?_
        have hB : gB G.1 (rT G) (fun q : Nat => s.heap.size ≤ q) s H locs (rWs G (sc, ar) ++ cW G ad cE cF uc) := hB.perm List.perm_append_comm
        refine g_calliA (wr := rWs G (sc, ar)) (wc := cW G ad cE cF uc) (av := []) (rest := []) ⟨hx, hb, hml, hown, hts⟩ (K_tick l G ad cE cF hTF hTE uc (1 + 125 * i) hb9 a hok hcc ) (cwV 0 hts gL_law_X11_tick rfl rfl rfl (by decide +kernel) ⟨Nat.le_of_ble_eq_true rfl, Nat.le_of_ble_eq_true rfl⟩) hB (q0 := 0) (ci := 8) (cW_0 G ad cE cF uc) rfl rfl rfl hl.1 rfl (Nat.le_of_ble_eq_true rfl) dL_law_220 ⟨Nat.le_of_ble_eq_true rfl, Nat.le_of_ble_eq_true rfl⟩ (fun r9 u H locs hw hB => ?_)
        obtain ⟨er, hc2⟩ := hw
        have hB : gB G.1 (rT G) (fun q : Nat => s.heap.size ≤ q) s H locs (cW G ad cE cF u ++ rWs G (sc, ar)) := hB.perm List.perm_append_comm
        obtain ⟨u2, eu2⟩ : ∃ u2, u2 = u := ⟨_, rfl⟩
        rw [← eu2] at hB hc2
        have hc2 : cR u2 (spTick a) := hc2
        obtain ⟨r1, er1⟩ : ∃ r1 : Int32, r1 = r9 := ⟨_, rfl⟩
        refine g_top (y := r1) er1.symm ?_
        rw [← er1] at er
        have hB : gB G.1 (rT G) (fun q : Nat => s.heap.size ≤ q) s H locs (cW G ad cE cF u2 ++ rWs G (sc, ar)) := hB
        refine lv_aload_n hx hb dL_law_223 rfl (lv_at hl 1 rfl) ?_
        have hB : gB G.1 (rT G) (fun q : Nat => s.heap.size ≤ q) s H locs (rWs G (sc, ar) ++ cW G ad cE cF u2) := hB.perm List.perm_append_comm
        have hB : gB G.1 (rT G) (fun q : Nat => s.heap.size ≤ q) s H locs (cW G ad cE cF u2 ++ rWs G (sc, ar)) := hB.perm List.perm_append_comm
        refine g_calliA (wr := cW G ad cE cF u2) (wc := rWs G (sc, ar)) (av := []) (rest := [.int r1]) ⟨hx, hb, hml, hown, hts⟩ (c_tick l G sc ar (1 + 125 * i) (by omega) a hrr ) (cwV 0 hts gL_law_X12_tick rfl rfl rfl (by decide +kernel) ⟨Nat.le_of_ble_eq_true rfl, Nat.le_of_ble_eq_true rfl⟩) hB (q0 := 0) (ci := 9) rfl rfl rfl rfl hl.1 rfl (Nat.le_of_ble_eq_true rfl) dL_law_224 ⟨Nat.le_of_ble_eq_true rfl, Nat.le_of_ble_eq_true rfl⟩ (fun r9 u H locs hw hB => ?_)
        obtain ⟨er2, hr2⟩ := hw
        obtain ⟨sc2, ar2⟩ := u
        have hB : gB G.1 (rT G) (fun q : Nat => s.heap.size ≤ q) s H locs (cW G ad cE cF u2 ++ rWs G (sc2, ar2)) := hB
        have e12 : r1 = r9 := er.trans (er2.trans (congrArg nI (spTick_0 a))).symm
        refine lv_icmp_eq (tgt := 591) hx hb dL_law_227 (by decide) (fun c_6 => ?_) (fun c9 => (c9 e12).elim)
        refine lv_iinc (v := nI (i + 4)) (lv' := [(3, .int (nI (i + 4))), (2, .ref G.2.1), (1, .ref (ad 31)), (0, .ref b)]) hx hb dL_law_591 hl (k := 0) rfl (nI_add _ _) (by decide) rfl (fun ls hl => ?_)
        refine lv_goto (tgt := 18) hx hb dL_law_594 (by decide) ?_
        have hl : lv_has ls 4 [(3, .int (nI (i + 4))), (2, .ref G.2.1), (1, .ref (ad 31)), (0, .ref b)] := lv_sub hl [0, 1, 2, 3] rfl
        exact ih (d - 4) (i + 4, u2, sc2, ar2, (spTick a)) H locs ls (by omega) ⟨by show i + 4 + (d - 4) = L + 8; omega, by show i + 4 ≤ L + 4; omega, hr2.mono (by show 1 + 125 * i + 400 ≤ 1 + 125 * (i + 4); omega), hc2, hB, hl⟩
      · refine lv_tableIn (off := 200) (tgt := 232) hx hb dL_law_32 (by decide) (by decide) (by decide) (by decide) ?_
        refine lv_aload_n hx hb dL_law_232 rfl (lv_at hl 2 rfl) ?_
        refine lv_aload_n hx hb dL_law_233 rfl (lv_at hl 3 rfl) ?_
        refine lv_iload_n hx hb dL_law_234 rfl (lv_at hl 0 rfl) ?_
        refine lv_iconst (v := nI 1) hx hb dL_law_235 (by decide) ?_
        refine lv_iadd hx hb dL_law_236 ?_
        refine g_top (y := nI (i + 1)) (nI_add _ _) ?_
        refine va_sld (A := (fun q : Nat => s.heap.size ≤ q)) hx hb hX hbl hbA hB.2.2.2.1 (show vp_in (nI (i + 1)) L from vp_in_nI (by omega) (by omega)) dL_law_237 ?_
        refine g_top (y := xs (i + 1)) (by rw [nI_clamp (by omega)]) ?_
        have hB : gB G.1 (rT G) (fun q : Nat => s.heap.size ≤ q) s H locs (rWs G (sc, ar) ++ cW G ad cE cF uc) := hB.perm List.perm_append_comm
        refine g_calliA (wr := rWs G (sc, ar)) (wc := cW G ad cE cF uc) (av := [.int (xs (i + 1))]) (rest := []) ⟨hx, hb, hml, hown, hts⟩ (K_poll l G ad cE cF hTF hTE uc (1 + 125 * i) hb9 a hok hcc (xs (i + 1))) (cwV 1 hts gL_law_X11_poll rfl rfl rfl (by decide +kernel) ⟨Nat.le_of_ble_eq_true rfl, Nat.le_of_ble_eq_true rfl⟩) hB (q0 := 0) (ci := 8) (cW_0 G ad cE cF uc) rfl rfl rfl hl.1 rfl (Nat.le_of_ble_eq_true rfl) dL_law_238 ⟨Nat.le_of_ble_eq_true rfl, Nat.le_of_ble_eq_true rfl⟩ (fun r9 u H locs hw hB => ?_)
        obtain ⟨er, hc2⟩ := hw
        have hB : gB G.1 (rT G) (fun q : Nat => s.heap.size ≤ q) s H locs (cW G ad cE cF u ++ rWs G (sc, ar)) := hB.perm List.perm_append_comm
        obtain ⟨u2, eu2⟩ : ∃ u2, u2 = u := ⟨_, rfl⟩
        rw [← eu2] at hB hc2
        have hc2 : cR u2 (spPoll a (xs (i + 1))).1 := hc2
        obtain ⟨r1, er1⟩ : ∃ r1 : Int32, r1 = r9 := ⟨_, rfl⟩
        refine g_top (y := r1) er1.symm ?_
        rw [← er1] at er
        have hB : gB G.1 (rT G) (fun q : Nat => s.heap.size ≤ q) s H locs (cW G ad cE cF u2 ++ rWs G (sc, ar)) := hB
        refine lv_aload_n hx hb dL_law_241 rfl (lv_at hl 1 rfl) ?_
        refine lv_aload_n hx hb dL_law_242 rfl (lv_at hl 3 rfl) ?_
        refine lv_iload_n hx hb dL_law_243 rfl (lv_at hl 0 rfl) ?_
        refine lv_iconst (v := nI 1) hx hb dL_law_244 (by decide) ?_
        refine lv_iadd hx hb dL_law_245 ?_
        refine g_top (y := nI (i + 1)) (nI_add _ _) ?_
        refine va_sld (A := (fun q : Nat => s.heap.size ≤ q)) hx hb hX hbl hbA hB.2.2.2.1 (show vp_in (nI (i + 1)) L from vp_in_nI (by omega) (by omega)) dL_law_246 ?_
        refine g_top (y := xs (i + 1)) (by rw [nI_clamp (by omega)]) ?_
        have hB : gB G.1 (rT G) (fun q : Nat => s.heap.size ≤ q) s H locs (rWs G (sc, ar) ++ cW G ad cE cF u2) := hB.perm List.perm_append_comm
        have hB : gB G.1 (rT G) (fun q : Nat => s.heap.size ≤ q) s H locs (cW G ad cE cF u2 ++ rWs G (sc, ar)) := hB.perm List.perm_append_comm
        refine g_calliA (wr := cW G ad cE cF u2) (wc := rWs G (sc, ar)) (av := [.int (xs (i + 1))]) (rest := [.int r1]) ⟨hx, hb, hml, hown, hts⟩ (c_poll l G sc ar (1 + 125 * i) (by omega) a hrr (xs (i + 1))) (cwV 1 hts gL_law_X12_poll rfl rfl rfl (by decide +kernel) ⟨Nat.le_of_ble_eq_true rfl, Nat.le_of_ble_eq_true rfl⟩) hB (q0 := 0) (ci := 9) rfl rfl rfl rfl hl.1 rfl (Nat.le_of_ble_eq_true rfl) dL_law_247 ⟨Nat.le_of_ble_eq_true rfl, Nat.le_of_ble_eq_true rfl⟩ (fun r9 u H locs hw hB => ?_)
        obtain ⟨er2, hr2⟩ := hw
        obtain ⟨sc2, ar2⟩ := u
        have hB : gB G.1 (rT G) (fun q : Nat => s.heap.size ≤ q) s H locs (cW G ad cE cF u2 ++ rWs G (sc2, ar2)) := hB
        have e12 : r1 = r9 := er.trans (er2.trans rfl).symm
        refine lv_icmp_eq (tgt := 591) hx hb dL_law_250 (by decide) (fun c_7 => ?_) (fun c9 => (c9 e12).elim)
        refine lv_iinc (v := nI (i + 4)) (lv' := [(3, .int (nI (i + 4))), (2, .ref G.2.1), (1, .ref (ad 31)), (0, .ref b)]) hx hb dL_law_591 hl (k := 0) rfl (nI_add _ _) (by decide) rfl (fun ls hl => ?_)
        refine lv_goto (tgt := 18) hx hb dL_law_594 (by decide) ?_
        have hl : lv_has ls 4 [(3, .int (nI (i + 4))), (2, .ref G.2.1), (1, .ref (ad 31)), (0, .ref b)] := lv_sub hl [0, 1, 2, 3] rfl
        exact ih (d - 4) (i + 4, u2, sc2, ar2, (spPoll a (xs (i + 1))).1) H locs ls (by omega) ⟨by show i + 4 + (d - 4) = L + 8; omega, by show i + 4 ≤ L + 4; omega, hr2.mono (by show 1 + 125 * i + 400 ≤ 1 + 125 * (i + 4); omega), hc2, hB, hl⟩
      · refine lv_tableIn (off := 223) (tgt := 255) hx hb dL_law_32 (by decide) (by decide) (by decide) (by decide) ?_
        refine lv_aload_n hx hb dL_law_255 rfl (lv_at hl 2 rfl) ?_
        refine lv_aload_n hx hb dL_law_256 rfl (lv_at hl 3 rfl) ?_
        refine lv_iload_n hx hb dL_law_257 rfl (lv_at hl 0 rfl) ?_
        refine lv_iconst (v := nI 1) hx hb dL_law_258 (by decide) ?_
        refine lv_iadd hx hb dL_law_259 ?_
        refine g_top (y := nI (i + 1)) (nI_add _ _) ?_
        refine va_sld (A := (fun q : Nat => s.heap.size ≤ q)) hx hb hX hbl hbA hB.2.2.2.1 (show vp_in (nI (i + 1)) L from vp_in_nI (by omega) (by omega)) dL_law_260 ?_
        refine g_top (y := xs (i + 1)) (by rw [nI_clamp (by omega)]) ?_
        have hB : gB G.1 (rT G) (fun q : Nat => s.heap.size ≤ q) s H locs (rWs G (sc, ar) ++ cW G ad cE cF uc) := hB.perm List.perm_append_comm
        refine g_calliN (wr := rWs G (sc, ar)) (wc := cW G ad cE cF uc) (av := [.int (xs (i + 1))]) (rest := []) (nsW_of _) hnD ⟨hx, hb, hml, hown, hts⟩ (K_bring l G ad cE cF hTF hTE uc (1 + 125 * i) hb9 a hok hcc (xs (i + 1))) (cwV 1 hts gL_law_X11_bring rfl rfl rfl (by decide +kernel) ⟨Nat.le_of_ble_eq_true rfl, Nat.le_of_ble_eq_true rfl⟩) hB (q0 := 0) (ci := 8) (cW_0 G ad cE cF uc) rfl rfl rfl hl.1 rfl (Nat.le_of_ble_eq_true rfl) dL_law_261 ⟨Nat.le_of_ble_eq_true rfl, Nat.le_of_ble_eq_true rfl⟩ (fun r9 u H locs hw hB => ?_)
        obtain ⟨er, hc2⟩ := hw
        have hB : gB G.1 (rT G) (fun q : Nat => s.heap.size ≤ q) s H locs (cW G ad cE cF u ++ rWs G (sc, ar)) := hB.perm List.perm_append_comm
        obtain ⟨u2, eu2⟩ : ∃ u2, u2 = u := ⟨_, rfl⟩
        rw [← eu2] at hB hc2
        have hc2 : cR u2 (spBring a (xs (i + 1)) 0).1 := hc2
        obtain ⟨r1, er1⟩ : ∃ r1 : Int32, r1 = r9 := ⟨_, rfl⟩
        refine g_top (y := r1) er1.symm ?_
        rw [← er1] at er
        have hB : gB G.1 (rT G) (fun q : Nat => s.heap.size ≤ q) s H locs (cW G ad cE cF u2 ++ rWs G (sc, ar)) := hB
        refine lv_aload_n hx hb dL_law_264 rfl (lv_at hl 1 rfl) ?_
        refine lv_aload_n hx hb dL_law_265 rfl (lv_at hl 3 rfl) ?_
        refine lv_iload_n hx hb dL_law_266 rfl (lv_at hl 0 rfl) ?_
        refine lv_iconst (v := nI 1) hx hb dL_law_267 (by decide) ?_
        refine lv_iadd hx hb dL_law_268 ?_
        refine g_top (y := nI (i + 1)) (nI_add _ _) ?_
        refine va_sld (A := (fun q : Nat => s.heap.size ≤ q)) hx hb hX hbl hbA hB.2.2.2.1 (show vp_in (nI (i + 1)) L from vp_in_nI (by omega) (by omega)) dL_law_269 ?_
        refine g_top (y := xs (i + 1)) (by rw [nI_clamp (by omega)]) ?_
        have hB : gB G.1 (rT G) (fun q : Nat => s.heap.size ≤ q) s H locs (rWs G (sc, ar) ++ cW G ad cE cF u2) := hB.perm List.perm_append_comm
        have hB : gB G.1 (rT G) (fun q : Nat => s.heap.size ≤ q) s H locs (cW G ad cE cF u2 ++ rWs G (sc, ar)) := hB.perm List.perm_append_comm
        refine g_calliA (wr := cW G ad cE cF u2) (wc := rWs G (sc, ar)) (av := [.int (xs (i + 1))]) (rest := [.int r1]) ⟨hx, hb, hml, hown, hts⟩ (c_bring l G sc ar (1 + 125 * i) (by omega) a hrr (xs (i + 1))) (cwV 1 hts gL_law_X12_bring rfl rfl rfl (by decide +kernel) ⟨Nat.le_of_ble_eq_true rfl, Nat.le_of_ble_eq_true rfl⟩) hB (q0 := 0) (ci := 9) rfl rfl rfl rfl hl.1 rfl (Nat.le_of_ble_eq_true rfl) dL_law_270 ⟨Nat.le_of_ble_eq_true rfl, Nat.le_of_ble_eq_true rfl⟩ (fun r9 u H locs hw hB => ?_)
        obtain ⟨er2, hr2⟩ := hw
        obtain ⟨sc2, ar2⟩ := u
        have hB : gB G.1 (rT G) (fun q : Nat => s.heap.size ≤ q) s H locs (cW G ad cE cF u2 ++ rWs G (sc2, ar2)) := hB
        have e12 : r1 = r9 := er.trans (er2.trans rfl).symm
        refine lv_icmp_eq (tgt := 591) hx hb dL_law_273 (by decide) (fun c_8 => ?_) (fun c9 => (c9 e12).elim)
        refine lv_iinc (v := nI (i + 4)) (lv' := [(3, .int (nI (i + 4))), (2, .ref G.2.1), (1, .ref (ad 31)), (0, .ref b)]) hx hb dL_law_591 hl (k := 0) rfl (nI_add _ _) (by decide) rfl (fun ls hl => ?_)
        refine lv_goto (tgt := 18) hx hb dL_law_594 (by decide) ?_
        have hl : lv_has ls 4 [(3, .int (nI (i + 4))), (2, .ref G.2.1), (1, .ref (ad 31)), (0, .ref b)] := lv_sub hl [0, 1, 2, 3] rfl
        exact ih (d - 4) (i + 4, u2, sc2, ar2, (spBring a (xs (i + 1)) 0).1) H locs ls (by omega) ⟨by show i + 4 + (d - 4) = L + 8; omega, by show i + 4 ≤ L + 4; omega, hr2.mono (by show 1 + 125 * i + 500 ≤ 1 + 125 * (i + 4); omega), hc2, hB, hl⟩
      · refine lv_tableIn (off := 246) (tgt := 278) hx hb dL_law_32 (by decide) (by decide) (by decide) (by decide) ?_
        refine lv_aload_n hx hb dL_law_278 rfl (lv_at hl 2 rfl) ?_
        refine lv_aload_n hx hb dL_law_279 rfl (lv_at hl 3 rfl) ?_
        refine lv_iload_n hx hb dL_law_280 rfl (lv_at hl 0 rfl) ?_
        refine lv_iconst (v := nI 1) hx hb dL_law_281 (by decide) ?_
        refine lv_iadd hx hb dL_law_282 ?_
        refine g_top (y := nI (i + 1)) (nI_add _ _) ?_
        refine va_sld (A := (fun q : Nat => s.heap.size ≤ q)) hx hb hX hbl hbA hB.2.2.2.1 (show vp_in (nI (i + 1)) L from vp_in_nI (by omega) (by omega)) dL_law_283 ?_
        refine g_top (y := xs (i + 1)) (by rw [nI_clamp (by omega)]) ?_
        have hB : gB G.1 (rT G) (fun q : Nat => s.heap.size ≤ q) s H locs (rWs G (sc, ar) ++ cW G ad cE cF uc) := hB.perm List.perm_append_comm
        refine g_calliN (wr := rWs G (sc, ar)) (wc := cW G ad cE cF uc) (av := [.int (xs (i + 1))]) (rest := []) (nsW_of _) hnD ⟨hx, hb, hml, hown, hts⟩ (K_twice l G ad cE cF hTF hTE uc (1 + 125 * i) hb9 a hok hcc (xs (i + 1))) (cwV 1 hts gL_law_X11_twice rfl rfl rfl (by decide +kernel) ⟨Nat.le_of_ble_eq_true rfl, Nat.le_of_ble_eq_true rfl⟩) hB (q0 := 0) (ci := 8) (cW_0 G ad cE cF uc) rfl rfl rfl hl.1 rfl (Nat.le_of_ble_eq_true rfl) dL_law_284 ⟨Nat.le_of_ble_eq_true rfl, Nat.le_of_ble_eq_true rfl⟩ (fun r9 u H locs hw hB => ?_)
        obtain ⟨er, hc2⟩ := hw
        have hB : gB G.1 (rT G) (fun q : Nat => s.heap.size ≤ q) s H locs (cW G ad cE cF u ++ rWs G (sc, ar)) := hB.perm List.perm_append_comm
        obtain ⟨u2, eu2⟩ : ∃ u2, u2 = u := ⟨_, rfl⟩
        rw [← eu2] at hB hc2
        have hc2 : cR u2 (spBring a (xs (i + 1)) 1).1 := hc2
        obtain ⟨r1, er1⟩ : ∃ r1 : Int32, r1 = r9 := ⟨_, rfl⟩
        refine g_top (y := r1) er1.symm ?_
        rw [← er1] at er
        have hB : gB G.1 (rT G) (fun q : Nat => s.heap.size ≤ q) s H locs (cW G ad cE cF u2 ++ rWs G (sc, ar)) := hB
        refine lv_aload_n hx hb dL_law_287 rfl (lv_at hl 1 rfl) ?_
        refine lv_aload_n hx hb dL_law_288 rfl (lv_at hl 3 rfl) ?_
        refine lv_iload_n hx hb dL_law_289 rfl (lv_at hl 0 rfl) ?_
        refine lv_iconst (v := nI 1) hx hb dL_law_290 (by decide) ?_
        refine lv_iadd hx hb dL_law_291 ?_
        refine g_top (y := nI (i + 1)) (nI_add _ _) ?_
        refine va_sld (A := (fun q : Nat => s.heap.size ≤ q)) hx hb hX hbl hbA hB.2.2.2.1 (show vp_in (nI (i + 1)) L from vp_in_nI (by omega) (by omega)) dL_law_292 ?_
        refine g_top (y := xs (i + 1)) (by rw [nI_clamp (by omega)]) ?_
        have hB : gB G.1 (rT G) (fun q : Nat => s.heap.size ≤ q) s H locs (rWs G (sc, ar) ++ cW G ad cE cF u2) := hB.perm List.perm_append_comm
        have hB : gB G.1 (rT G) (fun q : Nat => s.heap.size ≤ q) s H locs (cW G ad cE cF u2 ++ rWs G (sc, ar)) := hB.perm List.perm_append_comm
        refine g_calliA (wr := cW G ad cE cF u2) (wc := rWs G (sc, ar)) (av := [.int (xs (i + 1))]) (rest := [.int r1]) ⟨hx, hb, hml, hown, hts⟩ (c_twice l G sc ar (1 + 125 * i) (by omega) a hrr (xs (i + 1))) (cwV 1 hts gL_law_X12_twice rfl rfl rfl (by decide +kernel) ⟨Nat.le_of_ble_eq_true rfl, Nat.le_of_ble_eq_true rfl⟩) hB (q0 := 0) (ci := 9) rfl rfl rfl rfl hl.1 rfl (Nat.le_of_ble_eq_true rfl) dL_law_293 ⟨Nat.le_of_ble_eq_true rfl, Nat.le_of_ble_eq_true rfl⟩ (fun r9 u H locs hw hB => ?_)
        obtain ⟨er2, hr2⟩ := hw
        obtain ⟨sc2, ar2⟩ := u
        have hB : gB G.1 (rT G) (fun q : Nat => s.heap.size ≤ q) s H locs (cW G ad cE cF u2 ++ rWs G (sc2, ar2)) := hB
        have e12 : r1 = r9 := er.trans (er2.trans rfl).symm
        refine lv_icmp_eq (tgt := 591) hx hb dL_law_296 (by decide) (fun c_9 => ?_) (fun c9 => (c9 e12).elim)
        refine lv_iinc (v := nI (i + 4)) (lv' := [(3, .int (nI (i + 4))), (2, .ref G.2.1), (1, .ref (ad 31)), (0, .ref b)]) hx hb dL_law_591 hl (k := 0) rfl (nI_add _ _) (by decide) rfl (fun ls hl => ?_)
        refine lv_goto (tgt := 18) hx hb dL_law_594 (by decide) ?_
        have hl : lv_has ls 4 [(3, .int (nI (i + 4))), (2, .ref G.2.1), (1, .ref (ad 31)), (0, .ref b)] := lv_sub hl [0, 1, 2, 3] rfl
        exact ih (d - 4) (i + 4, u2, sc2, ar2, (spBring a (xs (i + 1)) 1).1) H locs ls (by omega) ⟨by show i + 4 + (d - 4) = L + 8; omega, by show i + 4 ≤ L + 4; omega, hr2.mono (by show 1 + 125 * i + 500 ≤ 1 + 125 * (i + 4); omega), hc2, hB, hl⟩
      · refine lv_tableIn (off := 269) (tgt := 301) hx hb dL_law_32 (by decide) (by decide) (by decide) (by decide) ?_
        refine lv_aload_n hx hb dL_law_301 rfl (lv_at hl 2 rfl) ?_
        refine lv_aload_n hx hb dL_law_302 rfl (lv_at hl 3 rfl) ?_
        refine lv_iload_n hx hb dL_law_303 rfl (lv_at hl 0 rfl) ?_
        refine lv_iconst (v := nI 1) hx hb dL_law_304 (by decide) ?_
        refine lv_iadd hx hb dL_law_305 ?_
        refine g_top (y := nI (i + 1)) (nI_add _ _) ?_
        refine va_sld (A := (fun q : Nat => s.heap.size ≤ q)) hx hb hX hbl hbA hB.2.2.2.1 (show vp_in (nI (i + 1)) L from vp_in_nI (by omega) (by omega)) dL_law_306 ?_
        refine g_top (y := xs (i + 1)) (by rw [nI_clamp (by omega)]) ?_
        have hB : gB G.1 (rT G) (fun q : Nat => s.heap.size ≤ q) s H locs (rWs G (sc, ar) ++ cW G ad cE cF uc) := hB.perm List.perm_append_comm
        refine g_calliA (wr := rWs G (sc, ar)) (wc := cW G ad cE cF uc) (av := [.int (xs (i + 1))]) (rest := []) ⟨hx, hb, hml, hown, hts⟩ (K_lose l G ad cE cF hTF hTE uc (1 + 125 * i) hb9 a hok hcc (xs (i + 1))) (cwV 1 hts gL_law_X11_lose rfl rfl rfl (by decide +kernel) ⟨Nat.le_of_ble_eq_true rfl, Nat.le_of_ble_eq_true rfl⟩) hB (q0 := 0) (ci := 8) (cW_0 G ad cE cF uc) rfl rfl rfl hl.1 rfl (Nat.le_of_ble_eq_true rfl) dL_law_307 ⟨Nat.le_of_ble_eq_true rfl, Nat.le_of_ble_eq_true rfl⟩ (fun r9 u H locs hw hB => ?_)
        obtain ⟨er, hc2⟩ := hw
        have hB : gB G.1 (rT G) (fun q : Nat => s.heap.size ≤ q) s H locs (cW G ad cE cF u ++ rWs G (sc, ar)) := hB.perm List.perm_append_comm
        obtain ⟨u2, eu2⟩ : ∃ u2, u2 = u := ⟨_, rfl⟩
        rw [← eu2] at hB hc2
        have hc2 : cR u2 (spLose a (xs (i + 1))).1 := hc2
        obtain ⟨r1, er1⟩ : ∃ r1 : Int32, r1 = r9 := ⟨_, rfl⟩
        refine g_top (y := r1) er1.symm ?_
        rw [← er1] at er
        have hB : gB G.1 (rT G) (fun q : Nat => s.heap.size ≤ q) s H locs (cW G ad cE cF u2 ++ rWs G (sc, ar)) := hB
        refine lv_aload_n hx hb dL_law_310 rfl (lv_at hl 1 rfl) ?_
        refine lv_aload_n hx hb dL_law_311 rfl (lv_at hl 3 rfl) ?_
        refine lv_iload_n hx hb dL_law_312 rfl (lv_at hl 0 rfl) ?_
        refine lv_iconst (v := nI 1) hx hb dL_law_313 (by decide) ?_
        refine lv_iadd hx hb dL_law_314 ?_
        refine g_top (y := nI (i + 1)) (nI_add _ _) ?_
        refine va_sld (A := (fun q : Nat => s.heap.size ≤ q)) hx hb hX hbl hbA hB.2.2.2.1 (show vp_in (nI (i + 1)) L from vp_in_nI (by omega) (by omega)) dL_law_315 ?_
        refine g_top (y := xs (i + 1)) (by rw [nI_clamp (by omega)]) ?_
        have hB : gB G.1 (rT G) (fun q : Nat => s.heap.size ≤ q) s H locs (rWs G (sc, ar) ++ cW G ad cE cF u2) := hB.perm List.perm_append_comm
        have hB : gB G.1 (rT G) (fun q : Nat => s.heap.size ≤ q) s H locs (cW G ad cE cF u2 ++ rWs G (sc, ar)) := hB.perm List.perm_append_comm
        refine g_calliA (wr := cW G ad cE cF u2) (wc := rWs G (sc, ar)) (av := [.int (xs (i + 1))]) (rest := [.int r1]) ⟨hx, hb, hml, hown, hts⟩ (c_lose l G sc ar (1 + 125 * i) (by omega) a hrr (xs (i + 1))) (cwV 1 hts gL_law_X12_lose rfl rfl rfl (by decide +kernel) ⟨Nat.le_of_ble_eq_true rfl, Nat.le_of_ble_eq_true rfl⟩) hB (q0 := 0) (ci := 9) rfl rfl rfl rfl hl.1 rfl (Nat.le_of_ble_eq_true rfl) dL_law_316 ⟨Nat.le_of_ble_eq_true rfl, Nat.le_of_ble_eq_true rfl⟩ (fun r9 u H locs hw hB => ?_)
        obtain ⟨er2, hr2⟩ := hw
        obtain ⟨sc2, ar2⟩ := u
        have hB : gB G.1 (rT G) (fun q : Nat => s.heap.size ≤ q) s H locs (cW G ad cE cF u2 ++ rWs G (sc2, ar2)) := hB
        have e12 : r1 = r9 := er.trans (er2.trans rfl).symm
        refine lv_icmp_eq (tgt := 591) hx hb dL_law_319 (by decide) (fun c_10 => ?_) (fun c9 => (c9 e12).elim)
        refine lv_iinc (v := nI (i + 4)) (lv' := [(3, .int (nI (i + 4))), (2, .ref G.2.1), (1, .ref (ad 31)), (0, .ref b)]) hx hb dL_law_591 hl (k := 0) rfl (nI_add _ _) (by decide) rfl (fun ls hl => ?_)
        refine lv_goto (tgt := 18) hx hb dL_law_594 (by decide) ?_
        have hl : lv_has ls 4 [(3, .int (nI (i + 4))), (2, .ref G.2.1), (1, .ref (ad 31)), (0, .ref b)] := lv_sub hl [0, 1, 2, 3] rfl
        exact ih (d - 4) (i + 4, u2, sc2, ar2, (spLose a (xs (i + 1))).1) H locs ls (by omega) ⟨by show i + 4 + (d - 4) = L + 8; omega, by show i + 4 ≤ L + 4; omega, hr2.mono (by show 1 + 125 * i + 500 ≤ 1 + 125 * (i + 4); omega), hc2, hB, hl⟩
      · refine lv_tableIn (off := 292) (tgt := 324) hx hb dL_law_32 (by decide) (by decide) (by decide) (by decide) ?_
        refine lv_aload_n hx hb dL_law_324 rfl (lv_at hl 2 rfl) ?_
        refine lv_aload_n hx hb dL_law_325 rfl (lv_at hl 3 rfl) ?_
        refine lv_iload_n hx hb dL_law_326 rfl (lv_at hl 0 rfl) ?_
        refine lv_iconst (v := nI 1) hx hb dL_law_327 (by decide) ?_
        refine lv_iadd hx hb dL_law_328 ?_
        refine g_top (y := nI (i + 1)) (nI_add _ _) ?_
        refine va_sld (A := (fun q : Nat => s.heap.size ≤ q)) hx hb hX hbl hbA hB.2.2.2.1 (show vp_in (nI (i + 1)) L from vp_in_nI (by omega) (by omega)) dL_law_329 ?_
        refine g_top (y := xs (i + 1)) (by rw [nI_clamp (by omega)]) ?_
        refine lv_aload_n hx hb dL_law_330 rfl (lv_at hl 3 rfl) ?_
        refine lv_iload_n hx hb dL_law_331 rfl (lv_at hl 0 rfl) ?_
        refine lv_iconst (v := nI 2) hx hb dL_law_332 (by decide) ?_
        refine lv_iadd hx hb dL_law_333 ?_
        refine g_top (y := nI (i + 2)) (nI_add _ _) ?_
        refine va_sld (A := (fun q : Nat => s.heap.size ≤ q)) hx hb hX hbl hbA hB.2.2.2.1 (show vp_in (nI (i + 2)) L from vp_in_nI (by omega) (by omega)) dL_law_334 ?_
        refine g_top (y := xs (i + 2)) (by rw [nI_clamp (by omega)]) ?_
        refine lv_aload_n hx hb dL_law_335 rfl (lv_at hl 3 rfl) ?_
        refine lv_iload_n hx hb dL_law_336 rfl (lv_at hl 0 rfl) ?_
        refine lv_iconst (v := nI 3) hx hb dL_law_337 (by decide) ?_
        refine lv_iadd hx hb dL_law_338 ?_
        refine g_top (y := nI (i + 3)) (nI_add _ _) ?_
        refine va_sld (A := (fun q : Nat => s.heap.size ≤ q)) hx hb hX hbl hbA hB.2.2.2.1 (show vp_in (nI (i + 3)) L from vp_in_nI (by omega) (by omega)) dL_law_339 ?_
        refine g_top (y := xs (i + 3)) (by rw [nI_clamp (by omega)]) ?_
        have hB : gB G.1 (rT G) (fun q : Nat => s.heap.size ≤ q) s H locs (rWs G (sc, ar) ++ cW G ad cE cF uc) := hB.perm List.perm_append_comm
        refine g_calliA (wr := rWs G (sc, ar)) (wc := cW G ad cE cF uc) (av := [.int (xs (i + 1)), .int (xs (i + 2)), .int (xs (i + 3))]) (rest := []) ⟨hx, hb, hml, hown, hts⟩ (K_poke l G ad cE cF hTF hTE uc (1 + 125 * i) hb9 a hok hcc (xs (i + 1)) (xs (i + 2)) (xs (i + 3))) (cwV 3 hts gL_law_X11_poke rfl rfl rfl (by decide +kernel) ⟨Nat.le_of_ble_eq_true rfl, Nat.le_of_ble_eq_true rfl⟩) hB (q0 := 0) (ci := 8) (cW_0 G ad cE cF uc) rfl rfl rfl hl.1 rfl (Nat.le_of_ble_eq_true rfl) dL_law_340 ⟨Nat.le_of_ble_eq_true rfl, Nat.le_of_ble_eq_true rfl⟩ (fun r9 u H locs hw hB => ?_)
        obtain ⟨er, hc2⟩ := hw
        have hB : gB G.1 (rT G) (fun q : Nat => s.heap.size ≤ q) s H locs (cW G ad cE cF u ++ rWs G (sc, ar)) := hB.perm List.perm_append_comm
        obtain ⟨u2, eu2⟩ : ∃ u2, u2 = u := ⟨_, rfl⟩
        rw [← eu2] at hB hc2
        have hc2 : cR u2 (spPoke a (xs (i + 1)) (xs (i + 2)) (xs (i + 3))).1 := hc2
        obtain ⟨r1, er1⟩ : ∃ r1 : Int32, r1 = r9 := ⟨_, rfl⟩
        refine g_top (y := r1) er1.symm ?_
        rw [← er1] at er
        have hB : gB G.1 (rT G) (fun q : Nat => s.heap.size ≤ q) s H locs (cW G ad cE cF u2 ++ rWs G (sc, ar)) := hB
        refine lv_aload_n hx hb dL_law_343 rfl (lv_at hl 1 rfl) ?_
        refine lv_aload_n hx hb dL_law_344 rfl (lv_at hl 3 rfl) ?_
        refine lv_iload_n hx hb dL_law_345 rfl (lv_at hl 0 rfl) ?_
        refine lv_iconst (v := nI 1) hx hb dL_law_346 (by decide) ?_
        refine lv_iadd hx hb dL_law_347 ?_
        refine g_top (y := nI (i + 1)) (nI_add _ _) ?_
        refine va_sld (A := (fun q : Nat => s.heap.size ≤ q)) hx hb hX hbl hbA hB.2.2.2.1 (show vp_in (nI (i + 1)) L from vp_in_nI (by omega) (by omega)) dL_law_348 ?_
        refine g_top (y := xs (i + 1)) (by rw [nI_clamp (by omega)]) ?_
        refine lv_aload_n hx hb dL_law_349 rfl (lv_at hl 3 rfl) ?_
        refine lv_iload_n hx hb dL_law_350 rfl (lv_at hl 0 rfl) ?_
        refine lv_iconst (v := nI 2) hx hb dL_law_351 (by decide) ?_
        refine lv_iadd hx hb dL_law_352 ?_
        refine g_top (y := nI (i + 2)) (nI_add _ _) ?_
        refine va_sld (A := (fun q : Nat => s.heap.size ≤ q)) hx hb hX hbl hbA hB.2.2.2.1 (show vp_in (nI (i + 2)) L from vp_in_nI (by omega) (by omega)) dL_law_353 ?_
        refine g_top (y := xs (i + 2)) (by rw [nI_clamp (by omega)]) ?_
        refine lv_aload_n hx hb dL_law_354 rfl (lv_at hl 3 rfl) ?_
        refine lv_iload_n hx hb dL_law_355 rfl (lv_at hl 0 rfl) ?_
        refine lv_iconst (v := nI 3) hx hb dL_law_356 (by decide) ?_
        refine lv_iadd hx hb dL_law_357 ?_
        refine g_top (y := nI (i + 3)) (nI_add _ _) ?_
        refine va_sld (A := (fun q : Nat => s.heap.size ≤ q)) hx hb hX hbl hbA hB.2.2.2.1 (show vp_in (nI (i + 3)) L from vp_in_nI (by omega) (by omega)) dL_law_358 ?_
        refine g_top (y := xs (i + 3)) (by rw [nI_clamp (by omega)]) ?_
        have hB : gB G.1 (rT G) (fun q : Nat => s.heap.size ≤ q) s H locs (rWs G (sc, ar) ++ cW G ad cE cF u2) := hB.perm List.perm_append_comm
        have hB : gB G.1 (rT G) (fun q : Nat => s.heap.size ≤ q) s H locs (cW G ad cE cF u2 ++ rWs G (sc, ar)) := hB.perm List.perm_append_comm
        refine g_calliA (wr := cW G ad cE cF u2) (wc := rWs G (sc, ar)) (av := [.int (xs (i + 1)), .int (xs (i + 2)), .int (xs (i + 3))]) (rest := [.int r1]) ⟨hx, hb, hml, hown, hts⟩ (c_poke l G sc ar (1 + 125 * i) (by omega) a hrr (xs (i + 1)) (xs (i + 2)) (xs (i + 3))) (cwV 3 hts gL_law_X12_poke rfl rfl rfl (by decide +kernel) ⟨Nat.le_of_ble_eq_true rfl, Nat.le_of_ble_eq_true rfl⟩) hB (q0 := 0) (ci := 9) rfl rfl rfl rfl hl.1 rfl (Nat.le_of_ble_eq_true rfl) dL_law_359 ⟨Nat.le_of_ble_eq_true rfl, Nat.le_of_ble_eq_true rfl⟩ (fun r9 u H locs hw hB => ?_)
        obtain ⟨er2, hr2⟩ := hw
        obtain ⟨sc2, ar2⟩ := u
        have hB : gB G.1 (rT G) (fun q : Nat => s.heap.size ≤ q) s H locs (cW G ad cE cF u2 ++ rWs G (sc2, ar2)) := hB
        have e12 : r1 = r9 := er.trans (er2.trans rfl).symm
        refine lv_icmp_eq (tgt := 591) hx hb dL_law_362 (by decide) (fun c_11 => ?_) (fun c9 => (c9 e12).elim)
        refine lv_iinc (v := nI (i + 4)) (lv' := [(3, .int (nI (i + 4))), (2, .ref G.2.1), (1, .ref (ad 31)), (0, .ref b)]) hx hb dL_law_591 hl (k := 0) rfl (nI_add _ _) (by decide) rfl (fun ls hl => ?_)
        refine lv_goto (tgt := 18) hx hb dL_law_594 (by decide) ?_
        have hl : lv_has ls 4 [(3, .int (nI (i + 4))), (2, .ref G.2.1), (1, .ref (ad 31)), (0, .ref b)] := lv_sub hl [0, 1, 2, 3] rfl
        exact ih (d - 4) (i + 4, u2, sc2, ar2, (spPoke a (xs (i + 1)) (xs (i + 2)) (xs (i + 3))).1) H locs ls (by omega) ⟨by show i + 4 + (d - 4) = L + 8; omega, by show i + 4 ≤ L + 4; omega, hr2.mono (by show 1 + 125 * i + 500 ≤ 1 + 125 * (i + 4); omega), hc2, hB, hl⟩
      · refine lv_tableIn (off := 335) (tgt := 367) hx hb dL_law_32 (by decide) (by decide) (by decide) (by decide) ?_
        refine lv_aload_n hx hb dL_law_367 rfl (lv_at hl 2 rfl) ?_
        refine lv_aload_n hx hb dL_law_368 rfl (lv_at hl 3 rfl) ?_
        refine lv_iload_n hx hb dL_law_369 rfl (lv_at hl 0 rfl) ?_
        refine lv_iconst (v := nI 1) hx hb dL_law_370 (by decide) ?_
        refine lv_iadd hx hb dL_law_371 ?_
        refine g_top (y := nI (i + 1)) (nI_add _ _) ?_
        refine va_sld (A := (fun q : Nat => s.heap.size ≤ q)) hx hb hX hbl hbA hB.2.2.2.1 (show vp_in (nI (i + 1)) L from vp_in_nI (by omega) (by omega)) dL_law_372 ?_
        refine g_top (y := xs (i + 1)) (by rw [nI_clamp (by omega)]) ?_
        refine lv_aload_n hx hb dL_law_373 rfl (lv_at hl 3 rfl) ?_
        refine lv_iload_n hx hb dL_law_374 rfl (lv_at hl 0 rfl) ?_
        refine lv_iconst (v := nI 2) hx hb dL_law_375 (by decide) ?_
        refine lv_iadd hx hb dL_law_376 ?_
        refine g_top (y := nI (i + 2)) (nI_add _ _) ?_
        refine va_sld (A := (fun q : Nat => s.heap.size ≤ q)) hx hb hX hbl hbA hB.2.2.2.1 (show vp_in (nI (i + 2)) L from vp_in_nI (by omega) (by omega)) dL_law_377 ?_
        refine g_top (y := xs (i + 2)) (by rw [nI_clamp (by omega)]) ?_
        have hB : gB G.1 (rT G) (fun q : Nat => s.heap.size ≤ q) s H locs (rWs G (sc, ar) ++ cW G ad cE cF uc) := hB.perm List.perm_append_comm
        refine g_calliA (wr := rWs G (sc, ar)) (wc := cW G ad cE cF uc) (av := [.int (xs (i + 1)), .int (xs (i + 2))]) (rest := []) ⟨hx, hb, hml, hown, hts⟩ (K_at l G ad cE cF hTF hTE uc (1 + 125 * i) hb9 a hok hcc (xs (i + 1)) (xs (i + 2))) (cwV 2 hts gL_law_X11_at rfl rfl rfl (by decide +kernel) ⟨Nat.le_of_ble_eq_true rfl, Nat.le_of_ble_eq_true rfl⟩) hB (q0 := 0) (ci := 8) (cW_0 G ad cE cF uc) rfl rfl rfl hl.1 rfl (Nat.le_of_ble_eq_true rfl) dL_law_378 ⟨Nat.le_of_ble_eq_true rfl, Nat.le_of_ble_eq_true rfl⟩ (fun r9 u H locs hw hB => ?_)
        obtain ⟨er, hc2⟩ := hw
        have hB : gB G.1 (rT G) (fun q : Nat => s.heap.size ≤ q) s H locs (cW G ad cE cF u ++ rWs G (sc, ar)) := hB.perm List.perm_append_comm
        obtain ⟨u2, eu2⟩ : ∃ u2, u2 = u := ⟨_, rfl⟩
        rw [← eu2] at hB hc2
        have hc2 : cR u2 a := hc2
        obtain ⟨r1, er1⟩ : ∃ r1 : Int32, r1 = r9 := ⟨_, rfl⟩
        refine g_top (y := r1) er1.symm ?_
        rw [← er1] at er
        have hB : gB G.1 (rT G) (fun q : Nat => s.heap.size ≤ q) s H locs (cW G ad cE cF u2 ++ rWs G (sc, ar)) := hB
        refine lv_aload_n hx hb dL_law_381 rfl (lv_at hl 1 rfl) ?_
        refine lv_aload_n hx hb dL_law_382 rfl (lv_at hl 3 rfl) ?_
        refine lv_iload_n hx hb dL_law_383 rfl (lv_at hl 0 rfl) ?_
        refine lv_iconst (v := nI 1) hx hb dL_law_384 (by decide) ?_
        refine lv_iadd hx hb dL_law_385 ?_
        refine g_top (y := nI (i + 1)) (nI_add _ _) ?_
        refine va_sld (A := (fun q : Nat => s.heap.size ≤ q)) hx hb hX hbl hbA hB.2.2.2.1 (show vp_in (nI (i + 1)) L from vp_in_nI (by omega) (by omega)) dL_law_386 ?_
        refine g_top (y := xs (i + 1)) (by rw [nI_clamp (by omega)]) ?_
        refine lv_aload_n hx hb dL_law_387 rfl (lv_at hl 3 rfl) ?_
        refine lv_iload_n hx hb dL_law_388 rfl (lv_at hl 0 rfl) ?_
        refine lv_iconst (v := nI 2) hx hb dL_law_389 (by decide) ?_
        refine lv_iadd hx hb dL_law_390 ?_
        refine g_top (y := nI (i + 2)) (nI_add _ _) ?_
        refine va_sld (A := (fun q : Nat => s.heap.size ≤ q)) hx hb hX hbl hbA hB.2.2.2.1 (show vp_in (nI (i + 2)) L from vp_in_nI (by omega) (by omega)) dL_law_391 ?_
        refine g_top (y := xs (i + 2)) (by rw [nI_clamp (by omega)]) ?_
        have hB : gB G.1 (rT G) (fun q : Nat => s.heap.size ≤ q) s H locs (rWs G (sc, ar) ++ cW G ad cE cF u2) := hB.perm List.perm_append_comm
        have hB : gB G.1 (rT G) (fun q : Nat => s.heap.size ≤ q) s H locs (cW G ad cE cF u2 ++ rWs G (sc, ar)) := hB.perm List.perm_append_comm
        refine g_calliA (wr := cW G ad cE cF u2) (wc := rWs G (sc, ar)) (av := [.int (xs (i + 1)), .int (xs (i + 2))]) (rest := [.int r1]) ⟨hx, hb, hml, hown, hts⟩ (c_at l G sc ar (1 + 125 * i) (by omega) a hrr (xs (i + 1)) (xs (i + 2))) (cwV 2 hts gL_law_X12_at rfl rfl rfl (by decide +kernel) ⟨Nat.le_of_ble_eq_true rfl, Nat.le_of_ble_eq_true rfl⟩) hB (q0 := 0) (ci := 9) rfl rfl rfl rfl hl.1 rfl (Nat.le_of_ble_eq_true rfl) dL_law_392 ⟨Nat.le_of_ble_eq_true rfl, Nat.le_of_ble_eq_true rfl⟩ (fun r9 u H locs hw hB => ?_)
        obtain ⟨er2, hr2⟩ := hw
        obtain ⟨sc2, ar2⟩ := u
        have hB : gB G.1 (rT G) (fun q : Nat => s.heap.size ≤ q) s H locs (cW G ad cE cF u2 ++ rWs G (sc2, ar2)) := hB
        have e12 : r1 = r9 := er.trans (er2.trans rfl).symm
        refine lv_icmp_eq (tgt := 591) hx hb dL_law_395 (by decide) (fun c_12 => ?_) (fun c9 => (c9 e12).elim)
        refine lv_iinc (v := nI (i + 4)) (lv' := [(3, .int (nI (i + 4))), (2, .ref G.2.1), (1, .ref (ad 31)), (0, .ref b)]) hx hb dL_law_591 hl (k := 0) rfl (nI_add _ _) (by decide) rfl (fun ls hl => ?_)
        refine lv_goto (tgt := 18) hx hb dL_law_594 (by decide) ?_
        have hl : lv_has ls 4 [(3, .int (nI (i + 4))), (2, .ref G.2.1), (1, .ref (ad 31)), (0, .ref b)] := lv_sub hl [0, 1, 2, 3] rfl
        exact ih (d - 4) (i + 4, u2, sc2, ar2, a) H locs ls (by omega) ⟨by show i + 4 + (d - 4) = L + 8; omega, by show i + 4 ≤ L + 4; omega, hr2.mono (by show 1 + 125 * i + 500 ≤ 1 + 125 * (i + 4); omega), hc2, hB, hl⟩
      · refine lv_tableIn (off := 368) (tgt := 400) hx hb dL_law_32 (by decide) (by decide) (by decide) (by decide) ?_
        refine lv_aload_n hx hb dL_law_400 rfl (lv_at hl 2 rfl) ?_
        have hB : gB G.1 (rT G) (fun q : Nat => s.heap.size ≤ q) s H locs (rWs G (sc, ar) ++ cW G ad cE cF uc) := hB.perm List.perm_append_comm
        refine g_calliA (wr := rWs G (sc, ar)) (wc := cW G ad cE cF uc) (av := []) (rest := []) ⟨hx, hb, hml, hown, hts⟩ (K_flying l G ad cE cF hTF hTE uc (1 + 125 * i) hb9 a hok hcc ) (cwV 0 hts gL_law_X11_flying rfl rfl rfl (by decide +kernel) ⟨Nat.le_of_ble_eq_true rfl, Nat.le_of_ble_eq_true rfl⟩) hB (q0 := 0) (ci := 8) (cW_0 G ad cE cF uc) rfl rfl rfl hl.1 rfl (Nat.le_of_ble_eq_true rfl) dL_law_401 ⟨Nat.le_of_ble_eq_true rfl, Nat.le_of_ble_eq_true rfl⟩ (fun r9 u H locs hw hB => ?_)
        obtain ⟨er, hc2⟩ := hw
        have hB : gB G.1 (rT G) (fun q : Nat => s.heap.size ≤ q) s H locs (cW G ad cE cF u ++ rWs G (sc, ar)) := hB.perm List.perm_append_comm
        obtain ⟨u2, eu2⟩ : ∃ u2, u2 = u := ⟨_, rfl⟩
        rw [← eu2] at hB hc2
        have hc2 : cR u2 a := hc2
        obtain ⟨r1, er1⟩ : ∃ r1 : Int32, r1 = r9 := ⟨_, rfl⟩
        refine g_top (y := r1) er1.symm ?_
        rw [← er1] at er
        have hB : gB G.1 (rT G) (fun q : Nat => s.heap.size ≤ q) s H locs (cW G ad cE cF u2 ++ rWs G (sc, ar)) := hB
        refine lv_aload_n hx hb dL_law_404 rfl (lv_at hl 1 rfl) ?_
        have hB : gB G.1 (rT G) (fun q : Nat => s.heap.size ≤ q) s H locs (rWs G (sc, ar) ++ cW G ad cE cF u2) := hB.perm List.perm_append_comm
        have hB : gB G.1 (rT G) (fun q : Nat => s.heap.size ≤ q) s H locs (cW G ad cE cF u2 ++ rWs G (sc, ar)) := hB.perm List.perm_append_comm
        refine g_calliA (wr := cW G ad cE cF u2) (wc := rWs G (sc, ar)) (av := []) (rest := [.int r1]) ⟨hx, hb, hml, hown, hts⟩ (c_flying l G sc ar (1 + 125 * i) (by omega) a hrr ) (cwV 0 hts gL_law_X12_flying rfl rfl rfl (by decide +kernel) ⟨Nat.le_of_ble_eq_true rfl, Nat.le_of_ble_eq_true rfl⟩) hB (q0 := 0) (ci := 9) rfl rfl rfl rfl hl.1 rfl (Nat.le_of_ble_eq_true rfl) dL_law_405 ⟨Nat.le_of_ble_eq_true rfl, Nat.le_of_ble_eq_true rfl⟩ (fun r9 u H locs hw hB => ?_)
        obtain ⟨er2, hr2⟩ := hw
        obtain ⟨sc2, ar2⟩ := u
        have hB : gB G.1 (rT G) (fun q : Nat => s.heap.size ≤ q) s H locs (cW G ad cE cF u2 ++ rWs G (sc2, ar2)) := hB
        have e12 : r1 = r9 := er.trans (er2.trans rfl).symm
        refine lv_icmp_eq (tgt := 591) hx hb dL_law_408 (by decide) (fun c_13 => ?_) (fun c9 => (c9 e12).elim)
        refine lv_iinc (v := nI (i + 4)) (lv' := [(3, .int (nI (i + 4))), (2, .ref G.2.1), (1, .ref (ad 31)), (0, .ref b)]) hx hb dL_law_591 hl (k := 0) rfl (nI_add _ _) (by decide) rfl (fun ls hl => ?_)
        refine lv_goto (tgt := 18) hx hb dL_law_594 (by decide) ?_
        have hl : lv_has ls 4 [(3, .int (nI (i + 4))), (2, .ref G.2.1), (1, .ref (ad 31)), (0, .ref b)] := lv_sub hl [0, 1, 2, 3] rfl
        exact ih (d - 4) (i + 4, u2, sc2, ar2, a) H locs ls (by omega) ⟨by show i + 4 + (d - 4) = L + 8; omega, by show i + 4 ≤ L + 4; omega, hr2.mono (by show 1 + 125 * i + 500 ≤ 1 + 125 * (i + 4); omega), hc2, hB, hl⟩
      · refine lv_tableIn (off := 381) (tgt := 413) hx hb dL_law_32 (by decide) (by decide) (by decide) (by decide) ?_
        refine lv_aload_n hx hb dL_law_413 rfl (lv_at hl 2 rfl) ?_
        refine lv_aload_n hx hb dL_law_414 rfl (lv_at hl 3 rfl) ?_
        refine lv_iload_n hx hb dL_law_415 rfl (lv_at hl 0 rfl) ?_
        refine lv_iconst (v := nI 1) hx hb dL_law_416 (by decide) ?_
        refine lv_iadd hx hb dL_law_417 ?_
        refine g_top (y := nI (i + 1)) (nI_add _ _) ?_
        refine va_sld (A := (fun q : Nat => s.heap.size ≤ q)) hx hb hX hbl hbA hB.2.2.2.1 (show vp_in (nI (i + 1)) L from vp_in_nI (by omega) (by omega)) dL_law_418 ?_
        refine g_top (y := xs (i + 1)) (by rw [nI_clamp (by omega)]) ?_
        have hB : gB G.1 (rT G) (fun q : Nat => s.heap.size ≤ q) s H locs (rWs G (sc, ar) ++ cW G ad cE cF uc) := hB.perm List.perm_append_comm
        refine g_calliA (wr := rWs G (sc, ar)) (wc := cW G ad cE cF uc) (av := [.int (xs (i + 1))]) (rest := []) ⟨hx, hb, hml, hown, hts⟩ (K_feed l G ad cE cF hTF hTE uc (1 + 125 * i) hb9 a hok hcc (xs (i + 1))) (cwV 1 hts gL_law_X11_feed rfl rfl rfl (by decide +kernel) ⟨Nat.le_of_ble_eq_true rfl, Nat.le_of_ble_eq_true rfl⟩) hB (q0 := 0) (ci := 8) (cW_0 G ad cE cF uc) rfl rfl rfl hl.1 rfl (Nat.le_of_ble_eq_true rfl) dL_law_419 ⟨Nat.le_of_ble_eq_true rfl, Nat.le_of_ble_eq_true rfl⟩ (fun r9 u H locs hw hB => ?_)
        obtain ⟨er, hc2⟩ := hw
        have hB : gB G.1 (rT G) (fun q : Nat => s.heap.size ≤ q) s H locs (cW G ad cE cF u ++ rWs G (sc, ar)) := hB.perm List.perm_append_comm
        obtain ⟨u2, eu2⟩ : ∃ u2, u2 = u := ⟨_, rfl⟩
        rw [← eu2] at hB hc2
        have hc2 : cR u2 (spFeed a (xs (i + 1))).1 := hc2
        obtain ⟨r1, er1⟩ : ∃ r1 : Int32, r1 = r9 := ⟨_, rfl⟩
        refine g_top (y := r1) er1.symm ?_
        rw [← er1] at er
        have hB : gB G.1 (rT G) (fun q : Nat => s.heap.size ≤ q) s H locs (cW G ad cE cF u2 ++ rWs G (sc, ar)) := hB
        refine lv_aload_n hx hb dL_law_422 rfl (lv_at hl 1 rfl) ?_
        refine lv_aload_n hx hb dL_law_423 rfl (lv_at hl 3 rfl) ?_
        refine lv_iload_n hx hb dL_law_424 rfl (lv_at hl 0 rfl) ?_
        refine lv_iconst (v := nI 1) hx hb dL_law_425 (by decide) ?_
        refine lv_iadd hx hb dL_law_426 ?_
        refine g_top (y := nI (i + 1)) (nI_add _ _) ?_
        refine va_sld (A := (fun q : Nat => s.heap.size ≤ q)) hx hb hX hbl hbA hB.2.2.2.1 (show vp_in (nI (i + 1)) L from vp_in_nI (by omega) (by omega)) dL_law_427 ?_
        refine g_top (y := xs (i + 1)) (by rw [nI_clamp (by omega)]) ?_
        have hB : gB G.1 (rT G) (fun q : Nat => s.heap.size ≤ q) s H locs (rWs G (sc, ar) ++ cW G ad cE cF u2) := hB.perm List.perm_append_comm
        have hB : gB G.1 (rT G) (fun q : Nat => s.heap.size ≤ q) s H locs (cW G ad cE cF u2 ++ rWs G (sc, ar)) := hB.perm List.perm_append_comm
        refine g_calliA (wr := cW G ad cE cF u2) (wc := rWs G (sc, ar)) (av := [.int (xs (i + 1))]) (rest := [.int r1]) ⟨hx, hb, hml, hown, hts⟩ (c_feed l G sc ar (1 + 125 * i) (by omega) a hrr (xs (i + 1))) (cwV 1 hts gL_law_X12_feed rfl rfl rfl (by decide +kernel) ⟨Nat.le_of_ble_eq_true rfl, Nat.le_of_ble_eq_true rfl⟩) hB (q0 := 0) (ci := 9) rfl rfl rfl rfl hl.1 rfl (Nat.le_of_ble_eq_true rfl) dL_law_428 ⟨Nat.le_of_ble_eq_true rfl, Nat.le_of_ble_eq_true rfl⟩ (fun r9 u H locs hw hB => ?_)
        obtain ⟨er2, hr2⟩ := hw
        obtain ⟨sc2, ar2⟩ := u
        have hB : gB G.1 (rT G) (fun q : Nat => s.heap.size ≤ q) s H locs (cW G ad cE cF u2 ++ rWs G (sc2, ar2)) := hB
        have e12 : r1 = r9 := er.trans (er2.trans rfl).symm
        refine lv_icmp_eq (tgt := 591) hx hb dL_law_431 (by decide) (fun c_14 => ?_) (fun c9 => (c9 e12).elim)
        refine lv_iinc (v := nI (i + 4)) (lv' := [(3, .int (nI (i + 4))), (2, .ref G.2.1), (1, .ref (ad 31)), (0, .ref b)]) hx hb dL_law_591 hl (k := 0) rfl (nI_add _ _) (by decide) rfl (fun ls hl => ?_)
        refine lv_goto (tgt := 18) hx hb dL_law_594 (by decide) ?_
        have hl : lv_has ls 4 [(3, .int (nI (i + 4))), (2, .ref G.2.1), (1, .ref (ad 31)), (0, .ref b)] := lv_sub hl [0, 1, 2, 3] rfl
        exact ih (d - 4) (i + 4, u2, sc2, ar2, (spFeed a (xs (i + 1))).1) H locs ls (by omega) ⟨by show i + 4 + (d - 4) = L + 8; omega, by show i + 4 ≤ L + 4; omega, hr2.mono (by show 1 + 125 * i + 500 ≤ 1 + 125 * (i + 4); omega), hc2, hB, hl⟩
      · refine lv_tableIn (off := 404) (tgt := 436) hx hb dL_law_32 (by decide) (by decide) (by decide) (by decide) ?_
        refine lv_aload_n hx hb dL_law_436 rfl (lv_at hl 2 rfl) ?_
        refine lv_aload_n hx hb dL_law_437 rfl (lv_at hl 3 rfl) ?_
        refine lv_iload_n hx hb dL_law_438 rfl (lv_at hl 0 rfl) ?_
        refine lv_iconst (v := nI 1) hx hb dL_law_439 (by decide) ?_
        refine lv_iadd hx hb dL_law_440 ?_
        refine g_top (y := nI (i + 1)) (nI_add _ _) ?_
        refine va_sld (A := (fun q : Nat => s.heap.size ≤ q)) hx hb hX hbl hbA hB.2.2.2.1 (show vp_in (nI (i + 1)) L from vp_in_nI (by omega) (by omega)) dL_law_441 ?_
        refine g_top (y := xs (i + 1)) (by rw [nI_clamp (by omega)]) ?_
        have hB : gB G.1 (rT G) (fun q : Nat => s.heap.size ≤ q) s H locs (rWs G (sc, ar) ++ cW G ad cE cF uc) := hB.perm List.perm_append_comm
        refine g_calliA (wr := rWs G (sc, ar)) (wc := cW G ad cE cF uc) (av := [.int (xs (i + 1))]) (rest := []) ⟨hx, hb, hml, hown, hts⟩ (K_inject l G ad cE cF hTF hTE uc (1 + 125 * i) hb9 a hok hcc (xs (i + 1))) (cwV 1 hts gL_law_X11_inject rfl rfl rfl (by decide +kernel) ⟨Nat.le_of_ble_eq_true rfl, Nat.le_of_ble_eq_true rfl⟩) hB (q0 := 0) (ci := 8) (cW_0 G ad cE cF uc) rfl rfl rfl hl.1 rfl (Nat.le_of_ble_eq_true rfl) dL_law_442 ⟨Nat.le_of_ble_eq_true rfl, Nat.le_of_ble_eq_true rfl⟩ (fun r9 u H locs hw hB => ?_)
        obtain ⟨er, hc2⟩ := hw
        have hB : gB G.1 (rT G) (fun q : Nat => s.heap.size ≤ q) s H locs (cW G ad cE cF u ++ rWs G (sc, ar)) := hB.perm List.perm_append_comm
        obtain ⟨u2, eu2⟩ : ∃ u2, u2 = u := ⟨_, rfl⟩
        rw [← eu2] at hB hc2
        have hc2 : cR u2 (spInject a (xs (i + 1))).1 := hc2
        obtain ⟨r1, er1⟩ : ∃ r1 : Int32, r1 = r9 := ⟨_, rfl⟩
        refine g_top (y := r1) er1.symm ?_
        rw [← er1] at er
        have hB : gB G.1 (rT G) (fun q : Nat => s.heap.size ≤ q) s H locs (cW G ad cE cF u2 ++ rWs G (sc, ar)) := hB
        refine lv_aload_n hx hb dL_law_445 rfl (lv_at hl 1 rfl) ?_
        refine lv_aload_n hx hb dL_law_446 rfl (lv_at hl 3 rfl) ?_
        refine lv_iload_n hx hb dL_law_447 rfl (lv_at hl 0 rfl) ?_
        refine lv_iconst (v := nI 1) hx hb dL_law_448 (by decide) ?_
        refine lv_iadd hx hb dL_law_449 ?_
        refine g_top (y := nI (i + 1)) (nI_add _ _) ?_
        refine va_sld (A := (fun q : Nat => s.heap.size ≤ q)) hx hb hX hbl hbA hB.2.2.2.1 (show vp_in (nI (i + 1)) L from vp_in_nI (by omega) (by omega)) dL_law_450 ?_
        refine g_top (y := xs (i + 1)) (by rw [nI_clamp (by omega)]) ?_
        have hB : gB G.1 (rT G) (fun q : Nat => s.heap.size ≤ q) s H locs (rWs G (sc, ar) ++ cW G ad cE cF u2) := hB.perm List.perm_append_comm
        have hB : gB G.1 (rT G) (fun q : Nat => s.heap.size ≤ q) s H locs (cW G ad cE cF u2 ++ rWs G (sc, ar)) := hB.perm List.perm_append_comm
        refine g_calliA (wr := cW G ad cE cF u2) (wc := rWs G (sc, ar)) (av := [.int (xs (i + 1))]) (rest := [.int r1]) ⟨hx, hb, hml, hown, hts⟩ (c_inject l G sc ar (1 + 125 * i) (by omega) a hrr (xs (i + 1))) (cwV 1 hts gL_law_X12_inject rfl rfl rfl (by decide +kernel) ⟨Nat.le_of_ble_eq_true rfl, Nat.le_of_ble_eq_true rfl⟩) hB (q0 := 0) (ci := 9) rfl rfl rfl rfl hl.1 rfl (Nat.le_of_ble_eq_true rfl) dL_law_451 ⟨Nat.le_of_ble_eq_true rfl, Nat.le_of_ble_eq_true rfl⟩ (fun r9 u H locs hw hB => ?_)
        obtain ⟨er2, hr2⟩ := hw
        obtain ⟨sc2, ar2⟩ := u
        have hB : gB G.1 (rT G) (fun q : Nat => s.heap.size ≤ q) s H locs (cW G ad cE cF u2 ++ rWs G (sc2, ar2)) := hB
        have e12 : r1 = r9 := er.trans (er2.trans rfl).symm
        refine lv_icmp_eq (tgt := 591) hx hb dL_law_454 (by decide) (fun c_15 => ?_) (fun c9 => (c9 e12).elim)
        refine lv_iinc (v := nI (i + 4)) (lv' := [(3, .int (nI (i + 4))), (2, .ref G.2.1), (1, .ref (ad 31)), (0, .ref b)]) hx hb dL_law_591 hl (k := 0) rfl (nI_add _ _) (by decide) rfl (fun ls hl => ?_)
        refine lv_goto (tgt := 18) hx hb dL_law_594 (by decide) ?_
        have hl : lv_has ls 4 [(3, .int (nI (i + 4))), (2, .ref G.2.1), (1, .ref (ad 31)), (0, .ref b)] := lv_sub hl [0, 1, 2, 3] rfl
        exact ih (d - 4) (i + 4, u2, sc2, ar2, (spInject a (xs (i + 1))).1) H locs ls (by omega) ⟨by show i + 4 + (d - 4) = L + 8; omega, by show i + 4 ≤ L + 4; omega, hr2.mono (by show 1 + 125 * i + 500 ≤ 1 + 125 * (i + 4); omega), hc2, hB, hl⟩
      · refine lv_tableIn (off := 427) (tgt := 459) hx hb dL_law_32 (by decide) (by decide) (by decide) (by decide) ?_
        refine lv_aload_n hx hb dL_law_459 rfl (lv_at hl 2 rfl) ?_
        refine lv_aload_n hx hb dL_law_460 rfl (lv_at hl 3 rfl) ?_
        refine lv_iload_n hx hb dL_law_461 rfl (lv_at hl 0 rfl) ?_
        refine lv_iconst (v := nI 1) hx hb dL_law_462 (by decide) ?_
        refine lv_iadd hx hb dL_law_463 ?_
        refine g_top (y := nI (i + 1)) (nI_add _ _) ?_
        refine va_sld (A := (fun q : Nat => s.heap.size ≤ q)) hx hb hX hbl hbA hB.2.2.2.1 (show vp_in (nI (i + 1)) L from vp_in_nI (by omega) (by omega)) dL_law_464 ?_
        refine g_top (y := xs (i + 1)) (by rw [nI_clamp (by omega)]) ?_
        refine lv_aload_n hx hb dL_law_465 rfl (lv_at hl 3 rfl) ?_
        refine lv_iload_n hx hb dL_law_466 rfl (lv_at hl 0 rfl) ?_
        refine lv_iconst (v := nI 2) hx hb dL_law_467 (by decide) ?_
        refine lv_iadd hx hb dL_law_468 ?_
        refine g_top (y := nI (i + 2)) (nI_add _ _) ?_
        refine va_sld (A := (fun q : Nat => s.heap.size ≤ q)) hx hb hX hbl hbA hB.2.2.2.1 (show vp_in (nI (i + 2)) L from vp_in_nI (by omega) (by omega)) dL_law_469 ?_
        refine g_top (y := xs (i + 2)) (by rw [nI_clamp (by omega)]) ?_
        have hB : gB G.1 (rT G) (fun q : Nat => s.heap.size ≤ q) s H locs (rWs G (sc, ar) ++ cW G ad cE cF uc) := hB.perm List.perm_append_comm
        refine g_calliA (wr := rWs G (sc, ar)) (wc := cW G ad cE cF uc) (av := [.int (xs (i + 1)), .int (xs (i + 2))]) (rest := []) ⟨hx, hb, hml, hown, hts⟩ (K_view l G ad cE cF hTF hTE uc (1 + 125 * i) hb9 a hok hcc (xs (i + 1)) (xs (i + 2))) (cwV 2 hts gL_law_X11_view rfl rfl rfl (by decide +kernel) ⟨Nat.le_of_ble_eq_true rfl, Nat.le_of_ble_eq_true rfl⟩) hB (q0 := 0) (ci := 8) (cW_0 G ad cE cF uc) rfl rfl rfl hl.1 rfl (Nat.le_of_ble_eq_true rfl) dL_law_470 ⟨Nat.le_of_ble_eq_true rfl, Nat.le_of_ble_eq_true rfl⟩ (fun r9 u H locs hw hB => ?_)
        obtain ⟨er, hc2⟩ := hw
        have hB : gB G.1 (rT G) (fun q : Nat => s.heap.size ≤ q) s H locs (cW G ad cE cF u ++ rWs G (sc, ar)) := hB.perm List.perm_append_comm
        obtain ⟨u2, eu2⟩ : ∃ u2, u2 = u := ⟨_, rfl⟩
        rw [← eu2] at hB hc2
        have hc2 : cR u2 a := hc2
        obtain ⟨r1, er1⟩ : ∃ r1 : Int32, r1 = r9 := ⟨_, rfl⟩
        refine g_top (y := r1) er1.symm ?_
        rw [← er1] at er
        have hB : gB G.1 (rT G) (fun q : Nat => s.heap.size ≤ q) s H locs (cW G ad cE cF u2 ++ rWs G (sc, ar)) := hB
        refine lv_aload_n hx hb dL_law_473 rfl (lv_at hl 1 rfl) ?_
        refine lv_aload_n hx hb dL_law_474 rfl (lv_at hl 3 rfl) ?_
        refine lv_iload_n hx hb dL_law_475 rfl (lv_at hl 0 rfl) ?_
        refine lv_iconst (v := nI 1) hx hb dL_law_476 (by decide) ?_
        refine lv_iadd hx hb dL_law_477 ?_
        refine g_top (y := nI (i + 1)) (nI_add _ _) ?_
        refine va_sld (A := (fun q : Nat => s.heap.size ≤ q)) hx hb hX hbl hbA hB.2.2.2.1 (show vp_in (nI (i + 1)) L from vp_in_nI (by omega) (by omega)) dL_law_478 ?_
        refine g_top (y := xs (i + 1)) (by rw [nI_clamp (by omega)]) ?_
        refine lv_aload_n hx hb dL_law_479 rfl (lv_at hl 3 rfl) ?_
        refine lv_iload_n hx hb dL_law_480 rfl (lv_at hl 0 rfl) ?_
        refine lv_iconst (v := nI 2) hx hb dL_law_481 (by decide) ?_
        refine lv_iadd hx hb dL_law_482 ?_
        refine g_top (y := nI (i + 2)) (nI_add _ _) ?_
        refine va_sld (A := (fun q : Nat => s.heap.size ≤ q)) hx hb hX hbl hbA hB.2.2.2.1 (show vp_in (nI (i + 2)) L from vp_in_nI (by omega) (by omega)) dL_law_483 ?_
        refine g_top (y := xs (i + 2)) (by rw [nI_clamp (by omega)]) ?_
        have hB : gB G.1 (rT G) (fun q : Nat => s.heap.size ≤ q) s H locs (rWs G (sc, ar) ++ cW G ad cE cF u2) := hB.perm List.perm_append_comm
        have hB : gB G.1 (rT G) (fun q : Nat => s.heap.size ≤ q) s H locs (cW G ad cE cF u2 ++ rWs G (sc, ar)) := hB.perm List.perm_append_comm
        refine g_calliA (wr := cW G ad cE cF u2) (wc := rWs G (sc, ar)) (av := [.int (xs (i + 1)), .int (xs (i + 2))]) (rest := [.int r1]) ⟨hx, hb, hml, hown, hts⟩ (c_view l G sc ar (1 + 125 * i) (by omega) a hrr (xs (i + 1)) (xs (i + 2))) (cwV 2 hts gL_law_X12_view rfl rfl rfl (by decide +kernel) ⟨Nat.le_of_ble_eq_true rfl, Nat.le_of_ble_eq_true rfl⟩) hB (q0 := 0) (ci := 9) rfl rfl rfl rfl hl.1 rfl (Nat.le_of_ble_eq_true rfl) dL_law_484 ⟨Nat.le_of_ble_eq_true rfl, Nat.le_of_ble_eq_true rfl⟩ (fun r9 u H locs hw hB => ?_)
        obtain ⟨er2, hr2⟩ := hw
        obtain ⟨sc2, ar2⟩ := u
        have hB : gB G.1 (rT G) (fun q : Nat => s.heap.size ≤ q) s H locs (cW G ad cE cF u2 ++ rWs G (sc2, ar2)) := hB
        have e12 : r1 = r9 := er.trans (er2.trans rfl).symm
        refine lv_icmp_eq (tgt := 591) hx hb dL_law_487 (by decide) (fun c_16 => ?_) (fun c9 => (c9 e12).elim)
        refine lv_iinc (v := nI (i + 4)) (lv' := [(3, .int (nI (i + 4))), (2, .ref G.2.1), (1, .ref (ad 31)), (0, .ref b)]) hx hb dL_law_591 hl (k := 0) rfl (nI_add _ _) (by decide) rfl (fun ls hl => ?_)
        refine lv_goto (tgt := 18) hx hb dL_law_594 (by decide) ?_
        have hl : lv_has ls 4 [(3, .int (nI (i + 4))), (2, .ref G.2.1), (1, .ref (ad 31)), (0, .ref b)] := lv_sub hl [0, 1, 2, 3] rfl
        exact ih (d - 4) (i + 4, u2, sc2, ar2, a) H locs ls (by omega) ⟨by show i + 4 + (d - 4) = L + 8; omega, by show i + 4 ≤ L + 4; omega, hr2.mono (by show 1 + 125 * i + 500 ≤ 1 + 125 * (i + 4); omega), hc2, hB, hl⟩
      · refine lv_tableIn (off := 460) (tgt := 492) hx hb dL_law_32 (by decide) (by decide) (by decide) (by decide) ?_
        refine lv_aload_n hx hb dL_law_492 rfl (lv_at hl 2 rfl) ?_
        refine lv_aload_n hx hb dL_law_493 rfl (lv_at hl 3 rfl) ?_
        refine lv_iload_n hx hb dL_law_494 rfl (lv_at hl 0 rfl) ?_
        refine lv_iconst (v := nI 1) hx hb dL_law_495 (by decide) ?_
        refine lv_iadd hx hb dL_law_496 ?_
        refine g_top (y := nI (i + 1)) (nI_add _ _) ?_
        refine va_sld (A := (fun q : Nat => s.heap.size ≤ q)) hx hb hX hbl hbA hB.2.2.2.1 (show vp_in (nI (i + 1)) L from vp_in_nI (by omega) (by omega)) dL_law_497 ?_
        refine g_top (y := xs (i + 1)) (by rw [nI_clamp (by omega)]) ?_
        refine lv_aload_n hx hb dL_law_498 rfl (lv_at hl 3 rfl) ?_
        refine lv_iload_n hx hb dL_law_499 rfl (lv_at hl 0 rfl) ?_
        refine lv_iconst (v := nI 2) hx hb dL_law_500 (by decide) ?_
        refine lv_iadd hx hb dL_law_501 ?_
        refine g_top (y := nI (i + 2)) (nI_add _ _) ?_
        refine va_sld (A := (fun q : Nat => s.heap.size ≤ q)) hx hb hX hbl hbA hB.2.2.2.1 (show vp_in (nI (i + 2)) L from vp_in_nI (by omega) (by omega)) dL_law_502 ?_
        refine g_top (y := xs (i + 2)) (by rw [nI_clamp (by omega)]) ?_
        have hB : gB G.1 (rT G) (fun q : Nat => s.heap.size ≤ q) s H locs (rWs G (sc, ar) ++ cW G ad cE cF uc) := hB.perm List.perm_append_comm
        refine g_calliA (wr := rWs G (sc, ar)) (wc := cW G ad cE cF uc) (av := [.int (xs (i + 1)), .int (xs (i + 2))]) (rest := []) ⟨hx, hb, hml, hown, hts⟩ (K_taken l G ad cE cF hTF hTE uc (1 + 125 * i) hb9 a hok hcc (xs (i + 1)) (xs (i + 2))) (cwV 2 hts gL_law_X11_taken rfl rfl rfl (by decide +kernel) ⟨Nat.le_of_ble_eq_true rfl, Nat.le_of_ble_eq_true rfl⟩) hB (q0 := 0) (ci := 8) (cW_0 G ad cE cF uc) rfl rfl rfl hl.1 rfl (Nat.le_of_ble_eq_true rfl) dL_law_503 ⟨Nat.le_of_ble_eq_true rfl, Nat.le_of_ble_eq_true rfl⟩ (fun r9 u H locs hw hB => ?_)
        obtain ⟨er, hc2⟩ := hw
        have hB : gB G.1 (rT G) (fun q : Nat => s.heap.size ≤ q) s H locs (cW G ad cE cF u ++ rWs G (sc, ar)) := hB.perm List.perm_append_comm
        obtain ⟨u2, eu2⟩ : ∃ u2, u2 = u := ⟨_, rfl⟩
        rw [← eu2] at hB hc2
        have hc2 : cR u2 a := hc2
        obtain ⟨r1, er1⟩ : ∃ r1 : Int32, r1 = r9 := ⟨_, rfl⟩
        refine g_top (y := r1) er1.symm ?_
        rw [← er1] at er
        have hB : gB G.1 (rT G) (fun q : Nat => s.heap.size ≤ q) s H locs (cW G ad cE cF u2 ++ rWs G (sc, ar)) := hB
        refine lv_aload_n hx hb dL_law_506 rfl (lv_at hl 1 rfl) ?_
        refine lv_aload_n hx hb dL_law_507 rfl (lv_at hl 3 rfl) ?_
        refine lv_iload_n hx hb dL_law_508 rfl (lv_at hl 0 rfl) ?_
        refine lv_iconst (v := nI 1) hx hb dL_law_509 (by decide) ?_
        refine lv_iadd hx hb dL_law_510 ?_
        refine g_top (y := nI (i + 1)) (nI_add _ _) ?_
        refine va_sld (A := (fun q : Nat => s.heap.size ≤ q)) hx hb hX hbl hbA hB.2.2.2.1 (show vp_in (nI (i + 1)) L from vp_in_nI (by omega) (by omega)) dL_law_511 ?_
        refine g_top (y := xs (i + 1)) (by rw [nI_clamp (by omega)]) ?_
        refine lv_aload_n hx hb dL_law_512 rfl (lv_at hl 3 rfl) ?_
        refine lv_iload_n hx hb dL_law_513 rfl (lv_at hl 0 rfl) ?_
        refine lv_iconst (v := nI 2) hx hb dL_law_514 (by decide) ?_
        refine lv_iadd hx hb dL_law_515 ?_
        refine g_top (y := nI (i + 2)) (nI_add _ _) ?_
        refine va_sld (A := (fun q : Nat => s.heap.size ≤ q)) hx hb hX hbl hbA hB.2.2.2.1 (show vp_in (nI (i + 2)) L from vp_in_nI (by omega) (by omega)) dL_law_516 ?_
        refine g_top (y := xs (i + 2)) (by rw [nI_clamp (by omega)]) ?_
        have hB : gB G.1 (rT G) (fun q : Nat => s.heap.size ≤ q) s H locs (rWs G (sc, ar) ++ cW G ad cE cF u2) := hB.perm List.perm_append_comm
        have hB : gB G.1 (rT G) (fun q : Nat => s.heap.size ≤ q) s H locs (cW G ad cE cF u2 ++ rWs G (sc, ar)) := hB.perm List.perm_append_comm
        refine g_calliA (wr := cW G ad cE cF u2) (wc := rWs G (sc, ar)) (av := [.int (xs (i + 1)), .int (xs (i + 2))]) (rest := [.int r1]) ⟨hx, hb, hml, hown, hts⟩ (c_taken l G sc ar (1 + 125 * i) (by omega) a hrr (xs (i + 1)) (xs (i + 2))) (cwV 2 hts gL_law_X12_taken rfl rfl rfl (by decide +kernel) ⟨Nat.le_of_ble_eq_true rfl, Nat.le_of_ble_eq_true rfl⟩) hB (q0 := 0) (ci := 9) rfl rfl rfl rfl hl.1 rfl (Nat.le_of_ble_eq_true rfl) dL_law_517 ⟨Nat.le_of_ble_eq_true rfl, Nat.le_of_ble_eq_true rfl⟩ (fun r9 u H locs hw hB => ?_)
        obtain ⟨er2, hr2⟩ := hw
        obtain ⟨sc2, ar2⟩ := u
        have hB : gB G.1 (rT G) (fun q : Nat => s.heap.size ≤ q) s H locs (cW G ad cE cF u2 ++ rWs G (sc2, ar2)) := hB
        have e12 : r1 = r9 := er.trans (er2.trans rfl).symm
        refine lv_icmp_eq (tgt := 591) hx hb dL_law_520 (by decide) (fun c_17 => ?_) (fun c9 => (c9 e12).elim)
        refine lv_iinc (v := nI (i + 4)) (lv' := [(3, .int (nI (i + 4))), (2, .ref G.2.1), (1, .ref (ad 31)), (0, .ref b)]) hx hb dL_law_591 hl (k := 0) rfl (nI_add _ _) (by decide) rfl (fun ls hl => ?_)
        refine lv_goto (tgt := 18) hx hb dL_law_594 (by decide) ?_
        have hl : lv_has ls 4 [(3, .int (nI (i + 4))), (2, .ref G.2.1), (1, .ref (ad 31)), (0, .ref b)] := lv_sub hl [0, 1, 2, 3] rfl
        exact ih (d - 4) (i + 4, u2, sc2, ar2, a) H locs ls (by omega) ⟨by show i + 4 + (d - 4) = L + 8; omega, by show i + 4 ≤ L + 4; omega, hr2.mono (by show 1 + 125 * i + 500 ≤ 1 + 125 * (i + 4); omega), hc2, hB, hl⟩
      · refine lv_tableIn (off := 493) (tgt := 525) hx hb dL_law_32 (by decide) (by decide) (by decide) (by decide) ?_
        refine lv_aload_n hx hb dL_law_525 rfl (lv_at hl 2 rfl) ?_
        refine lv_aload_n hx hb dL_law_526 rfl (lv_at hl 3 rfl) ?_
        refine lv_iload_n hx hb dL_law_527 rfl (lv_at hl 0 rfl) ?_
        refine lv_iconst (v := nI 1) hx hb dL_law_528 (by decide) ?_
        refine lv_iadd hx hb dL_law_529 ?_
        refine g_top (y := nI (i + 1)) (nI_add _ _) ?_
        refine va_sld (A := (fun q : Nat => s.heap.size ≤ q)) hx hb hX hbl hbA hB.2.2.2.1 (show vp_in (nI (i + 1)) L from vp_in_nI (by omega) (by omega)) dL_law_530 ?_
        refine g_top (y := xs (i + 1)) (by rw [nI_clamp (by omega)]) ?_
        refine lv_aload_n hx hb dL_law_531 rfl (lv_at hl 3 rfl) ?_
        refine lv_iload_n hx hb dL_law_532 rfl (lv_at hl 0 rfl) ?_
        refine lv_iconst (v := nI 2) hx hb dL_law_533 (by decide) ?_
        refine lv_iadd hx hb dL_law_534 ?_
        refine g_top (y := nI (i + 2)) (nI_add _ _) ?_
        refine va_sld (A := (fun q : Nat => s.heap.size ≤ q)) hx hb hX hbl hbA hB.2.2.2.1 (show vp_in (nI (i + 2)) L from vp_in_nI (by omega) (by omega)) dL_law_535 ?_
        refine g_top (y := xs (i + 2)) (by rw [nI_clamp (by omega)]) ?_
        refine lv_aload_n hx hb dL_law_536 rfl (lv_at hl 3 rfl) ?_
        refine lv_iload_n hx hb dL_law_537 rfl (lv_at hl 0 rfl) ?_
        refine lv_iconst (v := nI 3) hx hb dL_law_538 (by decide) ?_
        refine lv_iadd hx hb dL_law_539 ?_
        refine g_top (y := nI (i + 3)) (nI_add _ _) ?_
        refine va_sld (A := (fun q : Nat => s.heap.size ≤ q)) hx hb hX hbl hbA hB.2.2.2.1 (show vp_in (nI (i + 3)) L from vp_in_nI (by omega) (by omega)) dL_law_540 ?_
        refine g_top (y := xs (i + 3)) (by rw [nI_clamp (by omega)]) ?_
        have hB : gB G.1 (rT G) (fun q : Nat => s.heap.size ≤ q) s H locs (rWs G (sc, ar) ++ cW G ad cE cF uc) := hB.perm List.perm_append_comm
        refine g_calliA (wr := rWs G (sc, ar)) (wc := cW G ad cE cF uc) (av := [.int (xs (i + 1)), .int (xs (i + 2)), .int (xs (i + 3))]) (rest := []) ⟨hx, hb, hml, hown, hts⟩ (K_event l G ad cE cF hTF hTE uc (1 + 125 * i) hb9 a hok hcc (xs (i + 1)) (xs (i + 2)) (xs (i + 3))) (cwV 3 hts gL_law_X11_event rfl rfl rfl (by decide +kernel) ⟨Nat.le_of_ble_eq_true rfl, Nat.le_of_ble_eq_true rfl⟩) hB (q0 := 0) (ci := 8) (cW_0 G ad cE cF uc) rfl rfl rfl hl.1 rfl (Nat.le_of_ble_eq_true rfl) dL_law_541 ⟨Nat.le_of_ble_eq_true rfl, Nat.le_of_ble_eq_true rfl⟩ (fun r9 u H locs hw hB => ?_)
        obtain ⟨er, hc2⟩ := hw
        have hB : gB G.1 (rT G) (fun q : Nat => s.heap.size ≤ q) s H locs (cW G ad cE cF u ++ rWs G (sc, ar)) := hB.perm List.perm_append_comm
        obtain ⟨u2, eu2⟩ : ∃ u2, u2 = u := ⟨_, rfl⟩
        rw [← eu2] at hB hc2
        have hc2 : cR u2 a := hc2
        obtain ⟨r1, er1⟩ : ∃ r1 : Int32, r1 = r9 := ⟨_, rfl⟩
        refine g_top (y := r1) er1.symm ?_
        rw [← er1] at er
        have hB : gB G.1 (rT G) (fun q : Nat => s.heap.size ≤ q) s H locs (cW G ad cE cF u2 ++ rWs G (sc, ar)) := hB
        refine lv_aload_n hx hb dL_law_544 rfl (lv_at hl 1 rfl) ?_
        refine lv_aload_n hx hb dL_law_545 rfl (lv_at hl 3 rfl) ?_
        refine lv_iload_n hx hb dL_law_546 rfl (lv_at hl 0 rfl) ?_
        refine lv_iconst (v := nI 1) hx hb dL_law_547 (by decide) ?_
        refine lv_iadd hx hb dL_law_548 ?_
        refine g_top (y := nI (i + 1)) (nI_add _ _) ?_
        refine va_sld (A := (fun q : Nat => s.heap.size ≤ q)) hx hb hX hbl hbA hB.2.2.2.1 (show vp_in (nI (i + 1)) L from vp_in_nI (by omega) (by omega)) dL_law_549 ?_
        refine g_top (y := xs (i + 1)) (by rw [nI_clamp (by omega)]) ?_
        refine lv_aload_n hx hb dL_law_550 rfl (lv_at hl 3 rfl) ?_
        refine lv_iload_n hx hb dL_law_551 rfl (lv_at hl 0 rfl) ?_
        refine lv_iconst (v := nI 2) hx hb dL_law_552 (by decide) ?_
        refine lv_iadd hx hb dL_law_553 ?_
        refine g_top (y := nI (i + 2)) (nI_add _ _) ?_
        refine va_sld (A := (fun q : Nat => s.heap.size ≤ q)) hx hb hX hbl hbA hB.2.2.2.1 (show vp_in (nI (i + 2)) L from vp_in_nI (by omega) (by omega)) dL_law_554 ?_
        refine g_top (y := xs (i + 2)) (by rw [nI_clamp (by omega)]) ?_
        refine lv_aload_n hx hb dL_law_555 rfl (lv_at hl 3 rfl) ?_
        refine lv_iload_n hx hb dL_law_556 rfl (lv_at hl 0 rfl) ?_
        refine lv_iconst (v := nI 3) hx hb dL_law_557 (by decide) ?_
        refine lv_iadd hx hb dL_law_558 ?_
        refine g_top (y := nI (i + 3)) (nI_add _ _) ?_
        refine va_sld (A := (fun q : Nat => s.heap.size ≤ q)) hx hb hX hbl hbA hB.2.2.2.1 (show vp_in (nI (i + 3)) L from vp_in_nI (by omega) (by omega)) dL_law_559 ?_
        refine g_top (y := xs (i + 3)) (by rw [nI_clamp (by omega)]) ?_
        have hB : gB G.1 (rT G) (fun q : Nat => s.heap.size ≤ q) s H locs (rWs G (sc, ar) ++ cW G ad cE cF u2) := hB.perm List.perm_append_comm
        have hB : gB G.1 (rT G) (fun q : Nat => s.heap.size ≤ q) s H locs (cW G ad cE cF u2 ++ rWs G (sc, ar)) := hB.perm List.perm_append_comm
        refine g_calliA (wr := cW G ad cE cF u2) (wc := rWs G (sc, ar)) (av := [.int (xs (i + 1)), .int (xs (i + 2)), .int (xs (i + 3))]) (rest := [.int r1]) ⟨hx, hb, hml, hown, hts⟩ (c_event l G sc ar (1 + 125 * i) (by omega) a hrr (xs (i + 1)) (xs (i + 2)) (xs (i + 3))) (cwV 3 hts gL_law_X12_event rfl rfl rfl (by decide +kernel) ⟨Nat.le_of_ble_eq_true rfl, Nat.le_of_ble_eq_true rfl⟩) hB (q0 := 0) (ci := 9) rfl rfl rfl rfl hl.1 rfl (Nat.le_of_ble_eq_true rfl) dL_law_560 ⟨Nat.le_of_ble_eq_true rfl, Nat.le_of_ble_eq_true rfl⟩ (fun r9 u H locs hw hB => ?_)
        obtain ⟨er2, hr2⟩ := hw
        obtain ⟨sc2, ar2⟩ := u
        have hB : gB G.1 (rT G) (fun q : Nat => s.heap.size ≤ q) s H locs (cW G ad cE cF u2 ++ rWs G (sc2, ar2)) := hB
        have e12 : r1 = r9 := er.trans (er2.trans rfl).symm
        refine lv_icmp_eq (tgt := 591) hx hb dL_law_563 (by decide) (fun c_18 => ?_) (fun c9 => (c9 e12).elim)
        refine lv_iinc (v := nI (i + 4)) (lv' := [(3, .int (nI (i + 4))), (2, .ref G.2.1), (1, .ref (ad 31)), (0, .ref b)]) hx hb dL_law_591 hl (k := 0) rfl (nI_add _ _) (by decide) rfl (fun ls hl => ?_)
        refine lv_goto (tgt := 18) hx hb dL_law_594 (by decide) ?_
        have hl : lv_has ls 4 [(3, .int (nI (i + 4))), (2, .ref G.2.1), (1, .ref (ad 31)), (0, .ref b)] := lv_sub hl [0, 1, 2, 3] rfl
        exact ih (d - 4) (i + 4, u2, sc2, ar2, a) H locs ls (by omega) ⟨by show i + 4 + (d - 4) = L + 8; omega, by show i + 4 ≤ L + 4; omega, hr2.mono (by show 1 + 125 * i + 500 ≤ 1 + 125 * (i + 4); omega), hc2, hB, hl⟩
      · refine lv_tableIn (off := 536) (tgt := 568) hx hb dL_law_32 (by decide) (by decide) (by decide) (by decide) ?_
        refine lv_aload_n hx hb dL_law_568 rfl (lv_at hl 2 rfl) ?_
        refine lv_aload_n hx hb dL_law_569 rfl (lv_at hl 3 rfl) ?_
        refine lv_iload_n hx hb dL_law_570 rfl (lv_at hl 0 rfl) ?_
        refine lv_iconst (v := nI 1) hx hb dL_law_571 (by decide) ?_
        refine lv_iadd hx hb dL_law_572 ?_
        refine g_top (y := nI (i + 1)) (nI_add _ _) ?_
        refine va_sld (A := (fun q : Nat => s.heap.size ≤ q)) hx hb hX hbl hbA hB.2.2.2.1 (show vp_in (nI (i + 1)) L from vp_in_nI (by omega) (by omega)) dL_law_573 ?_
        refine g_top (y := xs (i + 1)) (by rw [nI_clamp (by omega)]) ?_
        have hB : gB G.1 (rT G) (fun q : Nat => s.heap.size ≤ q) s H locs (rWs G (sc, ar) ++ cW G ad cE cF uc) := hB.perm List.perm_append_comm
        refine g_calliN (wr := rWs G (sc, ar)) (wc := cW G ad cE cF uc) (av := [.int (xs (i + 1))]) (rest := []) (nsW_of _) hnC ⟨hx, hb, hml, hown, hts⟩ (K_count l G ad cE cF hTF hTE uc (1 + 125 * i) hb9 a hok hcc (xs (i + 1))) (cwV 1 hts gL_law_X11_count rfl rfl rfl (by decide +kernel) ⟨Nat.le_of_ble_eq_true rfl, Nat.le_of_ble_eq_true rfl⟩) hB (q0 := 0) (ci := 8) (cW_0 G ad cE cF uc) rfl rfl rfl hl.1 rfl (Nat.le_of_ble_eq_true rfl) dL_law_574 ⟨Nat.le_of_ble_eq_true rfl, Nat.le_of_ble_eq_true rfl⟩ (fun r9 u H locs hw hB => ?_)
        obtain ⟨er, hc2⟩ := hw
        have hB : gB G.1 (rT G) (fun q : Nat => s.heap.size ≤ q) s H locs (cW G ad cE cF u ++ rWs G (sc, ar)) := hB.perm List.perm_append_comm
        obtain ⟨u2, eu2⟩ : ∃ u2, u2 = u := ⟨_, rfl⟩
        rw [← eu2] at hB hc2
        have hc2 : cR u2 a := hc2
        obtain ⟨r1, er1⟩ : ∃ r1 : Int32, r1 = r9 := ⟨_, rfl⟩
        refine g_top (y := r1) er1.symm ?_
        rw [← er1] at er
        have hB : gB G.1 (rT G) (fun q : Nat => s.heap.size ≤ q) s H locs (cW G ad cE cF u2 ++ rWs G (sc, ar)) := hB
        refine lv_aload_n hx hb dL_law_577 rfl (lv_at hl 1 rfl) ?_
        refine lv_aload_n hx hb dL_law_578 rfl (lv_at hl 3 rfl) ?_
        refine lv_iload_n hx hb dL_law_579 rfl (lv_at hl 0 rfl) ?_
        refine lv_iconst (v := nI 1) hx hb dL_law_580 (by decide) ?_
        refine lv_iadd hx hb dL_law_581 ?_
        refine g_top (y := nI (i + 1)) (nI_add _ _) ?_
        refine va_sld (A := (fun q : Nat => s.heap.size ≤ q)) hx hb hX hbl hbA hB.2.2.2.1 (show vp_in (nI (i + 1)) L from vp_in_nI (by omega) (by omega)) dL_law_582 ?_
        refine g_top (y := xs (i + 1)) (by rw [nI_clamp (by omega)]) ?_
        have hB : gB G.1 (rT G) (fun q : Nat => s.heap.size ≤ q) s H locs (rWs G (sc, ar) ++ cW G ad cE cF u2) := hB.perm List.perm_append_comm
        have hB : gB G.1 (rT G) (fun q : Nat => s.heap.size ≤ q) s H locs (cW G ad cE cF u2 ++ rWs G (sc, ar)) := hB.perm List.perm_append_comm
        refine g_calliA (wr := cW G ad cE cF u2) (wc := rWs G (sc, ar)) (av := [.int (xs (i + 1))]) (rest := [.int r1]) ⟨hx, hb, hml, hown, hts⟩ (c_count l G sc ar (1 + 125 * i) (by omega) a hrr (xs (i + 1))) (cwV 1 hts gL_law_X12_count rfl rfl rfl (by decide +kernel) ⟨Nat.le_of_ble_eq_true rfl, Nat.le_of_ble_eq_true rfl⟩) hB (q0 := 0) (ci := 9) rfl rfl rfl rfl hl.1 rfl (Nat.le_of_ble_eq_true rfl) dL_law_583 ⟨Nat.le_of_ble_eq_true rfl, Nat.le_of_ble_eq_true rfl⟩ (fun r9 u H locs hw hB => ?_)
        obtain ⟨er2, hr2⟩ := hw
        obtain ⟨sc2, ar2⟩ := u
        have hB : gB G.1 (rT G) (fun q : Nat => s.heap.size ≤ q) s H locs (cW G ad cE cF u2 ++ rWs G (sc2, ar2)) := hB
        have e12 : r1 = r9 := er.trans (er2.trans rfl).symm
        refine lv_icmp_eq (tgt := 591) hx hb dL_law_586 (by decide) (fun c_19 => ?_) (fun c9 => (c9 e12).elim)
        refine lv_iinc (v := nI (i + 4)) (lv' := [(3, .int (nI (i + 4))), (2, .ref G.2.1), (1, .ref (ad 31)), (0, .ref b)]) hx hb dL_law_591 hl (k := 0) rfl (nI_add _ _) (by decide) rfl (fun ls hl => ?_)
        refine lv_goto (tgt := 18) hx hb dL_law_594 (by decide) ?_
        have hl : lv_has ls 4 [(3, .int (nI (i + 4))), (2, .ref G.2.1), (1, .ref (ad 31)), (0, .ref b)] := lv_sub hl [0, 1, 2, 3] rfl
        exact ih (d - 4) (i + 4, u2, sc2, ar2, a) H locs ls (by omega) ⟨by show i + 4 + (d - 4) = L + 8; omega, by show i + 4 ≤ L + 4; omega, hr2.mono (by show 1 + 125 * i + 500 ≤ 1 + 125 * (i + 4); omega), hc2, hB, hl⟩
