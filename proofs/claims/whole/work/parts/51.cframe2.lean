/-! MORE OF FOOTPRINTS: a pool behind the cells; calls of static methods on cells; answers that are cells or null; arrays of cells. My own. -/
theorem fm_range {α : Type} (ws : List α) : (List.range ws.length).filterMap (fun i => ws[i]?) = ws := by
  induction ws with
  | nil => rfl
  | cons x ws ih =>
    rw [List.length_cons, List.range_succ_eq_map, List.filterMap_cons]
    show x :: _ = _
    rw [List.filterMap_map]
    exact congrArg _ ih
theorem perm_pos {α : Type} {ws ws2 : List α} (is : List Nat) (n : Nat) (hn : ws.length = n) (h : is.isPerm (List.range n) = true) (hs : is.filterMap (fun i => ws[i]?) = ws2) : ws.Perm ws2 := by
  subst hn
  have h1 := (List.isPerm_iff.mp h).filterMap (fun i => ws[i]?)
  rw [fm_range, hs] at h1
  exact h1.symm
def gQo {S : Type} (D : va_G) (tys : List (ClassId × FieldType)) (post : Option Nat → S → Prop) (Wd : S → va_W) : (Nat → Prop) → Array Value → State → Outcome → State → Prop := fun A _ st oc t => (∃ (r : Option Nat) (u : S), oc = .returned (some (va_rf r)) ∧ post r u ∧ gAt D tys A (Wd u) t) ∧ va_F A st t
section GD
variable {p : Program} {l : Launch} {e : Env} {R : Room} {s : State} {m : MethodId} {args : Array Value} {below : List Frame} {meth : Method} {c : Code} {H : Heap} {locs : List Loc} {cells slots : Nat} {Q : State → Prop}
variable {cc : ByteArray} {pc : Nat} {ls : Array Slot} {rest st0 : List Value} {D : va_G} {A : Nat → Prop} {tys : List (ClassId × FieldType)} {ws ws2 wr wc P : va_W}
/-- the cells in another order, the pool behind those that are not called -/
theorem gB.ordP (hB : gB D tys A s H locs (ws ++ P)) (is : List Nat) (n : Nat) (hn : ws.length = n) (h : is.isPerm (List.range n) = true) (hs : is.filterMap (fun i => ws[i]?) = wr ++ wc) : gB D tys A s H locs ((wr ++ P) ++ wc) := by
  refine hB.perm (((perm_pos is n hn h hs).append_right P).trans ?_)
  rw [List.append_assoc, List.append_assoc]
  exact List.Perm.append_left wr List.perm_append_comm
theorem gB.ordQ (hB : gB D tys A s H locs (ws ++ P)) (is : List Nat) (n : Nat) (hn : ws.length = n) (h : is.isPerm (List.range n) = true) (hs : is.filterMap (fun i => ws[i]?) = wr ++ wc) : gB D tys A s H locs (wr ++ (wc ++ P)) := by
  refine hB.perm (((perm_pos is n hn h hs).append_right P).trans ?_)
  rw [List.append_assoc]
theorem gB.ordW (hB : gB D tys A s H locs (ws ++ P)) (is : List Nat) (n : Nat) (hn : ws.length = n) (h : is.isPerm (List.range n) = true) (hs : is.filterMap (fun i => ws[i]?) = ws2) : gB D tys A s H locs (ws2 ++ P) :=
  hB.perm ((perm_pos is n hn h hs).append_right P)
theorem gB.tail (hB : gB D tys A s H locs ((wr ++ P) ++ wc)) : gB D tys A s H locs ((wr ++ wc) ++ P) := by
  refine hB.perm ?_
  rw [List.append_assoc, List.append_assoc]
  exact List.Perm.append_left wr List.perm_append_comm
theorem g_callSiA {S : Type} {y : MethodName} {bytes : ByteArray} {wds Ts : List Cond} {rm : Room} {av : List Value} {own : String} {index maxL nL n mc ms : Nat} {ret : Option FieldType} {post : Int32 → S → Prop} {Wd : S → va_W} (F : CallFix p m c cc nL s args Ts own) (hM : gM l D tys y wds rm av wc (gQi D tys post Wd) mc ms) (cw : CallB R s args own index y bytes maxL ret wds rm mc ms n ∧ (Cond.static y).before args s = true) (hB : gB D tys A s H locs (wr ++ wc)) (hn : av.length = n) (hls : ls.size = nL) (hst : st0 = av.reverse ++ rest) (hW : (rest.map fun v => v.category).sum ≤ 8) (hdg : decode cc pc = .ok (.invokestatic index, 3)) (hf : cells + mc ≤ R.cells ∧ slots + ms ≤ R.slots)
    (kk : ∀ (r : Int32) (u : S) (H1 : Heap) (locs1 : List Loc), post r u → gB D tys A s H1 locs1 (wr ++ Wd u) → W p l e R s m args below meth c H1 locs1 (cells + mc) (slots + ms) Q (F0 m (pc + 3) ls (.int r :: rest))) : W p l e R s m args below meth c H locs cells slots Q (F0 m pc ls st0) := by
  have hB2 := hB.right
  exact va_calli (va_runS (As := av) (rest := rest) F (hM H.size) cw ⟨gPre_blind, fun U hU hW => hB2.pre _ U hU hW⟩ rfl hn hls hst (lv_room hW) hdg hf) hB2.2.2.2.1 (fun q _ h => hB2.in q h) hB2.in (fun r u t H1 locs1 ht hvm hw hb hz1 hk1 hS1 => kk r u H1 locs1 hw (hB.back hb ht hS1 hk1))
theorem g_callSvA {S : Type} {y : MethodName} {bytes : ByteArray} {wds Ts : List Cond} {rm : Room} {av : List Value} {own : String} {index maxL nL n mc ms : Nat} {ret : Option FieldType} {post : S → Prop} {Wd : S → va_W} (F : CallFix p m c cc nL s args Ts own) (hM : gM l D tys y wds rm av wc (gQv D tys post Wd) mc ms) (cw : CallB R s args own index y bytes maxL ret wds rm mc ms n ∧ (Cond.static y).before args s = true) (hB : gB D tys A s H locs (wr ++ wc)) (hn : av.length = n) (hls : ls.size = nL) (hst : st0 = av.reverse ++ rest) (hW : (rest.map fun v => v.category).sum ≤ 8) (hdg : decode cc pc = .ok (.invokestatic index, 3)) (hf : cells + mc ≤ R.cells ∧ slots + ms ≤ R.slots)
    (kk : ∀ (u : S) (H1 : Heap) (locs1 : List Loc), post u → gB D tys A s H1 locs1 (wr ++ Wd u) → W p l e R s m args below meth c H1 locs1 (cells + mc) (slots + ms) Q (F0 m (pc + 3) ls rest)) : W p l e R s m args below meth c H locs cells slots Q (F0 m pc ls st0) := by
  have hB2 := hB.right
  exact va_callv (va_runS (As := av) (rest := rest) F (hM H.size) cw ⟨gPre_blind, fun U hU hW => hB2.pre _ U hU hW⟩ rfl hn hls hst (lv_room hW) hdg hf) hB2.2.2.2.1 (fun q _ h => hB2.in q h) hB2.in (fun u t H1 locs1 ht hvm hw hb hz1 hk1 hS1 => kk u H1 locs1 hw (hB.back hb ht hS1 hk1))
theorem g_calloA {S : Type} {y : MethodName} {bytes : ByteArray} {wds Ts : List Cond} {rm : Room} {av : List Value} {b : Nat} {own C : String} {index maxL nL n mc ms q0 ci : Nat} {q9 : vw_C} {fs : List Value} {ret : Option FieldType} {post : Option Nat → S → Prop} {Wd : S → va_W} (F : CallFix p m c cc nL s args Ts own) (hM : gM l D tys y wds rm (.ref b :: av) wc (gQo D tys post Wd) mc ms) (cw : CallW R s args own C index y bytes maxL ret wds rm mc ms n) (hB : gB D tys A s H locs (wr ++ wc)) (he : wc[q0]? = some (b, .inr (ci, fs))) (hc : vwCl[ci]? = some q9) (hC : q9.1 = C) (hn : av.length = n) (hls : ls.size = nL) (hst : st0 = av.reverse ++ .ref b :: rest) (hW : (rest.map fun v => v.category).sum ≤ 8) (hdg : decode cc pc = .ok (.invokevirtual index, 3)) (hf : cells + mc ≤ R.cells ∧ slots + ms ≤ R.slots)
    (kk : ∀ (r : Option Nat) (u : S) (H1 : Heap) (locs1 : List Loc), post r u → gB D tys A s H1 locs1 (wr ++ Wd u) → W p l e R s m args below meth c H1 locs1 (cells + mc) (slots + ms) Q (F0 m (pc + 3) ls (va_rf r :: rest))) : W p l e R s m args below meth c H locs cells slots Q (F0 m pc ls st0) := by
  subst hC
  have hB2 := hB.right
  have hr := va_runV (e := e) (meth := meth) (below := below) (locs := locs) (As := av) (rest := rest) (g := F0 m pc ls st0) F (hM H.size) cw ⟨gPre_blind, va_recv hB2.1 hB2.2.1 (ci := ci) (q0 := q0) hc he, fun U hU hW => hB2.pre _ U hU hW⟩ rfl hn hls hst (lv_room hW) hdg hf
  intro T hT X
  obtain ⟨v, st₀, t, T', L, h0, X', hL, e1, e2, ⟨⟨r, u, hv, hp, hb⟩, hz, hk⟩, st⟩ := hr T hT X
  cases hv
  rw [h0] at hz hk
  have hS := hB2.2.2.2.1
  have hS1 : va_S A s.heap T'.heap (locs ++ L) := by
    refine ⟨Nat.le_trans hS.1 (by rw [e1]; exact hz), fun q h1 h2 => ?_, fun q hq => ?_⟩
    · rw [e1, hk q (Nat.lt_of_lt_of_le h1 hS.1) (fun z => h2 (hB2.in q z))]
      exact hS.2.1 q h1 h2
    · exact (List.mem_append.mp hq).elim (hS.2.2 q) (fun h => hB2.in _ (hL q h))
  obtain ⟨t2, a1, b1⟩ := kk r u T'.heap (locs ++ L) hp (hB.back hb e1.symm hS1 (fun q h1 h2 => by rw [e1]; exact hk q h1 h2)) T' rfl X'
  exact ⟨t2, st t2 a1, b1⟩
theorem g_aret {S : Type} {post : Option Nat → S → Prop} {Wd : S → va_W} {r : Option Nat} {N : String} (u : S) (hB : gB D tys A s H locs ws) (hx : p.tables.exec = Jvm.exec) (hb : c.code = cc) (hr : meth.sig.returnType = some (.object N)) (hlocks : meth.locks = false) (he : Wd u = ws) (hp : post r u) (hdg : decode cc pc = .ok (.areturn, 1)) : W p l e R s m args below meth c H locs cells slots (MQ below (gQo D tys post Wd A) args s cells slots A) (F0 m pc ls [va_rf r]) := by
  subst he
  obtain ⟨hK, hP, hD, hS, hA⟩ := hB
  exact W.aret (v := va_rf r) hx hb hr (Or.inl ⟨N, rfl⟩) (by cases r with | none => exact Or.inl rfl | some a => exact Or.inr ⟨a, rfl⟩) (fun t ht hW => ⟨⟨r, u, rfl, hp, by rw [ht]; exact hP, va_K.moved hW.alike hK, hD⟩, hS.F ht⟩) hS.2.2 hdg hlocks
/-- a field of a nest mate's object -/
theorem g_getN (hx : p.tables.exec = Jvm.exec) (hb : c.code = cc) {own C host : String} {T : u_T} {N ci index : Nat} {Ts : List Cond} (hts : ∀ w ∈ Ts, w.before args s = true) (hin : ∀ w ∈ u_ws C T N, w ∈ Ts) (hown : s.vm.findClass own = some m.cls) (hB : gB D tys A s H locs ws) (q0 : Nat) {a : Nat} {fs : List Value} (he : ws[q0]? = some (a, .inr (ci, fs))) (hc : vwCl[ci]? = some (C, T, N)) (k : Nat) (hk : k < N) (hlink : (Cond.fieldLinkNest own index C (T k).2.1 (T k).2.2.1 host).before args s = true) (hT : (T k).1 = C) {v : Value} (hv : fs[k]? = some v) (hdg : decode cc pc = .ok (.getfield index, 3)) (kk : W p l e R s m args below meth c H locs cells slots Q (F0 m (pc + 3) ls (v :: rest))) : W p l e R s m args below meth c H locs cells slots Q (F0 m pc ls (.ref a :: rest)) :=
  va_getN (D := D) (ci := ci) (C := C) (T := T) (N := N) hx hb hts hin hown hB.1 hB.2.1 q0 he hc k hk hlink (fun _ h => by rw [← hT]; exact h) hv hdg kk
/-- a place of an array of cells -/
theorem g_aldq (hx : p.tables.exec = Jvm.exec) (hb : c.code = cc) (hB : gB D tys A s H locs ws) (q0 t0 : Nat) {a n : Nat} {cA : ClassId} {C : String} {f : Nat → Option Nat} (ha : ws[q0]? = some (a, .inl (cA, n, .inr (.inr (.inr (.inr f)))))) (ht : tys[t0]? = some (cA, .object C)) {i : Int32} (j : Nat) (hi : i = nI j) (hj : j < n) (hn : n < 2 ^ 31) {r : Option Nat} (hr : f j = r) (hdg : decode cc pc = .ok (.aaload, 1)) (kk : W p l e R s m args below meth c H locs cells slots Q (F0 m (pc + 1) ls (va_rf r :: rest))) : W p l e R s m args below meth c H locs cells slots Q (F0 m pc ls (.int i :: .ref a :: rest)) := by
  subst hi
  subst hr
  refine va_aldq hx hb hB.1 hB.2.1 q0 t0 ha ht (vp_in_nI hj hn) hdg ?_
  rw [nI_clamp (by omega)]
  exact kk
theorem g_astq (hx : p.tables.exec = Jvm.exec) (hb : c.code = cc) (ws2 : va_W) (hB : gB D tys A s H locs ws) (q0 t0 qk ci : Nat) {a n v : Nat} {cA : ClassId} {q9 : vw_C} {vs : List Value} {f g : Nat → Option Nat} (ha : ws[q0]? = some (a, .inl (cA, n, .inr (.inr (.inr (.inr f)))))) (ht : tys[t0]? = some (cA, .object q9.1)) (hv : ws[qk]? = some (v, .inr (ci, vs))) (hc : vwCl[ci]? = some q9) {i : Int32} (j : Nat) (hi : i = nI j) (hj : j < n) (hn : n < 2 ^ 31) (hg : va_up f j (some v) = g) (he : ws.set q0 (a, .inl (cA, n, .inr (.inr (.inr (.inr g))))) = ws2) (hdg : decode cc pc = .ok (.aastore, 1)) (kk : ∀ (H1 : Heap) (locs1 : List Loc), gB D tys A s H1 locs1 ws2 → W p l e R s m args below meth c H1 locs1 cells slots Q (F0 m (pc + 1) ls rest)) : W p l e R s m args below meth c H locs cells slots Q (F0 m pc ls (.ref v :: .int i :: .ref a :: rest)) := by
  subst hi
  subst hg
  obtain ⟨hK, hP, hD, hS, hA⟩ := hB
  refine va_astq hx hb hK hP hD hS q0 t0 qk ci ha ht hv hc (vp_in_nI hj hn) hdg (fun H1 locs1 hP hD hS => kk H1 locs1 ?_)
  rw [nI_clamp (by omega), he] at hP hD
  exact ⟨hK, hP, hD, hS, hA⟩
end GD
theorem isB_app {a b : List Int32} (ha : ∀ x ∈ a, isB x) (hb : ∀ x ∈ b, isB x) : ∀ x ∈ a ++ b, isB x := fun x h => (List.mem_append.mp h).elim (ha x) (hb x)
theorem isB_set {a : List Int32} (ha : ∀ x ∈ a, isB x) {k : Nat} {v : Int32} (hv : isB v) : ∀ x ∈ a.set k v, isB x := fun x h => (List.mem_or_eq_of_mem_set h).elim (ha x) (fun e => by rw [e]; exact hv)
theorem bN_B (v : Int32) (n : Nat) : ∀ x ∈ bN v n, isB x := by
  induction n with
  | zero => intro x hx; rw [bN] at hx; exact absurd hx List.not_mem_nil
  | succ n ih => rw [bN]; exact isB_app ih (fun x h => by rw [List.mem_singleton.mp h]; exact isB_and _)
theorem get_in {bl : List Int32} (hB : ∀ x ∈ bl, isB x) {k : Nat} (hk : k < bl.length) (hl : bl.length < 2 ^ 30) : (if nI k < 0 ∨ nI bl.length ≤ nI k then -1 else bl.getD (nI k).toNatClampNeg 0) = nI (bq bl k) := by
  rw [if_neg (by rintro (z | z); exact nI_pos (by omega) z; exact absurd ((nI_leI (by omega) (by omega)).mp z) (by omega)), nI_clamp (by omega)]
  exact (bq_at hB hk).1
/-- the bytes as numbers -/
def rdN (bl : List Int32) : List Nat := bl.map Int32.toNatClampNeg
theorem rdN_len (bl : List Int32) : (rdN bl).length = bl.length := List.length_map _
theorem rdN_get (bl : List Int32) (j : Nat) : (rdN bl).getD j 0 = bq bl j := by
  unfold rdN bq
  rw [List.getD_eq_getElem?_getD, List.getD_eq_getElem?_getD, List.getElem?_map]
  cases bl[j]? <;> rfl
