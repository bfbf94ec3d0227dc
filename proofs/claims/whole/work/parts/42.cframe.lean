/-! FOOTPRINTS IN PARTS: cells in another order; a call on the last cells of a footprint. My own. -/
theorem va_P_mem {D : va_G} {cl : List vw_C} {ws : va_W} {H : Heap} : va_P D cl ws H ↔ ∀ q ∈ ws, va_at D cl q H := by
  constructor
  · intro h q hq
    obtain ⟨k, hk⟩ := List.getElem?_of_mem hq
    exact h k q hk
  · intro h k q hk
    exact h q (List.mem_of_getElem? hk)
theorem va_D_cons {A : Nat → Prop} {x : Nat × va_E} {ws : va_W} : va_D A (x :: ws) ↔ A x.1 ∧ (∀ q ∈ ws, q.1 ≠ x.1) ∧ va_D A ws := by
  constructor
  · intro h
    refine ⟨h.2 0 x rfl, fun q hq e => ?_, fun i j p q hi hj e => ?_, fun k q hk => h.2 (k + 1) q hk⟩
    · obtain ⟨k, hk⟩ := List.getElem?_of_mem hq
      exact absurd (h.1 (k + 1) 0 q x hk rfl e) (Nat.succ_ne_zero k)
    · exact Nat.succ.inj (h.1 (i + 1) (j + 1) p q hi hj e)
  · rintro ⟨h1, h2, h3⟩
    refine ⟨fun i j p q hi hj e => ?_, fun k q hk => ?_⟩
    · cases i with
      | zero =>
        cases j with
        | zero => rfl
        | succ j => cases hi; exact absurd e.symm (h2 q (List.mem_of_getElem? hj))
      | succ i =>
        cases j with
        | zero => cases hj; exact absurd e (h2 p (List.mem_of_getElem? hi))
        | succ j => rw [h3.1 i j p q hi hj e]
    · cases k with
      | zero => cases hk; exact h1
      | succ k => exact h3.2 k q hk
theorem va_D_perm {A : Nat → Prop} {ws ws2 : va_W} (hp : ws.Perm ws2) : va_D A ws → va_D A ws2 := by
  induction hp with
  | nil => exact id
  | cons x h ih =>
    intro hd
    obtain ⟨h1, h2, h3⟩ := va_D_cons.mp hd
    exact va_D_cons.mpr ⟨h1, fun q hq => h2 q (h.mem_iff.mpr hq), ih h3⟩
  | swap x y l =>
    intro hd
    obtain ⟨h1, h2, h3⟩ := va_D_cons.mp hd
    obtain ⟨h4, h5, h6⟩ := va_D_cons.mp h3
    refine va_D_cons.mpr ⟨h4, fun q hq => ?_, va_D_cons.mpr ⟨h1, fun q hq => h2 q (List.mem_cons_of_mem _ hq), h6⟩⟩
    rcases List.mem_cons.mp hq with h | h
    · rw [h]; exact fun e => h2 x List.mem_cons_self e.symm
    · exact h5 q h
  | trans _ _ i1 i2 => exact fun h => i2 (i1 h)
section GC
variable {p : Program} {l : Launch} {e : Env} {R : Room} {s : State} {m : MethodId} {args : Array Value} {below : List Frame} {meth : Method} {c : Code} {H : Heap} {locs : List Loc} {cells slots : Nat} {Q : State → Prop}
variable {cc : ByteArray} {pc : Nat} {ls : Array Slot} {rest st0 : List Value} {D : va_G} {A : Nat → Prop} {tys : List (ClassId × FieldType)} {ws ws2 wr wc : va_W}
theorem gB.perm (hB : gB D tys A s H locs ws) (hp : ws.Perm ws2) : gB D tys A s H locs ws2 := by
  obtain ⟨hK, hP, hD, hS, hA⟩ := hB
  exact ⟨hK, va_P_mem.mpr (fun q hq => va_P_mem.mp hP q (hp.mem_iff.mpr hq)), va_D_perm hp hD, hS, hA⟩
/-- some of the cells, in another order, by their places -/
theorem gB.order (hB : gB D tys A s H locs ws) (is : List Nat) (hn : va_nd is = true) (hs : is.map (fun i => ws[i]?) = ws2.map some) (hs2 : is.filterMap (fun i => ws[i]?) = ws2) : gB D tys A s H locs ws2 := by
  obtain ⟨hK, hP, hD, hS, hA⟩ := hB
  exact ⟨hK, hP.sub is hs2, hD.sub is hn hs, hS, hA⟩
theorem gB.right (hB : gB D tys A s H locs (wr ++ wc)) : gB D tys A s H locs wc := by
  obtain ⟨hK, hP, hD, hS, hA⟩ := hB
  refine ⟨hK, va_P_mem.mpr (fun q hq => va_P_mem.mp hP q (List.mem_append_right _ hq)), ?_, hS, hA⟩
  induction wr with
  | nil => exact hD
  | cons x wr ih => exact ih (va_P_mem.mpr (fun q hq => va_P_mem.mp hP q (List.mem_cons_of_mem _ hq))) (va_D_cons.mp hD).2.2
theorem gB.left (hB : gB D tys A s H locs (wr ++ wc)) : gB D tys A s H locs wr := (hB.perm List.perm_append_comm).right
/-- behind a call on wc: the rest is as it was -/
theorem gB.back {w1 : va_W} {t : State} {H1 : Heap} {locs1 : List Loc} (hB : gB D tys A s H locs (wr ++ wc)) (hb : gAt D tys (va_A wc H.size) w1 t) (ht : t.heap = H1) (hS1 : va_S A s.heap H1 locs1) (hk : ∀ q : Nat, q < H.size → ¬ va_A wc H.size q → H1[q]? = H[q]?) : gB D tys A s H1 locs1 (wr ++ w1) := by
  have h1 : gB D tys A s H1 locs1 w1 := hB.right.post hb ht hS1
  obtain ⟨hK, hP, hD, hS, hA⟩ := hB
  have apart : ∀ q ∈ wr, ¬ va_A wc H.size q.1 := by
    intro q hq h
    rcases h with ⟨k, x, h⟩ | h
    · have hm : (q.1, x) ∈ wc := List.mem_of_getElem? h
      obtain ⟨i, hi⟩ := List.getElem?_of_mem hq
      have hil := (List.getElem?_eq_some_iff.mp hi).1
      obtain ⟨j, hj⟩ := List.getElem?_of_mem hm
      have e1 := hD.1 i (wr.length + j) q (q.1, x) (by rw [List.getElem?_append_left hil]; exact hi) (by rw [List.getElem?_append_right (by omega), Nat.add_sub_cancel_left]; exact hj) rfl
      omega
    · have := (va_P_mem.mp hP q (List.mem_append_left _ hq)).lt
      omega
  refine ⟨hK, va_P_mem.mpr (fun q hq => ?_), ?_, hS1, hA⟩
  · rcases List.mem_append.mp hq with h | h
    · exact (va_P_mem.mp hP q (List.mem_append_left _ h)).kept (hk q.1 (va_P_mem.mp hP q (List.mem_append_left _ h)).lt (apart q h))
    · exact va_P_mem.mp h1.2.1 q h
  · refine va_D.app ?_ h1.2.2.1 (fun i j x y hx hy e => ?_)
    · exact (gB.left (wc := wc) ⟨hK, hP, hD, hS, hA⟩).2.2.1
    · exact apart x (List.mem_of_getElem? hx) (by rw [e]; exact hb.2.2.2 j y hy)
theorem g_calliA {S : Type} {y : MethodName} {bytes : ByteArray} {wds Ts : List Cond} {rm : Room} {av : List Value} {b : Nat} {own C : String} {index maxL nL n mc ms q0 ci : Nat} {q9 : vw_C} {fs : List Value} {ret : Option FieldType} {post : Int32 → S → Prop} {Wd : S → va_W} (F : CallFix p m c cc nL s args Ts own) (hM : gM l D tys y wds rm (.ref b :: av) wc (gQi D tys post Wd) mc ms) (cw : CallW R s args own C index y bytes maxL ret wds rm mc ms n) (hB : gB D tys A s H locs (wr ++ wc)) (he : wc[q0]? = some (b, .inr (ci, fs))) (hc : vwCl[ci]? = some q9) (hC : q9.1 = C) (hn : av.length = n) (hls : ls.size = nL) (hst : st0 = av.reverse ++ .ref b :: rest) (hW : (rest.map fun v => v.category).sum ≤ 8) (hdg : decode cc pc = .ok (.invokevirtual index, 3)) (hf : cells + mc ≤ R.cells ∧ slots + ms ≤ R.slots)
    (kk : ∀ (r : Int32) (u : S) (H1 : Heap) (locs1 : List Loc), post r u → gB D tys A s H1 locs1 (wr ++ Wd u) → W p l e R s m args below meth c H1 locs1 (cells + mc) (slots + ms) Q (F0 m (pc + 3) ls (.int r :: rest))) : W p l e R s m args below meth c H locs cells slots Q (F0 m pc ls st0) := by
  subst hC
  have hB2 := hB.right
  exact va_calli (va_runV (As := av) (rest := rest) F (hM H.size) cw ⟨gPre_blind, va_recv hB2.1 hB2.2.1 (ci := ci) (q0 := q0) hc he, fun U hU hW => hB2.pre _ U hU hW⟩ rfl hn hls hst (lv_room hW) hdg hf) hB2.2.2.2.1 (fun q _ h => hB2.in q h) hB2.in (fun r u t H1 locs1 ht hvm hw hb hz1 hk1 hS1 => kk r u H1 locs1 hw (hB.back hb ht hS1 hk1))
theorem g_callvA {S : Type} {y : MethodName} {bytes : ByteArray} {wds Ts : List Cond} {rm : Room} {av : List Value} {b : Nat} {own C : String} {index maxL nL n mc ms q0 ci : Nat} {q9 : vw_C} {fs : List Value} {ret : Option FieldType} {post : S → Prop} {Wd : S → va_W} (F : CallFix p m c cc nL s args Ts own) (hM : gM l D tys y wds rm (.ref b :: av) wc (gQv D tys post Wd) mc ms) (cw : CallW R s args own C index y bytes maxL ret wds rm mc ms n) (hB : gB D tys A s H locs (wr ++ wc)) (he : wc[q0]? = some (b, .inr (ci, fs))) (hc : vwCl[ci]? = some q9) (hC : q9.1 = C) (hn : av.length = n) (hls : ls.size = nL) (hst : st0 = av.reverse ++ .ref b :: rest) (hW : (rest.map fun v => v.category).sum ≤ 8) (hdg : decode cc pc = .ok (.invokevirtual index, 3)) (hf : cells + mc ≤ R.cells ∧ slots + ms ≤ R.slots)
    (kk : ∀ (u : S) (H1 : Heap) (locs1 : List Loc), post u → gB D tys A s H1 locs1 (wr ++ Wd u) → W p l e R s m args below meth c H1 locs1 (cells + mc) (slots + ms) Q (F0 m (pc + 3) ls rest)) : W p l e R s m args below meth c H locs cells slots Q (F0 m pc ls st0) := by
  subst hC
  have hB2 := hB.right
  exact va_callv (va_runV (As := av) (rest := rest) F (hM H.size) cw ⟨gPre_blind, va_recv hB2.1 hB2.2.1 (ci := ci) (q0 := q0) hc he, fun U hU hW => hB2.pre _ U hU hW⟩ rfl hn hls hst (lv_room hW) hdg hf) hB2.2.2.2.1 (fun q _ h => hB2.in q h) hB2.in (fun u t H1 locs1 ht hvm hw hb hz1 hk1 hS1 => kk u H1 locs1 hw (hB.back hb ht hS1 hk1))
/-- a field of an object -/
theorem g_get (hx : p.tables.exec = Jvm.exec) (hb : c.code = cc) {own C : String} {T : u_T} {N ci index : Nat} {Ts : List Cond} (hts : ∀ w ∈ Ts, w.before args s = true) (hin : ∀ w ∈ u_ws C T N, w ∈ Ts) (hown : s.vm.findClass own = some m.cls) (hB : gB D tys A s H locs ws) (q0 : Nat) {a : Nat} {fs : List Value} (he : ws[q0]? = some (a, .inr (ci, fs))) (hc : vwCl[ci]? = some (C, T, N)) (k : Nat) (hk : k < N) (hlink : (Cond.fieldLink own index C (T k).2.1 (T k).2.2.1).before args s = true) (hT : (T k).1 = C) {v : Value} (hv : fs[k]? = some v) (hdg : decode cc pc = .ok (.getfield index, 3)) (kk : W p l e R s m args below meth c H locs cells slots Q (F0 m (pc + 3) ls (v :: rest))) : W p l e R s m args below meth c H locs cells slots Q (F0 m pc ls (.ref a :: rest)) :=
  va_get (D := D) (ci := ci) (C := C) (T := T) (N := N) hx hb hts hin hown hB.1 hB.2.1 q0 he hc k hk hlink (fun _ h => by rw [← hT]; exact h) hv hdg kk
/-- a place of an array of ints -/
theorem g_ald (hx : p.tables.exec = Jvm.exec) (hb : c.code = cc) (hB : gB D tys A s H locs ws) (q0 t0 : Nat) {a n : Nat} {cI : ClassId} {f : Nat → Int32} (ha : ws[q0]? = some (a, .inl (cI, n, .inl f))) (ht : tys[t0]? = some (cI, .int)) {i : Int32} (j : Nat) (hi : i = nI j) (hj : j < n) (hn : n < 2 ^ 31) (hdg : decode cc pc = .ok (.iaload, 1)) (kk : W p l e R s m args below meth c H locs cells slots Q (F0 m (pc + 1) ls (.int (f j) :: rest))) : W p l e R s m args below meth c H locs cells slots Q (F0 m pc ls (.int i :: .ref a :: rest)) := by
  subst hi
  refine va_iald hx hb hB.1 hB.2.1 q0 t0 ha ht (vp_in_nI hj hn) hdg ?_
  rw [nI_clamp (by omega)]
  exact kk
theorem g_ast (hx : p.tables.exec = Jvm.exec) (hb : c.code = cc) (ws2 : va_W) (hB : gB D tys A s H locs ws) (q0 t0 : Nat) {a n : Nat} {cI : ClassId} {f : Nat → Int32} (ha : ws[q0]? = some (a, .inl (cI, n, .inl f))) (ht : tys[t0]? = some (cI, .int)) {i x : Int32} (j : Nat) (hi : i = nI j) (hj : j < n) (hn : n < 2 ^ 31) (he : ws.set q0 (a, .inl (cI, n, .inl (upd f j x))) = ws2) (hdg : decode cc pc = .ok (.iastore, 1)) (kk : ∀ (H1 : Heap) (locs1 : List Loc), gB D tys A s H1 locs1 ws2 → W p l e R s m args below meth c H1 locs1 cells slots Q (F0 m (pc + 1) ls rest)) : W p l e R s m args below meth c H locs cells slots Q (F0 m pc ls (.int x :: .int i :: .ref a :: rest)) := by
  subst hi
  obtain ⟨hK, hP, hD, hS, hA⟩ := hB
  refine va_iast hx hb hK hP hD hS q0 t0 ha ht (vp_in_nI hj hn) hdg (fun H1 locs1 hP hD hS => kk H1 locs1 ?_)
  rw [nI_clamp (by omega), he] at hP hD
  exact ⟨hK, hP, hD, hS, hA⟩
theorem g_alen (hx : p.tables.exec = Jvm.exec) (hb : c.code = cc) (hB : gB D tys A s H locs ws) (q0 t0 : Nat) {a n : Nat} {cI : ClassId} {f : Nat → Int32} (ha : ws[q0]? = some (a, .inl (cI, n, .inl f))) (ht : tys[t0]? = some (cI, .int)) (hdg : decode cc pc = .ok (.arraylength, 1)) (kk : W p l e R s m args below meth c H locs cells slots Q (F0 m (pc + 1) ls (.int (nI n) :: rest))) : W p l e R s m args below meth c H locs cells slots Q (F0 m pc ls (.ref a :: rest)) :=
  va_alen hx hb hB.1 hB.2.1 q0 t0 ha ht rfl hdg kk
end GC
