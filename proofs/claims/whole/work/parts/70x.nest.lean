/-! CONTRACTS OF METHODS THAT READ A NEST MATE'S FIELDS: such words stand in the state before them -/
def nsW (ns : List Cond) : Prop := ∀ w ∈ ns, ∃ (a : String) (i : Nat) (b n d h : String), w = Cond.fieldLinkNest a i b n d h
def gPreN (ns : List Cond) (D : va_G) (tys : List (ClassId × FieldType)) (av : List Value) (ws : va_W) (sz : Nat) : Array Value → State → Prop := va_Pc av (fun U => (U.heap.size = sz ∧ va_P D vwCl ws U.heap ∧ va_K D vwCl tys U ∧ va_D (fun _ => True) ws) ∧ ∀ w ∈ ns, va_Nw w U)
def gMn (l : Launch) (ns : List Cond) (D : va_G) (tys : List (ClassId × FieldType)) (y : MethodName) (wds : List Cond) (rm : Room) (av : List Value) (ws : va_W) (Qb : (Nat → Prop) → Array Value → State → Outcome → State → Prop) (mc ms : Nat) : Prop := ∀ sz : Nat, Met l y wds rm (gPreN ns D tys av ws sz) (Qb (va_A ws sz)) mc ms (va_A ws sz)
section GNE
variable {p : Program} {l : Launch} {e : Env} {R : Room} {s : State} {m : MethodId} {args : Array Value} {below : List Frame} {meth : Method} {c : Code} {H : Heap} {locs : List Loc} {cells slots : Nat} {Q : State → Prop}
variable {cc : ByteArray} {pc : Nat} {ls : Array Slot} {rest st0 : List Value} {D : va_G} {A : Nat → Prop} {tys : List (ClassId × FieldType)} {ws wr wc : va_W} {ns : List Cond}
theorem gMn.of (hns : nsW ns) {y : MethodName} {wds wds' : List Cond} {rm : Room} {av : List Value} {Qb : (Nat → Prop) → Array Value → State → Outcome → State → Prop} {mc ms maxL : Nat} {ret : Option FieldType} (hy : plainName y.cls = true) (hw : wds = Cond.code y cc maxL ret :: wds') (hn : (lg_sl av).length ≤ maxL)
    (K : ∀ (p : Program) (e : Env) (s : State) (m : MethodId) (below : List Frame) (meth : Method) (c : Code) (A : Nat → Prop) (ls : Array Slot), p.tables.exec = Jvm.exec → c.code = cc → meth.sig.returnType = ret → c.maxLocals = maxL → s.vm.findClass y.cls = some m.cls → (∀ w ∈ wds, w.before av.toArray s = true) → meth.locks = false → meth.name = y.name → (∀ w ∈ ns, w.before av.toArray s = true) → gB D tys A s s.heap [] ws → lv_has ls maxL (lv_args 0 av) → W p l e rm s m av.toArray below meth c s.heap [] 0 0 (MQ below (Qb A) av.toArray s mc ms A) (F0 m 0 ls [])) : gMn l ns D tys y wds rm av ws Qb mc ms := by
  intro sz
  refine Met.ofW (cc := cc) (maxL := maxL) (ret := ret) hy hw ?_
  intro p e s m args below meth c s₁ B hml hv
  obtain ⟨rfl, ⟨hsz, hP, hK, hD0⟩, hN⟩ := hv
  subst hsz
  have hl := lv_entry av (n := maxL) hn
  rw [lg_entry_eq]
  refine K p e s m below meth c _ _ B.exec B.bytes B.returns hml (findClass_of_methodNamed B.named) (atoms_spec (ws := wds) B.pre) B.notSynchronized (name_of_methodNamed B.named B.method).1 (fun w h => ?_) ⟨hK, hP, hD0.self (sz := s.heap.size), va_S.rf, fun q h => Or.inr h⟩ hl
  have h1 := hN w h
  obtain ⟨a, i, b, n, d, g, rfl⟩ := hns w h
  exact va_Nw.use rfl h1
theorem gPreN_blind (hns : nsW ns) {av : List Value} {sz : Nat} : FrameBlind (gPreN ns D tys av ws sz) := fun a U g mk q => by
  obtain ⟨q0, ⟨q1, qP, qK, qD⟩, hN⟩ := q
  refine ⟨q0, ⟨q1, qP, va_K.moved (u := U) (U := U.calling g mk a) (Vm.Alike.refl U.vm) qK, qD⟩, fun w h => ?_⟩
  have h1 := hN w h
  obtain ⟨a, i, b, n, d, g, rfl⟩ := hns w h
  exact va_Nw.same rfl rfl h1
theorem gB.preN (hns : nsW ns) (hN : ∀ w ∈ ns, w.before args s = true) (hB : gB D tys A s H locs ws) (av : List Value) (U : State) (hU : U.heap = H) (hW : s.WarmedH U.vm) : gPreN ns D tys av ws H.size av.toArray U := by
  have h0 := hB.pre av U hU hW
  refine ⟨h0.1, h0.2, fun w h => ?_⟩
  have h1 := hN w h
  obtain ⟨a, i, b, n, d, g, rfl⟩ := hns w h
  exact va_Nw.warmF hW (va_Nw.of rfl h1)
theorem g_calliN {S : Type} {y : MethodName} {bytes : ByteArray} {wds Ts : List Cond} {rm : Room} {av : List Value} {b : Nat} {own C : String} {index maxL nL n mc ms q0 ci : Nat} {q9 : vw_C} {fs : List Value} {ret : Option FieldType} {post : Int32 → S → Prop} {Wd : S → va_W} (hns : nsW ns) (hN : ∀ w ∈ ns, w.before args s = true) (F : CallFix p m c cc nL s args Ts own) (hM : gMn l ns D tys y wds rm (.ref b :: av) wc (gQi D tys post Wd) mc ms) (cw : CallW R s args own C index y bytes maxL ret wds rm mc ms n) (hB : gB D tys A s H locs (wr ++ wc)) (he : wc[q0]? = some (b, .inr (ci, fs))) (hc : vwCl[ci]? = some q9) (hC : q9.1 = C) (hn : av.length = n) (hls : ls.size = nL) (hst : st0 = av.reverse ++ .ref b :: rest) (hW : (rest.map fun v => v.category).sum ≤ 8) (hdg : decode cc pc = .ok (.invokevirtual index, 3)) (hf : cells + mc ≤ R.cells ∧ slots + ms ≤ R.slots)
    (kk : ∀ (r : Int32) (u : S) (H1 : Heap) (locs1 : List Loc), post r u → gB D tys A s H1 locs1 (wr ++ Wd u) → W p l e R s m args below meth c H1 locs1 (cells + mc) (slots + ms) Q (F0 m (pc + 3) ls (.int r :: rest))) : W p l e R s m args below meth c H locs cells slots Q (F0 m pc ls st0) := by
  subst hC
  have hB2 := hB.right
  exact va_calli (va_runV (As := av) (rest := rest) F (hM H.size) cw ⟨gPreN_blind hns, va_recv hB2.1 hB2.2.1 (ci := ci) (q0 := q0) hc he, fun U hU hW => hB2.preN hns hN _ U hU hW⟩ rfl hn hls hst (lv_room hW) hdg hf) hB2.2.2.2.1 (fun q _ h => hB2.in q h) hB2.in (fun r u t H1 locs1 ht hvm hw hb hz1 hk1 hS1 => kk r u H1 locs1 hw (hB.back hb ht hS1 hk1))
theorem g_callvN {S : Type} {y : MethodName} {bytes : ByteArray} {wds Ts : List Cond} {rm : Room} {av : List Value} {b : Nat} {own C : String} {index maxL nL n mc ms q0 ci : Nat} {q9 : vw_C} {fs : List Value} {ret : Option FieldType} {post : S → Prop} {Wd : S → va_W} (hns : nsW ns) (hN : ∀ w ∈ ns, w.before args s = true) (F : CallFix p m c cc nL s args Ts own) (hM : gMn l ns D tys y wds rm (.ref b :: av) wc (gQv D tys post Wd) mc ms) (cw : CallW R s args own C index y bytes maxL ret wds rm mc ms n) (hB : gB D tys A s H locs (wr ++ wc)) (he : wc[q0]? = some (b, .inr (ci, fs))) (hc : vwCl[ci]? = some q9) (hC : q9.1 = C) (hn : av.length = n) (hls : ls.size = nL) (hst : st0 = av.reverse ++ .ref b :: rest) (hW : (rest.map fun v => v.category).sum ≤ 8) (hdg : decode cc pc = .ok (.invokevirtual index, 3)) (hf : cells + mc ≤ R.cells ∧ slots + ms ≤ R.slots)
    (kk : ∀ (u : S) (H1 : Heap) (locs1 : List Loc), post u → gB D tys A s H1 locs1 (wr ++ Wd u) → W p l e R s m args below meth c H1 locs1 (cells + mc) (slots + ms) Q (F0 m (pc + 3) ls rest)) : W p l e R s m args below meth c H locs cells slots Q (F0 m pc ls st0) := by
  subst hC
  have hB2 := hB.right
  exact va_callv (va_runV (As := av) (rest := rest) F (hM H.size) cw ⟨gPreN_blind hns, va_recv hB2.1 hB2.2.1 (ci := ci) (q0 := q0) hc he, fun U hU hW => hB2.preN hns hN _ U hU hW⟩ rfl hn hls hst (lv_room hW) hdg hf) hB2.2.2.2.1 (fun q _ h => hB2.in q h) hB2.in (fun u t H1 locs1 ht hvm hw hb hz1 hk1 hS1 => kk u H1 locs1 hw (hB.back hb ht hS1 hk1))
end GNE
theorem nsW_of (l : List (Nat × String × String × String)) : nsW (l.map (fun q => Cond.fieldLinkNest RX11 q.1 q.2.1 q.2.2.1 q.2.2.2 "PointReports")) := fun w h => by
  obtain ⟨q, -, rfl⟩ := List.mem_map.mp h
  exact ⟨_, _, _, _, _, _, rfl⟩
abbrev nsD : List Cond := ([(156, "PointReports$Frame", "goesTo", "I"), (163, "PointReports$Receiver", "fragment", "LPointReports$Bytes;")] : List (Nat × String × String × String)).map (fun q => Cond.fieldLinkNest RX11 q.1 q.2.1 q.2.2.1 q.2.2.2 "PointReports")
abbrev nsC : List Cond := ([(120, "PointReports$Station", "now", "I"), (124, "PointReports$Master", "eventsTaken", "I"), (127, "PointReports$Master", "eventsAgain", "I"), (130, "PointReports$Receiver", "framesDropped", "I"), (133, "PointReports$Master", "fragmentsDropped", "I"), (136, "PointReports$Station", "fragmentsDropped", "I"), (137, "PointReports$Master", "readings", "I"), (140, "PointReports$Station", "reportsMade", "I"), (143, "PointReports$Station", "eventsLost", "I"), (146, "PointReports$Master", "classesLeft", "I"), (149, "PointReports$Master", "lostSeen", "I"), (152, "PointReports$Station", "waitsFor", "I")] : List (Nat × String × String × String)).map (fun q => Cond.fieldLinkNest RX11 q.1 q.2.1 q.2.2.1 q.2.2.2 "PointReports")
