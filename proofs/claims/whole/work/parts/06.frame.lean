/-! THE FRAME: a footprint ws (a list of cells), one bundle gB for all that is known of it, contracts gM over footprints, rows for calls and returns. My own. -/
/-- all that a walk knows of its cells: the tables, the cells, that they are apart, that nothing else changed, that new ones may be made -/
def gB (D : va_G) (tys : List (ClassId × FieldType)) (A : Nat → Prop) (s : State) (H : Heap) (locs : List Loc) (ws : va_W) : Prop := va_K D vwCl tys s ∧ va_P D vwCl ws H ∧ va_D A ws ∧ va_S A s.heap H locs ∧ ∀ q : Nat, s.heap.size ≤ q → A q
def gPre (D : va_G) (tys : List (ClassId × FieldType)) (av : List Value) (ws : va_W) (sz : Nat) : Array Value → State → Prop := va_Pc av (fun U => U.heap.size = sz ∧ va_P D vwCl ws U.heap ∧ va_K D vwCl tys U ∧ va_D (fun _ => True) ws)
def gAt (D : va_G) (tys : List (ClassId × FieldType)) (A : Nat → Prop) (ws : va_W) (t : State) : Prop := va_P D vwCl ws t.heap ∧ va_K D vwCl tys t ∧ va_D A ws
/-- a contract over the footprint ws -/
def gM (l : Launch) (D : va_G) (tys : List (ClassId × FieldType)) (y : MethodName) (wds : List Cond) (rm : Room) (av : List Value) (ws : va_W) (Qb : (Nat → Prop) → Array Value → State → Outcome → State → Prop) (mc ms : Nat) : Prop := ∀ sz : Nat, Met l y wds rm (gPre D tys av ws sz) (Qb (va_A ws sz)) mc ms (va_A ws sz)
def gQi {S : Type} (D : va_G) (tys : List (ClassId × FieldType)) (post : Int32 → S → Prop) (Wd : S → va_W) : (Nat → Prop) → Array Value → State → Outcome → State → Prop := fun A => va_Qi post (fun u t => gAt D tys A (Wd u) t) A
def gQl {S : Type} (D : va_G) (tys : List (ClassId × FieldType)) (post : Int64 → S → Prop) (Wd : S → va_W) : (Nat → Prop) → Array Value → State → Outcome → State → Prop := fun A => va_Ql post (fun u t => gAt D tys A (Wd u) t) A
def gQv {S : Type} (D : va_G) (tys : List (ClassId × FieldType)) (post : S → Prop) (Wd : S → va_W) : (Nat → Prop) → Array Value → State → Outcome → State → Prop := fun A => va_Qv post (fun u t => gAt D tys A (Wd u) t) A
def gQr {S : Type} (D : va_G) (tys : List (ClassId × FieldType)) (post : S → Nat → Prop) (Wd : S → va_W) : (Nat → Prop) → Array Value → State → Outcome → State → Prop := fun A => va_Qr (fun _ : S => True) (fun u a t => post u a ∧ gAt D tys A (Wd u) t) A
section GB
variable {p : Program} {l : Launch} {e : Env} {R : Room} {s : State} {m : MethodId} {args : Array Value} {below : List Frame} {meth : Method} {c : Code} {H : Heap} {locs : List Loc} {cells slots : Nat} {Q : State → Prop}
variable {cc : ByteArray} {pc : Nat} {ls : Array Slot} {rest st0 : List Value} {D : va_G} {A : Nat → Prop} {tys : List (ClassId × FieldType)} {ws : va_W}
theorem gM.of {y : MethodName} {wds wds' : List Cond} {rm : Room} {av : List Value} {Qb : (Nat → Prop) → Array Value → State → Outcome → State → Prop} {mc ms maxL : Nat} {ret : Option FieldType} (hy : plainName y.cls = true) (hw : wds = Cond.code y cc maxL ret :: wds') (hn : (lg_sl av).length ≤ maxL)
    (K : ∀ (p : Program) (e : Env) (s : State) (m : MethodId) (below : List Frame) (meth : Method) (c : Code) (A : Nat → Prop) (ls : Array Slot), p.tables.exec = Jvm.exec → c.code = cc → meth.sig.returnType = ret → c.maxLocals = maxL → s.vm.findClass y.cls = some m.cls → (∀ w ∈ wds, w.before av.toArray s = true) → meth.locks = false → meth.name = y.name → gB D tys A s s.heap [] ws → lv_has ls maxL (lv_args 0 av) → W p l e rm s m av.toArray below meth c s.heap [] 0 0 (MQ below (Qb A) av.toArray s mc ms A) (F0 m 0 ls [])) : gM l D tys y wds rm av ws Qb mc ms := by
  intro sz
  refine Met.ofW (cc := cc) (maxL := maxL) (ret := ret) hy hw ?_
  intro p e s m args below meth c s₁ B hml hv
  obtain ⟨rfl, hsz, hP, hK, hD0⟩ := hv
  subst hsz
  have hl := lv_entry av (n := maxL) hn
  rw [lg_entry_eq]
  exact K p e s m below meth c _ _ B.exec B.bytes B.returns hml (findClass_of_methodNamed B.named) (atoms_spec (ws := wds) B.pre) B.notSynchronized (name_of_methodNamed B.named B.method).1 ⟨hK, hP, hD0.self (sz := s.heap.size), va_S.rf, fun q h => Or.inr h⟩ hl
theorem gPre_blind {av : List Value} {sz : Nat} : FrameBlind (gPre D tys av ws sz) := fun a U g mk q => by
  obtain ⟨q0, q1, qP, qK, qD⟩ := q
  exact ⟨q0, q1, qP, va_K.moved (u := U) (U := U.calling g mk a) (Vm.Alike.refl U.vm) qK, qD⟩
theorem gB.in (hB : gB D tys A s H locs ws) : ∀ q : Nat, va_A ws H.size q → A q := fun q h => by
  obtain ⟨-, -, hD, hS, hA⟩ := hB
  rcases h with ⟨k, x, h⟩ | h
  · exact hD.2 k _ h
  · exact hA q (Nat.le_trans hS.1 h)
theorem gB.pre (hB : gB D tys A s H locs ws) (av : List Value) (U : State) (hU : U.heap = H) (hW : s.WarmedH U.vm) : gPre D tys av ws H.size av.toArray U := by
  obtain ⟨hK, hP, hD, -⟩ := hB
  exact ⟨rfl, by rw [hU], by rw [hU]; exact hP, va_K.moved hW.alike hK, hD.weaken (fun _ _ _ _ => trivial)⟩
theorem gB.post {ws' : va_W} {t : State} {H1 : Heap} {locs1 : List Loc} (hB : gB D tys A s H locs ws) (hb : gAt D tys (va_A ws H.size) ws' t) (ht : t.heap = H1) (hS1 : va_S A s.heap H1 locs1) : gB D tys A s H1 locs1 ws' := by
  have hF := hB.in
  obtain ⟨hK, -, -, -, hA⟩ := hB
  obtain ⟨hP1, -, hD1⟩ := hb
  rw [ht] at hP1
  exact ⟨hK, hP1, hD1.weaken (fun _ _ _ h => hF _ h), hS1, hA⟩
/-- a call on the same footprint, of an instance method -/
theorem g_calli {S : Type} {y : MethodName} {bytes : ByteArray} {wds Ts : List Cond} {rm : Room} {av : List Value} {b : Nat} {own C : String} {index maxL nL n mc ms q0 ci : Nat} {q9 : vw_C} {fs : List Value} {ret : Option FieldType} {post : Int32 → S → Prop} {Wd : S → va_W} (F : CallFix p m c cc nL s args Ts own) (hM : gM l D tys y wds rm (.ref b :: av) ws (gQi D tys post Wd) mc ms) (cw : CallW R s args own C index y bytes maxL ret wds rm mc ms n) (hB : gB D tys A s H locs ws) (he : ws[q0]? = some (b, .inr (ci, fs))) (hc : vwCl[ci]? = some q9) (hC : q9.1 = C) (hn : av.length = n) (hls : ls.size = nL) (hst : st0 = av.reverse ++ .ref b :: rest) (hW : (rest.map fun v => v.category).sum ≤ 8) (hdg : decode cc pc = .ok (.invokevirtual index, 3)) (hf : cells + mc ≤ R.cells ∧ slots + ms ≤ R.slots)
    (kk : ∀ (r : Int32) (u : S) (H1 : Heap) (locs1 : List Loc), post r u → gB D tys A s H1 locs1 (Wd u) → W p l e R s m args below meth c H1 locs1 (cells + mc) (slots + ms) Q (F0 m (pc + 3) ls (.int r :: rest))) : W p l e R s m args below meth c H locs cells slots Q (F0 m pc ls st0) := by
  subst hC
  exact va_calli (va_runV (As := av) (rest := rest) F (hM H.size) cw ⟨gPre_blind, va_recv hB.1 hB.2.1 (ci := ci) (q0 := q0) hc he, fun U hU hW => hB.pre _ U hU hW⟩ rfl hn hls hst (lv_room hW) hdg hf) hB.2.2.2.1 (fun q _ h => hB.in q h) hB.in (fun r u t H1 locs1 ht hvm hw hb hz1 hk1 hS1 => kk r u H1 locs1 hw (hB.post hb ht hS1))
theorem g_callv {S : Type} {y : MethodName} {bytes : ByteArray} {wds Ts : List Cond} {rm : Room} {av : List Value} {b : Nat} {own C : String} {index maxL nL n mc ms q0 ci : Nat} {q9 : vw_C} {fs : List Value} {ret : Option FieldType} {post : S → Prop} {Wd : S → va_W} (F : CallFix p m c cc nL s args Ts own) (hM : gM l D tys y wds rm (.ref b :: av) ws (gQv D tys post Wd) mc ms) (cw : CallW R s args own C index y bytes maxL ret wds rm mc ms n) (hB : gB D tys A s H locs ws) (he : ws[q0]? = some (b, .inr (ci, fs))) (hc : vwCl[ci]? = some q9) (hC : q9.1 = C) (hn : av.length = n) (hls : ls.size = nL) (hst : st0 = av.reverse ++ .ref b :: rest) (hW : (rest.map fun v => v.category).sum ≤ 8) (hdg : decode cc pc = .ok (.invokevirtual index, 3)) (hf : cells + mc ≤ R.cells ∧ slots + ms ≤ R.slots)
    (kk : ∀ (u : S) (H1 : Heap) (locs1 : List Loc), post u → gB D tys A s H1 locs1 (Wd u) → W p l e R s m args below meth c H1 locs1 (cells + mc) (slots + ms) Q (F0 m (pc + 3) ls rest)) : W p l e R s m args below meth c H locs cells slots Q (F0 m pc ls st0) := by
  subst hC
  exact va_callv (va_runV (As := av) (rest := rest) F (hM H.size) cw ⟨gPre_blind, va_recv hB.1 hB.2.1 (ci := ci) (q0 := q0) hc he, fun U hU hW => hB.pre _ U hU hW⟩ rfl hn hls hst (lv_room hW) hdg hf) hB.2.2.2.1 (fun q _ h => hB.in q h) hB.in (fun u t H1 locs1 ht hvm hw hb hz1 hk1 hS1 => kk u H1 locs1 hw (hB.post hb ht hS1))
theorem g_calll {S : Type} {y : MethodName} {bytes : ByteArray} {wds Ts : List Cond} {rm : Room} {av : List Value} {b : Nat} {own C : String} {index maxL nL n mc ms q0 ci : Nat} {q9 : vw_C} {fs : List Value} {ret : Option FieldType} {post : Int64 → S → Prop} {Wd : S → va_W} (F : CallFix p m c cc nL s args Ts own) (hM : gM l D tys y wds rm (.ref b :: av) ws (gQl D tys post Wd) mc ms) (cw : CallW R s args own C index y bytes maxL ret wds rm mc ms n) (hB : gB D tys A s H locs ws) (he : ws[q0]? = some (b, .inr (ci, fs))) (hc : vwCl[ci]? = some q9) (hC : q9.1 = C) (hn : av.length = n) (hls : ls.size = nL) (hst : st0 = av.reverse ++ .ref b :: rest) (hW : (rest.map fun v => v.category).sum ≤ 8) (hdg : decode cc pc = .ok (.invokevirtual index, 3)) (hf : cells + mc ≤ R.cells ∧ slots + ms ≤ R.slots)
    (kk : ∀ (r : Int64) (u : S) (H1 : Heap) (locs1 : List Loc), post r u → gB D tys A s H1 locs1 (Wd u) → W p l e R s m args below meth c H1 locs1 (cells + mc) (slots + ms) Q (F0 m (pc + 3) ls (.long r :: rest))) : W p l e R s m args below meth c H locs cells slots Q (F0 m pc ls st0) := by
  subst hC
  exact va_calll (va_runV (As := av) (rest := rest) F (hM H.size) cw ⟨gPre_blind, va_recv hB.1 hB.2.1 (ci := ci) (q0 := q0) hc he, fun U hU hW => hB.pre _ U hU hW⟩ rfl hn hls hst (lv_room hW) hdg hf) hB.2.2.2.1 (fun q _ h => hB.in q h) hB.in (fun r u t H1 locs1 ht hvm hw hb hz1 hk1 hS1 => kk r u H1 locs1 hw (hB.post hb ht hS1))
/-- a call of a static method without cells -/
theorem g_callS0 {y : MethodName} {bytes : ByteArray} {wds Ts : List Cond} {rm : Room} {av : List Value} {own : String} {index maxL nL n : Nat} {ret : Option FieldType} {post : Int32 → Unit → Prop} (F : CallFix p m c cc nL s args Ts own) (hM : gM l D tys y wds rm av [] (gQi D tys post (fun _ => [])) 0 0) (cw : CallB R s args own index y bytes maxL ret wds rm 0 0 n ∧ (Cond.static y).before args s = true) (hB : gB D tys A s H locs ws) (hn : av.length = n) (hls : ls.size = nL) (hst : st0 = av.reverse ++ rest) (hW : (rest.map fun v => v.category).sum ≤ 8) (hdg : decode cc pc = .ok (.invokestatic index, 3)) (hf : cells ≤ R.cells ∧ slots ≤ R.slots)
    (kk : ∀ (r : Int32) (H1 : Heap) (locs1 : List Loc), post r () → gB D tys A s H1 locs1 ws → W p l e R s m args below meth c H1 locs1 cells slots Q (F0 m (pc + 3) ls (.int r :: rest))) : W p l e R s m args below meth c H locs cells slots Q (F0 m pc ls st0) := by
  obtain ⟨hK, hP, hD, hS, hA⟩ := hB
  have h0 : gB D tys A s H locs [] := ⟨hK, fun k q h => by simp at h, ⟨fun i j x y h => by simp at h, fun k q h => by simp at h⟩, hS, hA⟩
  refine va_calli (va_runS (As := av) (rest := rest) F (hM H.size) cw ⟨gPre_blind, fun U hU hW => h0.pre _ U hU hW⟩ rfl hn hls hst (lv_room hW) hdg hf) hS (fun q _ h => h0.in q h) h0.in (fun r u t H1 locs1 ht hvm hw hb hz1 hk1 hS1 => kk r H1 locs1 hw ⟨hK, ?_, hD, hS1, hA⟩)
  refine hP.kept (fun k q hk => ?_)
  refine hk1 q.1 (hP k q hk).lt (fun h => ?_)
  rcases h with ⟨k, x, h⟩ | h
  · simp at h
  · exact absurd (hP k q hk).lt (Nat.not_lt.mpr h)
theorem g_iret {S : Type} {post : Int32 → S → Prop} {Wd : S → va_W} {v : Int32} (u : S) (hB : gB D tys A s H locs ws) (hx : p.tables.exec = Jvm.exec) (hb : c.code = cc) (hr : meth.sig.returnType = some .int) (hlocks : meth.locks = false) (he : Wd u = ws) (hp : post v u) (hdg : decode cc pc = .ok (.ireturn, 1)) : W p l e R s m args below meth c H locs cells slots (MQ below (gQi D tys post Wd A) args s cells slots A) (F0 m pc ls [.int v]) := by
  subst he
  obtain ⟨hK, hP, hD, hS, hA⟩ := hB
  exact W.iret (v := v) hx hb hr (fun t ht hW => ⟨⟨v, u, rfl, hp, by rw [ht]; exact hP, va_K.moved hW.alike hK, hD⟩, hS.F ht⟩) hS.2.2 hdg hlocks
theorem g_zret {S : Type} {post : Int32 → S → Prop} {Wd : S → va_W} {v : Int32} (u : S) (hB : gB D tys A s H locs ws) (hx : p.tables.exec = Jvm.exec) (hb : c.code = cc) (hr : meth.sig.returnType = some .boolean) (hlocks : meth.locks = false) (he : Wd u = ws) (hn : narrow .boolean (.int v) = .int v) (hp : post v u) (hdg : decode cc pc = .ok (.ireturn, 1)) : W p l e R s m args below meth c H locs cells slots (MQ below (gQi D tys post Wd A) args s cells slots A) (F0 m pc ls [.int v]) := by
  subst he
  obtain ⟨hK, hP, hD, hS, hA⟩ := hB
  exact W.zret (v := v) hx hb hr hn (fun t ht hW => ⟨⟨v, u, rfl, hp, by rw [ht]; exact hP, va_K.moved hW.alike hK, hD⟩, hS.F ht⟩) hS.2.2 hdg hlocks
theorem g_lret {S : Type} {post : Int64 → S → Prop} {Wd : S → va_W} {v : Int64} (u : S) (hB : gB D tys A s H locs ws) (hx : p.tables.exec = Jvm.exec) (hb : c.code = cc) (hr : meth.sig.returnType = some .long) (hlocks : meth.locks = false) (he : Wd u = ws) (hp : post v u) (hdg : decode cc pc = .ok (.lreturn, 1)) : W p l e R s m args below meth c H locs cells slots (MQ below (gQl D tys post Wd A) args s cells slots A) (F0 m pc ls [.long v]) := by
  subst he
  obtain ⟨hK, hP, hD, hS, hA⟩ := hB
  exact W.lret (v := v) hx hb hr (fun t ht hW => ⟨⟨v, u, rfl, hp, by rw [ht]; exact hP, va_K.moved hW.alike hK, hD⟩, hS.F ht⟩) hS.2.2 hdg hlocks
theorem g_vret {S : Type} {post : S → Prop} {Wd : S → va_W} (u : S) (hB : gB D tys A s H locs ws) (hx : p.tables.exec = Jvm.exec) (hb : c.code = cc) (hr : meth.sig.returnType = none) (hlocks : meth.locks = false) (he : Wd u = ws) (hp : post u) (hdg : decode cc pc = .ok (.return_, 1)) : W p l e R s m args below meth c H locs cells slots (MQ below (gQv D tys post Wd A) args s cells slots A) (F0 m pc ls []) := by
  subst he
  obtain ⟨hK, hP, hD, hS, hA⟩ := hB
  exact W.vret hx hb hr (fun t ht hW => ⟨⟨u, rfl, hp, by rw [ht]; exact hP, va_K.moved hW.alike hK, hD⟩, hS.F ht⟩) hS.2.2 hdg hlocks
theorem narrow_z {v : Int32} (h : v = 0 ∨ v = 1) : narrow .boolean (.int v) = .int v := by rcases h with rfl | rfl <;> rfl
theorem fits_z {v : Int32} (h : v = 0 ∨ v = 1) : fits .boolean (.int v) = true := by rcases h with rfl | rfl <;> rfl
theorem vp_nar_z {v : Int32} (h : v = 0 ∨ v = 1) : vp_nar .boolean v = v := by rcases h with rfl | rfl <;> rfl
end GB
