/-! CONSTRUCTORS: objects and arrays are made -/
def gPreP (P : State → Prop) (D : va_G) (tys : List (ClassId × FieldType)) (av : List Value) (ws : va_W) (sz : Nat) : Array Value → State → Prop := va_Pc av (fun U => (U.heap.size = sz ∧ va_P D vwCl ws U.heap ∧ va_K D vwCl tys U ∧ va_D (fun _ => True) ws) ∧ P U)
/-- a contract whose state before it has P, which the tables alone decide -/
def gMp (l : Launch) (P : State → Prop) (D : va_G) (tys : List (ClassId × FieldType)) (y : MethodName) (wds : List Cond) (rm : Room) (av : List Value) (ws : va_W) (Qb : (Nat → Prop) → Array Value → State → Outcome → State → Prop) (mc ms : Nat) : Prop := ∀ sz : Nat, Met l y wds rm (gPreP P D tys av ws sz) (Qb (va_A ws sz)) mc ms (va_A ws sz)
def stP (P : State → Prop) : Prop := (∀ u U : State, u.WarmedH U.vm → P u → P U) ∧ ∀ u U : State, u.vm = U.vm → P u → P U
def aoP : State → Prop := fun U => va_AO RX3 U ∧ va_AO RX2 U ∧ va_Nw (.methodLinkNest RX5 15 yX3_init "PointReports") U ∧ va_Nw (.methodLinkNest RX10 47 yX2_init "PointReports") U ∧ va_Nw (.methodLinkNest RX11 39 yX7_init "PointReports") U
theorem aoP_st : stP aoP := ⟨fun _ _ h q => ⟨q.1.moved h.alike, q.2.1.moved h.alike, q.2.2.1.warmM h, q.2.2.2.1.warmM h, q.2.2.2.2.warmM h⟩, fun u U h q => ⟨q.1.moved (by rw [h]; exact Vm.Alike.refl _), q.2.1.moved (by rw [h]; exact Vm.Alike.refl _), va_Nw.same rfl h q.2.2.1, va_Nw.same rfl h q.2.2.2.1, va_Nw.same rfl h q.2.2.2.2⟩⟩
section GI
variable {p : Program} {l : Launch} {e : Env} {R : Room} {s : State} {m : MethodId} {args : Array Value} {below : List Frame} {meth : Method} {c : Code} {H : Heap} {locs : List Loc} {cells slots : Nat} {Q : State → Prop}
variable {cc : ByteArray} {pc : Nat} {ls : Array Slot} {rest st st0 : List Value} {D : va_G} {A : Nat → Prop} {tys : List (ClassId × FieldType)} {ws wr wc : va_W} {P : State → Prop}
theorem gMp.of {y : MethodName} {wds wds' : List Cond} {rm : Room} {av : List Value} {Qb : (Nat → Prop) → Array Value → State → Outcome → State → Prop} {mc ms maxL : Nat} {ret : Option FieldType} (hy : plainName y.cls = true) (hw : wds = Cond.code y cc maxL ret :: wds') (hn : (lg_sl av).length ≤ maxL)
    (K : ∀ (p : Program) (e : Env) (s : State) (m : MethodId) (below : List Frame) (meth : Method) (c : Code) (A : Nat → Prop) (ls : Array Slot), p.tables.exec = Jvm.exec → c.code = cc → meth.sig.returnType = ret → c.maxLocals = maxL → s.vm.findClass y.cls = some m.cls → (∀ w ∈ wds, w.before av.toArray s = true) → meth.locks = false → meth.name = y.name → P s → gB D tys A s s.heap [] ws → lv_has ls maxL (lv_args 0 av) → W p l e rm s m av.toArray below meth c s.heap [] 0 0 (MQ below (Qb A) av.toArray s mc ms A) (F0 m 0 ls [])) : gMp l P D tys y wds rm av ws Qb mc ms := by
  intro sz
  refine Met.ofW (cc := cc) (maxL := maxL) (ret := ret) hy hw ?_
  intro p e s m args below meth c s₁ B hml hv
  obtain ⟨rfl, ⟨hsz, hP, hK, hD0⟩, hN⟩ := hv
  subst hsz
  have hl := lv_entry av (n := maxL) hn
  rw [lg_entry_eq]
  exact K p e s m below meth c _ _ B.exec B.bytes B.returns hml (findClass_of_methodNamed B.named) (atoms_spec (ws := wds) B.pre) B.notSynchronized (name_of_methodNamed B.named B.method).1 hN ⟨hK, hP, hD0.self (sz := s.heap.size), va_S.rf, fun q h => Or.inr h⟩ hl
theorem gPreP_blind (hst : stP P) {av : List Value} {sz : Nat} : FrameBlind (gPreP P D tys av ws sz) := fun a U g mk q => by
  obtain ⟨q0, ⟨q1, qP, qK, qD⟩, hN⟩ := q
  exact ⟨q0, ⟨q1, qP, va_K.moved (u := U) (U := U.calling g mk a) (Vm.Alike.refl U.vm) qK, qD⟩, hst.2 U _ rfl hN⟩
theorem gB.preP (hst : stP P) (hN : P s) (hB : gB D tys A s H locs ws) (av : List Value) (U : State) (hU : U.heap = H) (hW : s.WarmedH U.vm) : gPreP P D tys av ws H.size av.toArray U := by
  have h0 := hB.pre av U hU hW
  exact ⟨h0.1, h0.2, hst.1 s U hW hN⟩
theorem g_callI {S : Type} {y : MethodName} {bytes : ByteArray} {wds Ts : List Cond} {rm : Room} {av : List Value} {b : Nat} {own : String} {index maxL nL n mc ms : Nat} {post : S → Prop} {Wd : S → va_W} (F : CallFix p m c cc nL s args Ts own) (hM : gM l D tys y wds rm (.ref b :: av) wc (gQv D tys post Wd) mc ms) (cw : CallB R s args own index y bytes maxL none wds rm mc ms n ∧ y.name = "<init>" ∧ (Cond.instanceMethod y).before args s = true) (hB : gB D tys A s H locs (wr ++ wc)) (hn : av.length = n) (hls : ls.size = nL) (hst : st0 = av.reverse ++ .ref b :: rest) (hW : (rest.map fun v => v.category).sum ≤ 8) (hdg : decode cc pc = .ok (.invokespecial index, 3)) (hf : cells + mc ≤ R.cells ∧ slots + ms ≤ R.slots)
    (kk : ∀ (u : S) (H1 : Heap) (locs1 : List Loc), post u → gB D tys A s H1 locs1 (wr ++ Wd u) → W p l e R s m args below meth c H1 locs1 (cells + mc) (slots + ms) Q (F0 m (pc + 3) ls rest)) : W p l e R s m args below meth c H locs cells slots Q (F0 m pc ls st0) := by
  have hB2 := hB.right
  exact va_callv (va_runI (As := av) (rest := rest) F (hM H.size) cw ⟨gPre_blind, fun U hU hW => hB2.pre _ U hU hW⟩ rfl hn hls hst (lv_room hW) hdg hf) hB2.2.2.2.1 (fun q _ h => hB2.in q h) hB2.in (fun u t H1 locs1 ht hvm hw hb hz1 hk1 hS1 => kk u H1 locs1 hw (hB.back hb ht hS1 hk1))
theorem g_callIP (hsp : stP P) (hN : P s) {S : Type} {y : MethodName} {bytes : ByteArray} {wds Ts : List Cond} {rm : Room} {av : List Value} {b : Nat} {own : String} {index maxL nL n mc ms : Nat} {post : S → Prop} {Wd : S → va_W} (F : CallFix p m c cc nL s args Ts own) (hM : gMp l P D tys y wds rm (.ref b :: av) wc (gQv D tys post Wd) mc ms) (cw : CallB R s args own index y bytes maxL none wds rm mc ms n ∧ y.name = "<init>" ∧ (Cond.instanceMethod y).before args s = true) (hB : gB D tys A s H locs (wr ++ wc)) (hn : av.length = n) (hls : ls.size = nL) (hst : st0 = av.reverse ++ .ref b :: rest) (hW : (rest.map fun v => v.category).sum ≤ 8) (hdg : decode cc pc = .ok (.invokespecial index, 3)) (hf : cells + mc ≤ R.cells ∧ slots + ms ≤ R.slots)
    (kk : ∀ (u : S) (H1 : Heap) (locs1 : List Loc), post u → gB D tys A s H1 locs1 (wr ++ Wd u) → W p l e R s m args below meth c H1 locs1 (cells + mc) (slots + ms) Q (F0 m (pc + 3) ls rest)) : W p l e R s m args below meth c H locs cells slots Q (F0 m pc ls st0) := by
  have hB2 := hB.right
  exact va_callv (va_runI (As := av) (rest := rest) F (hM H.size) cw ⟨gPreP_blind hsp, fun U hU hW => hB2.preP hsp hN _ U hU hW⟩ rfl hn hls hst (lv_room hW) hdg hf) hB2.2.2.2.1 (fun q _ h => hB2.in q h) hB2.in (fun u t H1 locs1 ht hvm hw hb hz1 hk1 hS1 => kk u H1 locs1 hw (hB.back hb ht hS1 hk1))
theorem g_callIn {S : Type} {y : MethodName} {bytes : ByteArray} {wds Ts : List Cond} {rm : Room} {av : List Value} {b : Nat} {own host : String} {index maxL nL n mc ms : Nat} {post : S → Prop} {Wd : S → va_W} (F : CallFix p m c cc nL s args Ts own) (hM : gM l D tys y wds rm (.ref b :: av) wc (gQv D tys post Wd) mc ms) (cw : va_CN R s args own index y host bytes maxL none wds rm mc ms n ∧ y.name = "<init>" ∧ (Cond.instanceMethod y).before args s = true) (hB : gB D tys A s H locs (wr ++ wc)) (hn : av.length = n) (hls : ls.size = nL) (hst : st0 = av.reverse ++ .ref b :: rest) (hW : (rest.map fun v => v.category).sum ≤ 8) (hdg : decode cc pc = .ok (.invokespecial index, 3)) (hf : cells + mc ≤ R.cells ∧ slots + ms ≤ R.slots)
    (kk : ∀ (u : S) (H1 : Heap) (locs1 : List Loc), post u → gB D tys A s H1 locs1 (wr ++ Wd u) → W p l e R s m args below meth c H1 locs1 (cells + mc) (slots + ms) Q (F0 m (pc + 3) ls rest)) : W p l e R s m args below meth c H locs cells slots Q (F0 m pc ls st0) := by
  have hB2 := hB.right
  exact va_callv (va_runIN (As := av) (rest := rest) F (hM H.size) cw ⟨gPre_blind, fun U hU hW => hB2.pre _ U hU hW⟩ rfl hn hls hst (lv_room hW) hdg hf) hB2.2.2.2.1 (fun q _ h => hB2.in q h) hB2.in (fun u t H1 locs1 ht hvm hw hb hz1 hk1 hS1 => kk u H1 locs1 hw (hB.back hb ht hS1 hk1))
theorem g_new (hx : p.tables.exec = Jvm.exec) (hb : c.code = cc) {own C : String} {T : u_T} {N ci index : Nat} {Ts : List Cond} (hts : ∀ w ∈ Ts, w.before args s = true) (hin : ∀ w ∈ u_ws C T N, w ∈ Ts) (ty : Nat → FieldType) (hty : ∀ k, k < N → parseFieldDescriptor (T k).2.2.1 = some (ty k)) (hown : s.vm.findClass own = some m.cls) (hcl : (Cond.classLink own index C).before args s = true) (hinst : (Cond.instantiable C N).before args s = true) (hini : (Cond.initialized C).before args s = true) (hB : gB D tys A s H locs ws) (hc : vwCl[ci]? = some (C, T, N)) {fs : List Value} (hfs : ∀ j, j < N → defaultValue (ty j) = vp_V fs j) (hcells : cells + 1 ≤ R.cells) (hslots : slots + N ≤ R.slots) (hdg : decode cc pc = .ok (.new index, 3))
    (kk : ∀ (q : Nat) (H1 : Heap), gB D tys A s H1 locs (ws ++ [(q, .inr (ci, fs))]) → W p l e R s m args below meth c H1 locs (cells + 1) (slots + N) Q (F0 m (pc + 3) ls (.ref q :: rest))) : W p l e R s m args below meth c H locs cells slots Q (F0 m pc ls rest) := by
  obtain ⟨hK, hP, hD, hS, hA⟩ := hB
  exact va_new (T := T) (N := N) (ci := ci) (fs := fs) hx hb hts hin ty hty hown hcl hinst hini hK hP hD hS hA hc hfs hcells hslots hdg (fun q H1 hP1 hD1 hS1 => kk q H1 ⟨hK, hP1, hD1, hS1, hA⟩)
/-- a new array of cells: its class is the one that is known already -/
theorem g_newq (hx : p.tables.exec = Jvm.exec) (hb : c.code = cc) {own C : String} {index : Nat} (hown : s.vm.findClass own = some m.cls) (hclink : (Cond.classLink own index C).before args s = true) (hover : va_AO C s) (hB : gB D tys A s H locs ws) (t0 : Nat) {cF : ClassId} (ht : tys[t0]? = some (cF, .object C)) {n : Int32} (N' : Nat) (hn : ¬ n < 0) (hN : n.toNatClampNeg = N') (hbytes : N' * 4 ≤ 536870912) (hcells : cells + 1 ≤ R.cells) (hslots : slots + N' ≤ R.slots) (hdg : decode cc pc = .ok (.anewarray index, 3))
    (kk : ∀ (q : Nat) (H1 : Heap), gB D tys A s H1 locs (ws ++ [(q, .inl (cF, N', .inr (.inr (.inr (.inr (fun _ => none))))))]) → W p l e R s m args below meth c H1 locs (cells + 1) (slots + N') Q (F0 m (pc + 3) ls (.ref q :: rest))) : W p l e R s m args below meth c H locs cells slots Q (F0 m pc ls (.int n :: rest)) := by
  obtain ⟨hK, hP, hD, hS, hA⟩ := hB
  refine va_newq hx hb hown hclink hover hK hP hD hS hA hn hN hbytes hcells hslots hdg (fun q cA H1 hK1 hP1 hD1 hS1 => ?_)
  obtain ⟨-, -, -, -, -, h1⟩ := (hK1.2 tys.length (cA, .object C) (by rw [List.getElem?_append_right (Nat.le_refl _), Nat.sub_self]; rfl)).2
  obtain ⟨-, -, -, -, -, h2⟩ := (hK.2 t0 (cF, .object C) ht).2
  have e1 : cA = cF := Option.some.inj (h1.symm.trans h2)
  subst e1
  exact kk q H1 ⟨hK, hP1, hD1, hS1, hA⟩
/-- a loop that makes cells -/
theorem g_loopA {σ : Type} (I : Nat → σ → Heap → List Loc → Array Slot → Prop) (cf sf : σ → Nat) (d0 : Nat) (x0 : σ) (hc : cells = cf x0) (hs : slots = sf x0) (h0 : I d0 x0 H locs ls)
    (body : ∀ (d : Nat) (x : σ) (H : Heap) (locs : List Loc) (ls : Array Slot), I d x H locs ls → (∀ (d2 : Nat) (x2 : σ) (H : Heap) (locs : List Loc) (ls : Array Slot), d2 < d → I d2 x2 H locs ls → W p l e R s m args below meth c H locs (cf x2) (sf x2) Q (F0 m pc ls st)) → W p l e R s m args below meth c H locs (cf x) (sf x) Q (F0 m pc ls st)) : W p l e R s m args below meth c H locs cells slots Q (F0 m pc ls st) := by
  subst hc
  subst hs
  have key : ∀ (n d : Nat) (x : σ) (H : Heap) (locs : List Loc) (ls : Array Slot), d < n → I d x H locs ls → W p l e R s m args below meth c H locs (cf x) (sf x) Q (F0 m pc ls st) := by
    intro n
    induction n with
    | zero => intro d x H locs ls h; exact absurd h (Nat.not_lt_zero d)
    | succ n ih => intro d x H locs ls h hI; exact body d x H locs ls hI (fun d2 x2 H locs ls h2 => ih d2 x2 H locs ls (by omega))
  exact key (d0 + 1) d0 x0 H locs ls (Nat.lt_succ_self d0) h0
theorem W.csz {a b : Nat} {g : JFrame} (hc : cells = a) (hs : slots = b) (h : W p l e R s m args below meth c H locs a b Q g) : W p l e R s m args below meth c H locs cells slots Q g := by
  subst hc; subst hs; exact h
end GI
theorem fA_nil : fA [] = fun _ => none := rfl
theorem fA_push (fs : List fE) (x : fE) : va_up (fA fs) fs.length (some x.1) = fA (fs ++ [x]) := by
  funext i
  unfold va_up fA
  by_cases h1 : i = fs.length
  · rw [if_pos h1, h1, List.getElem?_append_right (Nat.le_refl _), Nat.sub_self]; rfl
  · rw [if_neg h1]
    by_cases h2 : i < fs.length
    · rw [List.getElem?_append_left h2]
    · rw [List.getElem?_eq_none (by omega), List.getElem?_eq_none (by rw [List.length_append, List.length_singleton]; omega)]
set_option maxRecDepth 100000 in
set_option maxHeartbeats 2000000 in
/-- Bytes(room) -/
theorem k_Bytes_init (l : Launch) (G : rG) (b n : Nat) (hn9 : n < 1000000) : gM l G.1 (rT G) yX1_init wsX1_init { frames := 1, cells := 1, slots := n, locals := 20 } [.ref b, .int (nI n)] [(b, .inr (0, [.null, .int (nI 0)]))] (gQv G.1 (rT G) (fun u : Nat => True) (fun u => bW G b u n (nI 0, (fun _ => 0)))) 1 n := by
  refine gM.of (cc := cX1_init) (maxL := 2) (ret := none) (by decide) rfl (Nat.le_of_ble_eq_true rfl) ?_
  intro p e s m below meth c A ls hx hb hr hml hown hts hlocks hnm hB hl
  have hl : lv_has ls 2 [(0, .ref b), (1, .int (nI n))] := hl
  refine lv_aload_n hx hb dX1_init_0 rfl (lv_at hl 0 rfl) ?_
  refine W.objInit hx hb hown (hts (.methodLink RX1 3 objectInit) (by decide +kernel)) (hts (.instanceMethod objectInit) (by decide +kernel)) (hts _ (List.mem_cons_of_mem _ (List.mem_append_left _ (List.mem_of_getElem? (i := 2) rfl)))) rfl (by rw [hml]; exact hl.1) rfl dX1_init_1 (Nat.le_of_ble_eq_true rfl) (Nat.le_of_ble_eq_true rfl) ?_
  refine W.eq (g2 := F0 m 4 ls []) rfl ?_
  refine lv_aload_n hx hb dX1_init_4 rfl (lv_at hl 0 rfl) ?_
  refine lv_iload_n hx hb dX1_init_5 rfl (lv_at hl 1 rfl) ?_
  refine g_newa hx hb (atype := .int) (hts (.arrayClass .int) (by decide +kernel)) rfl hB 0 rfl (fun _ => rfl) rfl n (nI_pos (by omega)) (nI_clamp (by omega)) (by show n * 4 ≤ 536870912; omega) (Nat.le_of_ble_eq_true rfl) (by show 0 + n ≤ n; omega) dX1_init_6 (fun q1 H hB => ?_)
  have hB : gB G.1 (rT G) A s H [] [(b, .inr (0, [.null, .int (nI 0)])), (q1, .inl (G.2.2.2.1, n, .inl (fun _ => 0)))] := hB
  refine g_putF (own := RX1) (C := RX1) (T := TX1) (N := 2) (ci := 0) (v := .ref q1) hx hb ([(b, .inr (0, [.ref q1, .int (nI 0)])), (q1, .inl (G.2.2.2.1, n, .inl (fun _ => 0)))]) hts (fun _ h => List.mem_cons_of_mem _ (List.mem_append_right _ h)) tyX1 tyX1_ok nmX1 hown hB 0 rfl rfl 0 (by decide) (hts (.fieldLink RX1 9 "PointReports$Bytes" "row" "[I") (by decide +kernel)) rfl rfl hnm rfl (ty := .array .int) rfl rfl rfl (Nat.le_of_ble_eq_true rfl) rfl dX1_init_8 (fun H locs hB => ?_)
  refine W.csz (a := 1) (b := n) rfl (Nat.zero_add n) ?_
  exact g_vret (S := Nat) (Wd := fun u => bW G b u n (nI 0, (fun _ => 0))) q1 hB hx hb hr hlocks rfl trivial dX1_init_11
set_option maxRecDepth 100000 in
set_option maxHeartbeats 2000000 in
/-- Events() -/
theorem k_Events_init (l : Launch) (G : rG) (ev : Nat) : gM l G.1 (rT G) yX2_init wsX2_init { frames := 1, cells := 3, slots := 24, locals := 20 } [.ref ev] [(ev, .inr (1, [.null, .null, .null, .int (nI 0), .int (nI 0)]))] (gQv G.1 (rT G) (fun u : Nat × Nat × Nat => True) (fun u => eW G ev u.1 u.2.1 u.2.2 (nI 0, nI 0, (fun _ => 0), (fun _ => 0), (fun _ => 0)))) 3 24 := by
  refine gM.of (cc := cX2_init) (maxL := 1) (ret := none) (by decide) rfl (Nat.le_of_ble_eq_true rfl) ?_
  intro p e s m below meth c A ls hx hb hr hml hown hts hlocks hnm hB hl
  have hl : lv_has ls 1 [(0, .ref ev)] := hl
  refine lv_aload_n hx hb dX2_init_0 rfl (lv_at hl 0 rfl) ?_
  refine W.objInit hx hb hown (hts (.methodLink RX2 3 objectInit) (by decide +kernel)) (hts (.instanceMethod objectInit) (by decide +kernel)) (hts _ (List.mem_cons_of_mem _ (List.mem_append_left _ (List.mem_of_getElem? (i := 2) rfl)))) rfl (by rw [hml]; exact hl.1) rfl dX2_init_1 (Nat.le_of_ble_eq_true rfl) (Nat.le_of_ble_eq_true rfl) ?_
  refine W.eq (g2 := F0 m 4 ls []) rfl ?_
  refine lv_aload_n hx hb dX2_init_4 rfl (lv_at hl 0 rfl) ?_
  refine lv_bipush (v := nI 8) hx hb dX2_init_5 (by decide) ?_
  refine g_newa hx hb (atype := .int) (hts (.arrayClass .int) (by decide +kernel)) rfl hB 0 rfl (fun _ => rfl) rfl 8 (nI_pos (by decide)) (nI_clamp (by decide)) (Nat.le_of_ble_eq_true rfl) (Nat.le_of_ble_eq_true rfl) (Nat.le_of_ble_eq_true rfl) dX2_init_7 (fun q1 H hB => ?_)
  have hB : gB G.1 (rT G) A s H [] [(ev, .inr (1, [.null, .null, .null, .int (nI 0), .int (nI 0)])), (q1, .inl (G.2.2.2.1, 8, .inl (fun _ => 0)))] := hB
  refine g_putF (own := RX2) (C := RX2) (T := TX2) (N := 5) (ci := 1) (v := .ref q1) hx hb ([(ev, .inr (1, [.ref q1, .null, .null, .int (nI 0), .int (nI 0)])), (q1, .inl (G.2.2.2.1, 8, .inl (fun _ => 0)))]) hts (fun _ h => List.mem_cons_of_mem _ (List.mem_append_right _ h)) tyX2 tyX2_ok nmX2 hown hB 0 rfl rfl 0 (by decide) (hts (.fieldLink RX2 11 "PointReports$Events" "points" "[I") (by decide +kernel)) rfl rfl hnm rfl (ty := .array .int) rfl rfl rfl (Nat.le_of_ble_eq_true rfl) rfl dX2_init_9 (fun H locs hB => ?_)
  refine lv_aload_n hx hb dX2_init_12 rfl (lv_at hl 0 rfl) ?_
  refine lv_bipush (v := nI 8) hx hb dX2_init_13 (by decide) ?_
  refine g_newa hx hb (atype := .int) (hts (.arrayClass .int) (by decide +kernel)) rfl hB 0 rfl (fun _ => rfl) rfl 8 (nI_pos (by decide)) (nI_clamp (by decide)) (Nat.le_of_ble_eq_true rfl) (Nat.le_of_ble_eq_true rfl) (Nat.le_of_ble_eq_true rfl) dX2_init_15 (fun q2 H hB => ?_)
  have hB : gB G.1 (rT G) A s H locs [(ev, .inr (1, [.ref q1, .null, .null, .int (nI 0), .int (nI 0)])), (q1, .inl (G.2.2.2.1, 8, .inl (fun _ => 0))), (q2, .inl (G.2.2.2.1, 8, .inl (fun _ => 0)))] := hB
  refine g_putF (own := RX2) (C := RX2) (T := TX2) (N := 5) (ci := 1) (v := .ref q2) hx hb ([(ev, .inr (1, [.ref q1, .ref q2, .null, .int (nI 0), .int (nI 0)])), (q1, .inl (G.2.2.2.1, 8, .inl (fun _ => 0))), (q2, .inl (G.2.2.2.1, 8, .inl (fun _ => 0)))]) hts (fun _ h => List.mem_cons_of_mem _ (List.mem_append_right _ h)) tyX2 tyX2_ok nmX2 hown hB 0 rfl rfl 1 (by decide) (hts (.fieldLink RX2 15 "PointReports$Events" "values" "[I") (by decide +kernel)) rfl rfl hnm rfl (ty := .array .int) rfl rfl rfl (Nat.le_of_ble_eq_true rfl) rfl dX2_init_17 (fun H locs hB => ?_)
  refine lv_aload_n hx hb dX2_init_20 rfl (lv_at hl 0 rfl) ?_
  refine lv_bipush (v := nI 8) hx hb dX2_init_21 (by decide) ?_
  refine g_newa hx hb (atype := .int) (hts (.arrayClass .int) (by decide +kernel)) rfl hB 0 rfl (fun _ => rfl) rfl 8 (nI_pos (by decide)) (nI_clamp (by decide)) (Nat.le_of_ble_eq_true rfl) (Nat.le_of_ble_eq_true rfl) (Nat.le_of_ble_eq_true rfl) dX2_init_23 (fun q3 H hB => ?_)
  have hB : gB G.1 (rT G) A s H locs [(ev, .inr (1, [.ref q1, .ref q2, .null, .int (nI 0), .int (nI 0)])), (q1, .inl (G.2.2.2.1, 8, .inl (fun _ => 0))), (q2, .inl (G.2.2.2.1, 8, .inl (fun _ => 0))), (q3, .inl (G.2.2.2.1, 8, .inl (fun _ => 0)))] := hB
  refine g_putF (own := RX2) (C := RX2) (T := TX2) (N := 5) (ci := 1) (v := .ref q3) hx hb ([(ev, .inr (1, [.ref q1, .ref q2, .ref q3, .int (nI 0), .int (nI 0)])), (q1, .inl (G.2.2.2.1, 8, .inl (fun _ => 0))), (q2, .inl (G.2.2.2.1, 8, .inl (fun _ => 0))), (q3, .inl (G.2.2.2.1, 8, .inl (fun _ => 0)))]) hts (fun _ h => List.mem_cons_of_mem _ (List.mem_append_right _ h)) tyX2 tyX2_ok nmX2 hown hB 0 rfl rfl 2 (by decide) (hts (.fieldLink RX2 18 "PointReports$Events" "times" "[I") (by decide +kernel)) rfl rfl hnm rfl (ty := .array .int) rfl rfl rfl (Nat.le_of_ble_eq_true rfl) rfl dX2_init_25 (fun H locs hB => ?_)
  exact g_vret (S := Nat × Nat × Nat) (Wd := fun u => eW G ev u.1 u.2.1 u.2.2 (nI 0, nI 0, (fun _ => 0), (fun _ => 0), (fun _ => 0))) (q1, q2, q3) hB hx hb hr hlocks rfl trivial dX2_init_28
set_option maxRecDepth 100000 in
set_option maxHeartbeats 2000000 in
/-- Frame() -/
theorem k_Frame_init (l : Launch) (G : rG) (fa : Nat) : gM l G.1 (rT G) yX3_init wsX3_init { frames := 2, cells := 2, slots := 37, locals := 41 } [.ref fa] [(fa, .inr (2, [.null, .int (nI 0)]))] (gQv G.1 (rT G) (fun u : Nat × Nat => True) (fun u => fW G fa u.1 u.2 35 (nI 2, nI 0, (fun _ => 0)))) 2 37 := by
  refine gM.of (cc := cX3_init) (maxL := 1) (ret := none) (by decide) rfl (Nat.le_of_ble_eq_true rfl) ?_
  intro p e s m below meth c A ls hx hb hr hml hown hts hlocks hnm hB hl
  have hl : lv_has ls 1 [(0, .ref fa)] := hl
  refine lv_aload_n hx hb dX3_init_0 rfl (lv_at hl 0 rfl) ?_
  refine W.objInit hx hb hown (hts (.methodLink RX3 5 objectInit) (by decide +kernel)) (hts (.instanceMethod objectInit) (by decide +kernel)) (hts _ (List.mem_cons_of_mem _ (List.mem_append_left _ (List.mem_append_left _ (List.mem_of_getElem? (i := 2) rfl))))) rfl (by rw [hml]; exact hl.1) rfl dX3_init_1 (Nat.le_of_ble_eq_true rfl) (Nat.le_of_ble_eq_true rfl) ?_
  refine W.eq (g2 := F0 m 4 ls []) rfl ?_
  refine lv_aload_n hx hb dX3_init_4 rfl (lv_at hl 0 rfl) ?_
  refine g_new (own := RX3) (C := RX1) (T := TX1) (N := 2) (ci := 0) (fs := [.null, .int (nI 0)]) hx hb hts (fun _ h => List.mem_cons_of_mem _ (List.mem_append_left _ (List.mem_append_right _ h))) tyX1 tyX1_ok hown (hts (.classLink RX3 11 RX1) (by decide +kernel)) (hts (.instantiable RX1 2) (by decide +kernel)) (hts (.initialized RX1) (by decide +kernel)) hB rfl (by decide) (Nat.le_of_ble_eq_true rfl) (Nat.le_of_ble_eq_true rfl) dX3_init_5 (fun q1 H hB => ?_)
  have hB : gB G.1 (rT G) A s H [] [(fa, .inr (2, [.null, .int (nI 0)])), (q1, .inr (0, [.null, .int (nI 0)]))] := hB
  refine lv_dup hx hb dX3_init_8 rfl ?_
  refine lv_bipush (v := nI 35) hx hb dX3_init_9 (by decide) ?_
  refine g_callI (wr := [(fa, .inr (2, [.null, .int (nI 0)]))]) (wc := [(q1, .inr (0, [.null, .int (nI 0)]))]) (av := [.int (nI 35)]) (rest := [.ref q1, .ref fa]) ⟨hx, hb, hml, hown, hts⟩ (k_Bytes_init l G q1 35 (by decide)) (cwI 1 hts gX3_init_X1_init rfl rfl rfl (hts (.initialized RX1) (by decide +kernel)) (hts (.methodLink RX3 13 yX1_init) (by decide +kernel)) (hts (.instanceMethod yX1_init) (by decide +kernel)) rfl (by decide +kernel) ⟨Nat.le_of_ble_eq_true rfl, Nat.le_of_ble_eq_true rfl⟩) hB rfl hl.1 rfl (Nat.le_of_ble_eq_true rfl) dX3_init_11 ⟨Nat.le_of_ble_eq_true rfl, Nat.le_of_ble_eq_true rfl⟩ (fun u H locs hw hB => ?_)
  have hB : gB G.1 (rT G) A s H locs [(fa, .inr (2, [.null, .int (nI 0)])), (q1, .inr (0, [.ref u, .int (nI 0)])), (u, .inl (G.2.2.2.1, 35, .inl (fun _ => 0)))] := hB
  refine g_putF (own := RX3) (C := RX3) (T := TX3) (N := 2) (ci := 2) (v := .ref q1) hx hb ([(fa, .inr (2, [.ref q1, .int (nI 0)])), (q1, .inr (0, [.ref u, .int (nI 0)])), (u, .inl (G.2.2.2.1, 35, .inl (fun _ => 0)))]) hts (fun _ h => List.mem_cons_of_mem _ (List.mem_append_right _ h)) tyX3 tyX3_ok nmX3 hown hB 0 rfl rfl 0 (by decide) (hts (.fieldLink RX3 16 "PointReports$Frame" "bytes" "LPointReports$Bytes;") (by decide +kernel)) rfl rfl hnm rfl (ty := .object "PointReports$Bytes") rfl rfl rfl (Nat.le_of_ble_eq_true rfl) rfl dX3_init_14 (fun H locs hB => ?_)
  refine lv_aload_n hx hb dX3_init_17 rfl (lv_at hl 0 rfl) ?_
  refine lv_iconst (v := nI 2) hx hb dX3_init_18 (by decide) ?_
  refine g_put (own := RX3) (C := RX3) (T := TX3) (N := 2) (ci := 2) (v := .int (nI 2)) hx hb ([(fa, .inr (2, [.ref q1, .int (nI 2)])), (q1, .inr (0, [.ref u, .int (nI 0)])), (u, .inl (G.2.2.2.1, 35, .inl (fun _ => 0)))]) hts (fun _ h => List.mem_cons_of_mem _ (List.mem_append_right _ h)) tyX3 tyX3_ok nmX3 hown hB 0 rfl rfl 1 (by decide) (hts (.fieldLink RX3 20 "PointReports$Frame" "goesTo" "I") (by decide +kernel)) rfl rfl (ty := .int) rfl rfl rfl (Nat.le_of_ble_eq_true rfl) rfl dX3_init_19 (fun H locs hB => ?_)
  exact g_vret (S := Nat × Nat) (Wd := fun u => fW G fa u.1 u.2 35 (nI 2, nI 0, (fun _ => 0))) (q1, u) hB hx hb hr hlocks rfl trivial dX3_init_22
set_option maxRecDepth 100000 in
set_option maxHeartbeats 2000000 in
/-- Receiver() -/
theorem k_Receiver_init (l : Launch) (G : rG) (ra : Nat) : gM l G.1 (rT G) yX7_init wsX7_init { frames := 2, cells := 2, slots := 402, locals := 41 } [.ref ra] [(ra, .inr (5, [.null, .int (nI 0), .int (nI 0), .int (nI 0)]))] (gQv G.1 (rT G) (fun u : Nat × Nat => True) (fun u => rvW G ra u.1 u.2 ((0, 0, 0, []), (fun _ => 0)))) 2 402 := by
  refine gM.of (cc := cX7_init) (maxL := 1) (ret := none) (by decide) rfl (Nat.le_of_ble_eq_true rfl) ?_
  intro p e s m below meth c A ls hx hb hr hml hown hts hlocks hnm hB hl
  have hl : lv_has ls 1 [(0, .ref ra)] := hl
  refine lv_aload_n hx hb dX7_init_0 rfl (lv_at hl 0 rfl) ?_
  refine W.objInit hx hb hown (hts (.methodLink RX7 1 objectInit) (by decide +kernel)) (hts (.instanceMethod objectInit) (by decide +kernel)) (hts _ (List.mem_cons_of_mem _ (List.mem_append_left _ (List.mem_append_left _ (List.mem_of_getElem? (i := 2) rfl))))) rfl (by rw [hml]; exact hl.1) rfl dX7_init_1 (Nat.le_of_ble_eq_true rfl) (Nat.le_of_ble_eq_true rfl) ?_
  refine W.eq (g2 := F0 m 4 ls []) rfl ?_
  refine lv_aload_n hx hb dX7_init_4 rfl (lv_at hl 0 rfl) ?_
  refine g_new (own := RX7) (C := RX1) (T := TX1) (N := 2) (ci := 0) (fs := [.null, .int (nI 0)]) hx hb hts (fun _ h => List.mem_cons_of_mem _ (List.mem_append_left _ (List.mem_append_right _ h))) tyX1 tyX1_ok hown (hts (.classLink RX7 7 RX1) (by decide +kernel)) (hts (.instantiable RX1 2) (by decide +kernel)) (hts (.initialized RX1) (by decide +kernel)) hB rfl (by decide) (Nat.le_of_ble_eq_true rfl) (Nat.le_of_ble_eq_true rfl) dX7_init_5 (fun q1 H hB => ?_)
  have hB : gB G.1 (rT G) A s H [] [(ra, .inr (5, [.null, .int (nI 0), .int (nI 0), .int (nI 0)])), (q1, .inr (0, [.null, .int (nI 0)]))] := hB
  refine lv_dup hx hb dX7_init_8 rfl ?_
  refine lv_sipush (v := nI 400) hx hb dX7_init_9 (by decide) ?_
  refine g_callI (wr := [(ra, .inr (5, [.null, .int (nI 0), .int (nI 0), .int (nI 0)]))]) (wc := [(q1, .inr (0, [.null, .int (nI 0)]))]) (av := [.int (nI 400)]) (rest := [.ref q1, .ref ra]) ⟨hx, hb, hml, hown, hts⟩ (k_Bytes_init l G q1 400 (by decide)) (cwI 1 hts gX7_init_X1_init rfl rfl rfl (hts (.initialized RX1) (by decide +kernel)) (hts (.methodLink RX7 11 yX1_init) (by decide +kernel)) (hts (.instanceMethod yX1_init) (by decide +kernel)) rfl (by decide +kernel) ⟨Nat.le_of_ble_eq_true rfl, Nat.le_of_ble_eq_true rfl⟩) hB rfl hl.1 rfl (Nat.le_of_ble_eq_true rfl) dX7_init_12 ⟨Nat.le_of_ble_eq_true rfl, Nat.le_of_ble_eq_true rfl⟩ (fun u H locs hw hB => ?_)
  have hB : gB G.1 (rT G) A s H locs [(ra, .inr (5, [.null, .int (nI 0), .int (nI 0), .int (nI 0)])), (q1, .inr (0, [.ref u, .int (nI 0)])), (u, .inl (G.2.2.2.1, 400, .inl (fun _ => 0)))] := hB
  refine g_putF (own := RX7) (C := RX7) (T := TX7) (N := 4) (ci := 5) (v := .ref q1) hx hb ([(ra, .inr (5, [.ref q1, .int (nI 0), .int (nI 0), .int (nI 0)])), (q1, .inr (0, [.ref u, .int (nI 0)])), (u, .inl (G.2.2.2.1, 400, .inl (fun _ => 0)))]) hts (fun _ h => List.mem_cons_of_mem _ (List.mem_append_right _ h)) tyX7 tyX7_ok nmX7 hown hB 0 rfl rfl 0 (by decide) (hts (.fieldLink RX7 14 "PointReports$Receiver" "fragment" "LPointReports$Bytes;") (by decide +kernel)) rfl rfl hnm rfl (ty := .object "PointReports$Bytes") rfl rfl rfl (Nat.le_of_ble_eq_true rfl) rfl dX7_init_15 (fun H locs hB => ?_)
  exact g_vret (S := Nat × Nat) (Wd := fun u => rvW G ra u.1 u.2 ((0, 0, 0, []), (fun _ => 0))) (q1, u) hB hx hb hr hlocks rfl trivial dX7_init_18
set_option maxRecDepth 100000 in
set_option maxHeartbeats 2000000 in
/-- Sender(line, goesTo) -/
theorem k_Sender_init (l : Launch) (G : rG) (sa la g0 : Nat) : gM l G.1 (rT G) yX9_init wsX9_init { frames := 1, cells := 0, slots := 0, locals := 20 } [.ref sa, .ref la, .int (nI g0)] [(sa, .inr (6, [.null, .int (nI 0), .int (nI 0)]))] (gQv G.1 (rT G) (fun u : Unit => True) (fun _ => [(sa, .inr (6, [.ref la, .int (nI g0), .int (nI 0)]))])) 0 0 := by
  refine gM.of (cc := cX9_init) (maxL := 3) (ret := none) (by decide) rfl (Nat.le_of_ble_eq_true rfl) ?_
  intro p e s m below meth c A ls hx hb hr hml hown hts hlocks hnm hB hl
  have hl : lv_has ls 3 [(0, .ref sa), (1, .ref la), (2, .int (nI g0))] := hl
  refine lv_aload_n hx hb dX9_init_0 rfl (lv_at hl 0 rfl) ?_
  refine W.objInit hx hb hown (hts (.methodLink RX9 1 objectInit) (by decide +kernel)) (hts (.instanceMethod objectInit) (by decide +kernel)) (hts _ (List.mem_cons_of_mem _ (List.mem_append_left _ (List.mem_of_getElem? (i := 2) rfl)))) rfl (by rw [hml]; exact hl.1) rfl dX9_init_1 (Nat.le_of_ble_eq_true rfl) (Nat.le_of_ble_eq_true rfl) ?_
  refine W.eq (g2 := F0 m 4 ls []) rfl ?_
  refine lv_aload_n hx hb dX9_init_4 rfl (lv_at hl 0 rfl) ?_
  refine lv_aload_n hx hb dX9_init_5 rfl (lv_at hl 1 rfl) ?_
  refine g_putF (own := RX9) (C := RX9) (T := TX9) (N := 3) (ci := 6) (v := .ref la) hx hb ([(sa, .inr (6, [.ref la, .int (nI 0), .int (nI 0)]))]) hts (fun _ h => List.mem_cons_of_mem _ (List.mem_append_right _ h)) tyX9 tyX9_ok nmX9 hown hB 0 rfl rfl 0 (by decide) (hts (.fieldLink RX9 7 "PointReports$Sender" "line" "LPointReports$Line;") (by decide +kernel)) rfl rfl hnm rfl (ty := .object "PointReports$Line") rfl rfl rfl (Nat.le_of_ble_eq_true rfl) rfl dX9_init_6 (fun H locs hB => ?_)
  refine lv_aload_n hx hb dX9_init_9 rfl (lv_at hl 0 rfl) ?_
  refine lv_iload_n hx hb dX9_init_10 rfl (lv_at hl 2 rfl) ?_
  refine g_putF (own := RX9) (C := RX9) (T := TX9) (N := 3) (ci := 6) (v := .int (nI g0)) hx hb ([(sa, .inr (6, [.ref la, .int (nI g0), .int (nI 0)]))]) hts (fun _ h => List.mem_cons_of_mem _ (List.mem_append_right _ h)) tyX9 tyX9_ok nmX9 hown hB 0 rfl rfl 1 (by decide) (hts (.fieldLink RX9 13 "PointReports$Sender" "goesTo" "I") (by decide +kernel)) rfl rfl hnm rfl (ty := .int) rfl rfl rfl (Nat.le_of_ble_eq_true rfl) rfl dX9_init_11 (fun H locs hB => ?_)
  exact g_vret (S := Unit) (Wd := fun _ => [(sa, .inr (6, [.ref la, .int (nI g0), .int (nI 0)]))]) () hB hx hb hr hlocks rfl trivial dX9_init_14
