/-! ROWS OF MY OWN: a value on the stack by an equal one, loops, cuts, beginnings of arrays as lists. -/
section GR
variable {p : Program} {l : Launch} {e : Env} {R : Room} {s : State} {m : MethodId} {args : Array Value} {below : List Frame} {meth : Method} {c : Code} {H : Heap} {locs : List Loc} {cells slots : Nat} {Q : State → Prop}
variable {pc : Nat} {ls : Array Slot} {rest st : List Value}
theorem g_top {x y : Int32} (h : x = y) (k : W p l e R s m args below meth c H locs cells slots Q (F0 m pc ls (.int y :: rest))) : W p l e R s m args below meth c H locs cells slots Q (F0 m pc ls (.int x :: rest)) := by
  subst h
  exact k
theorem g_topl {x y : Int64} (h : x = y) (k : W p l e R s m args below meth c H locs cells slots Q (F0 m pc ls (.long y :: rest))) : W p l e R s m args below meth c H locs cells slots Q (F0 m pc ls (.long x :: rest)) := by
  subst h
  exact k
/-- a loop: an invariant I with a number d that falls -/
theorem g_loop {σ : Type} (I : Nat → σ → Heap → List Loc → Array Slot → Prop) (d0 : Nat) (x0 : σ) (h0 : I d0 x0 H locs ls)
    (body : ∀ (d : Nat) (x : σ) (H : Heap) (locs : List Loc) (ls : Array Slot), I d x H locs ls → (∀ (d2 : Nat) (x2 : σ) (H : Heap) (locs : List Loc) (ls : Array Slot), d2 < d → I d2 x2 H locs ls → W p l e R s m args below meth c H locs cells slots Q (F0 m pc ls st)) → W p l e R s m args below meth c H locs cells slots Q (F0 m pc ls st)) : W p l e R s m args below meth c H locs cells slots Q (F0 m pc ls st) := by
  have key : ∀ (n d : Nat) (x : σ) (H : Heap) (locs : List Loc) (ls : Array Slot), d < n → I d x H locs ls → W p l e R s m args below meth c H locs cells slots Q (F0 m pc ls st) := by
    intro n
    induction n with
    | zero => intro d x H locs ls h; exact absurd h (Nat.not_lt_zero d)
    | succ n ih => intro d x H locs ls h hI; exact body d x H locs ls hI (fun d2 x2 H locs ls h2 => ih d2 x2 H locs ls (by omega))
  exact key (d0 + 1) d0 x0 H locs ls (Nat.lt_succ_self d0) h0
/-- a cut: what is shown once of a later place, from every state with I -/
theorem g_cut {σ : Type} (pc2 : Nat) (I : σ → Heap → List Loc → Array Slot → Prop) (stk : σ → List Value)
    (k : ∀ (x : σ) (H : Heap) (locs : List Loc) (ls : Array Slot), I x H locs ls → W p l e R s m args below meth c H locs cells slots Q (F0 m pc2 ls (stk x)))
    (main : (∀ (x : σ) (H : Heap) (locs : List Loc) (ls : Array Slot), I x H locs ls → W p l e R s m args below meth c H locs cells slots Q (F0 m pc2 ls (stk x))) → W p l e R s m args below meth c H locs cells slots Q (F0 m pc ls st)) : W p l e R s m args below meth c H locs cells slots Q (F0 m pc ls st) := main k
end GR
/-- f begins with the list l -/
def pfx (f : Nat → Int32) (l : List Int32) : Prop := ∀ j : Nat, j < l.length → f j = l.getD j 0
theorem pfx_nil (f : Nat → Int32) : pfx f [] := fun j h => absurd h (Nat.not_lt_zero j)
theorem upd_self {f : Nat → Int32} {k : Nat} {x : Int32} : upd f k x k = x := by simp [upd]
theorem upd_ne {f : Nat → Int32} {k j : Nat} {x : Int32} (h : j ≠ k) : upd f k x j = f j := by simp [upd, h]
theorem pfx_add {f : Nat → Int32} {l : List Int32} {x : Int32} (h : pfx f l) : pfx (upd f l.length x) (l ++ [x]) := by
  intro j hj
  rw [List.length_append, List.length_singleton] at hj
  by_cases hq : j = l.length
  · subst hq
    rw [upd_self, List.getD_eq_getElem?_getD, List.getElem?_append_right (Nat.le_refl _), Nat.sub_self]
    rfl
  · rw [upd_ne hq, h j (by omega), List.getD_eq_getElem?_getD, List.getD_eq_getElem?_getD, List.getElem?_append_left (by omega)]
theorem pfx_addN {f : Nat → Int32} {l : List Int32} {x : Int32} {n : Nat} (hn : n = l.length) (h : pfx f l) : pfx (upd f n x) (l ++ [x]) := by
  subst hn
  exact pfx_add h
/-- the bytes of a number, the lowest first -/
def bN (v : Int32) : Nat → List Int32
  | 0 => []
  | n + 1 => bN v n ++ [(v >>> (nI (8 * n) &&& 31)) &&& 255]
theorem bN_len (v : Int32) (n : Nat) : (bN v n).length = n := by
  induction n with
  | zero => rfl
  | succ n ih => rw [bN, List.length_append, ih]; rfl
