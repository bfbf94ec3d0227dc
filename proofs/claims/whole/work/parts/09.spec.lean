/-! WHAT IS MEANT, in lists of bytes: the check, frames. -/
/-- n cells of f from a on -/
def seg (f : Nat → Int32) (a : Nat) : Nat → List Int32
  | 0 => []
  | n + 1 => seg f a n ++ [f (a + n)]
theorem seg_len (f : Nat → Int32) (a n : Nat) : (seg f a n).length = n := by
  induction n with
  | zero => rfl
  | succ n ih => rw [seg, List.length_append, ih]; rfl
/-- one step of the check -/
def ckS (c : Int32) : Int32 := if c &&& 1 = 1 then (c >>> (1 &&& 31)) ^^^ 42684 else c >>> (1 &&& 31)
def ckI : Nat → Int32 → Int32
  | 0, c => c
  | n + 1, c => ckS (ckI n c)
def ckF (l : List Int32) : Int32 := l.foldl (fun c b => ckI 8 (c ^^^ b)) 0
def ck (l : List Int32) : Int32 := ckF l ^^^ 65535
theorem ckF_add (l : List Int32) (b : Int32) : ckF (l ++ [b]) = ckI 8 (ckF l ^^^ b) := by simp [ckF]
