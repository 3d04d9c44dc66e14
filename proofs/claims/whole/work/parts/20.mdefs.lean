/-! the reference's reads of its board -/
def mview (v i : Nat) : Nat :=
  let r := if v % 2 = 0 then i / 6 else 5 - i / 6
  let c := if v / 2 % 2 * 2 = 0 then i % 6 else 5 - i % 6
  if v / 4 % 2 * 4 = 0 then 6 * r + c else 6 * c + r
theorem mview_lt : ∀ v, v < 8 → ∀ i, i < 36 → mview v i < 36 := by decide +kernel
def mcode (a b : Int64) (v : Nat) : Nat → Int64
  | 0 => 0
  | j + 1 => 3 * mcode a b v j + (if bt a (mview v (35 - j)) = true then 1 else if bt b (mview v (35 - j)) = true then 2 else 0)
def mleast (a b : Int64) : Nat → Int64
  | 0 => mcode a b 0 36
  | v + 1 => if mcode a b v 36 < mleast a b v then mcode a b v 36 else mleast a b v
def msym (a b : Int64) : Nat → Int32
  | 0 => 0
  | v + 1 => msym a b v + (if mcode a b v 36 = mcode a b 0 36 then 1 else 0)
def mwin (a : Int64) (c : Nat) : Prop := 0 < msum (a ||| jshl 1 (nI c)) 0 5 32
def mwcells (o a b : Int64) : Nat → Int32
  | 0 => 0
  | c + 1 => mwcells o a b c + (if bt (a ||| b) c = true then 0 else if 0 < msum (o ||| jshl 1 (nI c)) 0 5 32 then 1 else 0)
/-- the judgement behind a turn, for the side w whose marbles are o; u: the other side's -/
def mjw (o u : Int64) (w : Nat) : Int32 := if w = 1 then mjudge o u else mjudge u o
def mwturns (o u : Int64) (w : Nat) : Nat → Int32
  | 0 => 0
  | t + 1 => mwturns o u w t + (if mjw (mturned o (t / 2) (t % 2)) (mturned u (t / 2) (t % 2)) w = nI w then 1 else 0)
