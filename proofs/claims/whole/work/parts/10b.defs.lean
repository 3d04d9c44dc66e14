/-! what the pure methods answer: the reference's side (m..), the class's side (c..) -/
def mcell (p k : Nat) : Nat := if p < 12 then 6 * (p / 2) + p % 2 + k else if p < 24 then 6 * ((p - 12) % 2 + k) + (p - 12) / 2 else if p < 28 then 6 * ((p - 24) / 2 % 2 + k) + p % 2 + k else 6 * ((p - 24) / 2 % 2 + k) + 5 - p % 2 - k
theorem mcell_lt : ∀ p, p < 32 → ∀ k, k < 5 → mcell p k < 36 := by decide +kernel
def mmany (a b : Int64) (p : Nat) : Nat → Int32
  | 0 => 0
  | k + 1 => mmany a b p k + (if bt a (mcell p k) = true then 1 else if bt b (mcell p k) = true then (-9) else 0)
def msum (a b : Int64) (n : Int32) : Nat → Int32
  | 0 => 0
  | p + 1 => msum a b n p + (if mmany a b p 5 = n then 1 else 0)

def mjudge (a b : Int64) : Int32 := if 0 < msum a 0 5 32 ∧ 0 < msum b 0 5 32 then 3 else if 0 < msum a 0 5 32 then 1 else if 0 < msum b 0 5 32 then 2 else if (a ||| b) = 68719476735 then 3 else 0
def msize (a : Int64) : Nat → Nat
  | 0 => 0
  | n + 1 => msize a n + (if bt a n = true then 1 else 0)
def mbase (q : Nat) : Nat := q / 2 * 18 + q % 2 * 3
def mto (w r c : Nat) : Nat := if w = 0 then 6 * c + 2 - r else 6 * (2 - c) + r
def mclr (q w : Nat) (x : Int64) (r : Nat) : Nat → Int64
  | 0 => x
  | c + 1 => mclr q w x r c &&& (jshl 1 (nI (mbase q + mto w r c)) ^^^ (-1))
def mclrs (q w : Nat) (x : Int64) : Nat → Int64
  | 0 => x
  | r + 1 => mclr q w (mclrs q w x r) r 3
def mset (q w : Nat) (a x : Int64) (r : Nat) : Nat → Int64
  | 0 => x
  | c + 1 => mset q w a x r c ||| (if bt a (mbase q + 6 * r + c) = true then jshl 1 (nI (mbase q + mto w r c)) else 0)
def msets (q w : Nat) (a x : Int64) : Nat → Int64
  | 0 => x
  | r + 1 => mset q w a (msets q w a x r) r 3
def mturned (a : Int64) (q w : Nat) : Int64 := msets q w a (mclrs q w a 3) 3
def cfives (a : Int64) (s : Nat) : Int64 := ((a &&& jushr a (nI s)) &&& jushr (a &&& jushr a (nI s)) (nI (2 * s))) &&& jushr a (nI (4 * s))
def cline (a : Int64) : Bool := decide (¬ (cfives a 1 &&& 3272356035) = 0 ∨ ¬ (cfives a 6 &&& 4095) = 0 ∨ ¬ (cfives a 7 &&& 195) = 0 ∨ ¬ (cfives a 5 &&& 3120) = 0)
def pop (a : Int64) : Nat := msize a 64
def clines (a : Int64) : Nat := pop (cfives a 1 &&& 3272356035) + pop (cfives a 6 &&& 4095) + pop (cfives a 7 &&& 195) + pop (cfives a 5 &&& 3120)
def cfw (a e : Int64) (s g : Nat) : Nat → Int64
  | 0 => 68719476735
  | n + 1 => cfw a e s g n &&& jushr (if n = g then e else a) (nI (n * s))
def cfours (a e : Int64) : Nat → Nat
  | 0 => 0
  | g + 1 => cfours a e g + (pop (cfw a e 1 g 5 &&& 3272356035) + pop (cfw a e 6 g 5 &&& 4095) + pop (cfw a e 7 g 5 &&& 195) + pop (cfw a e 5 g 5 &&& 3120))
def vorg (v : Nat) : Int32 := (if v % 2 = 0 then 0 else 30) + (if v / 2 % 2 * 2 = 0 then 0 else 5)
def vdown (v : Nat) : Int32 := if v % 2 = 0 then 6 else (-6)
def vacross (v : Nat) : Int32 := if v / 2 % 2 * 2 = 0 then 1 else (-1)
def vrow (v : Nat) : Int32 := if v / 4 % 2 * 4 = 0 then vdown v else vacross v
def vcol (v : Nat) : Int32 := if v / 4 % 2 * 4 = 0 then vacross v else vdown v
/-- the cell that the class's view v shows at the place i -/
def cview (v i : Nat) : Nat :=
  let r := if v % 2 = 0 then i / 6 else 5 - i / 6
  let c := if v / 2 % 2 = 0 then i % 6 else 5 - i % 6
  let r2 := if v % 2 = 0 then i % 6 else 5 - i % 6
  let c2 := if v / 2 % 2 = 0 then i / 6 else 5 - i / 6
  if v / 4 % 2 = 0 then 6 * r + c else 6 * r2 + c2
theorem cview_lt : ∀ v, v < 8 → ∀ i, i < 36 → cview v i < 36 := by decide +kernel
theorem cview_eq : ∀ v, v < 8 → ∀ i, i < 36 → vorg v + nI (i / 6) * vrow v + nI (i % 6) * vcol v = nI (cview v i) := by decide +kernel
theorem view1 : ∀ v, v < 8 → nI v &&& 1 = nI (v % 2) := by decide +kernel
theorem view2 : ∀ v, v < 8 → nI v &&& 2 = nI (v / 2 % 2 * 2) := by decide +kernel
theorem view4 : ∀ v, v < 8 → nI v &&& 4 = nI (v / 4 % 2 * 4) := by decide +kernel
def ccode (a b : Int64) (v : Nat) : Nat → Int64
  | 0 => 0
  | j + 1 => 3 * ccode a b v j + (jushr a (nI (cview v (35 - j))) &&& 1) + 2 * (jushr b (nI (cview v (35 - j))) &&& 1)
def cleast (a b : Int64) : Nat → Int64
  | 0 => ccode a b 0 36
  | v + 1 => if ccode a b v 36 < cleast a b v then ccode a b v 36 else cleast a b v
def csym (a b : Int64) : Nat → Nat
  | 0 => 0
  | v + 1 => csym a b v + (if ccode a b v 36 = ccode a b 0 36 then 1 else 0)
/-- a countdown's counter: one less than n -/
def pm : Nat → Int32
  | 0 => (-1)
  | n + 1 => nI n
theorem pm_dec (n : Nat) : nI n + (-1) = pm n := by
  cases n with
  | zero => rfl
  | succ n => exact pk_m1 n
