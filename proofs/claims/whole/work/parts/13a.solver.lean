/-! the class's solver, on plain boards; n: the empty cells when a marble is to be put -/
def vmax (x y : Int32) : Int32 := if x < y then y else x
def vbehind (f : Int64 → Int64 → Int32) (a b : Int64) (t : Nat) : Int32 := if cline (cturned a t) = true then (if cline (cturned b t) = true then 0 else 1) else if cline (cturned b t) = true then (-1) else - f (cturned b t) (cturned a t)
def vturn (f : Int64 → Int64 → Int32) (a b : Int64) : Nat → Int32
  | 0 => (-1)
  | t + 1 => if vturn f a b t < 1 then vmax (vturn f a b t) (vbehind f a b t) else vturn f a b t
def vcell (f : Int64 → Int64 → Int32) (a b : Int64) (c : Nat) : Int32 := if cline (a ||| jshl 1 (nI c)) = true then 1 else vturn f (a ||| jshl 1 (nI c)) b 8
def vplay (f : Int64 → Int64 → Int32) (a b : Int64) : Nat → Int32
  | 0 => (-1)
  | c + 1 => if vplay f a b c < 1 then (if ((a ||| b) &&& jshl 1 (nI c)) = 0 then vmax (vplay f a b c) (vcell f a b c) else vplay f a b c) else vplay f a b c
def vput : Nat → Int64 → Int64 → Int32
  | 0 => fun _ _ => 0
  | n + 1 => fun a b => vplay (vput n) a b 36
def tlow (f : Int64 → Int64 → Int32) (a b : Int64) : Nat → Int32 × Nat
  | 0 => ((-2), 0)
  | t + 1 => if (tlow f a b t).1 < 1 then (if (tlow f a b t).1 < vbehind f a b t then (vbehind f a b t, t) else tlow f a b t) else tlow f a b t
def mval (f : Int64 → Int64 → Int32) (a b : Int64) (m : Nat) : Int32 := if cline (a ||| jshl 1 (nI (m / 8))) = true then 1 else vbehind f (a ||| jshl 1 (nI (m / 8))) b (m % 8)
def mlow (f : Int64 → Int64 → Int32) (a b : Int64) : Nat → Int32 × Nat
  | 0 => ((-2), 0)
  | m + 1 => if (mlow f a b m).1 < 1 then (if ((a ||| b) &&& jshl 1 (nI (m / 8))) = 0 then (if (mlow f a b m).1 < mval f a b m then (mval f a b m, m) else mlow f a b m) else mlow f a b m) else mlow f a b m
theorem vturn_stop {f : Int64 → Int64 → Int32} {a b : Int64} {i : Nat} (h : 1 ≤ vturn f a b i) : ∀ k, vturn f a b (i + k) = vturn f a b i
  | 0 => rfl
  | k + 1 => by
    show (if vturn f a b (i + k) < 1 then _ else _) = _
    rw [vturn_stop h k, if_neg (Int32.not_lt.mpr h)]
    exact vturn_stop h k
theorem vplay_stop {f : Int64 → Int64 → Int32} {a b : Int64} {i : Nat} (h : 1 ≤ vplay f a b i) : ∀ k, vplay f a b (i + k) = vplay f a b i
  | 0 => rfl
  | k + 1 => by
    show (if vplay f a b (i + k) < 1 then _ else _) = _
    rw [vplay_stop h k, if_neg (Int32.not_lt.mpr h)]
    exact vplay_stop h k
theorem tlow_stop {f : Int64 → Int64 → Int32} {a b : Int64} {i : Nat} (h : 1 ≤ (tlow f a b i).1) : ∀ k, tlow f a b (i + k) = tlow f a b i
  | 0 => rfl
  | k + 1 => by
    show (if (tlow f a b (i + k)).1 < 1 then _ else _) = _
    rw [tlow_stop h k, if_neg (Int32.not_lt.mpr h)]
    exact tlow_stop h k
theorem mlow_stop {f : Int64 → Int64 → Int32} {a b : Int64} {i : Nat} (h : 1 ≤ (mlow f a b i).1) : ∀ k, mlow f a b (i + k) = mlow f a b i
  | 0 => rfl
  | k + 1 => by
    show (if (mlow f a b (i + k)).1 < 1 then _ else _) = _
    rw [mlow_stop h k, if_neg (Int32.not_lt.mpr h)]
    exact mlow_stop h k
theorem stop8 {f : Int64 → Int64 → Int32} {a b : Int64} {i : Nat} (h : 1 ≤ vturn f a b i) (hi : i < 8) : vturn f a b i = vturn f a b 8 := by
  have := vturn_stop h (8 - i)
  rw [show i + (8 - i) = 8 by omega] at this
  exact this.symm
theorem stop36 {f : Int64 → Int64 → Int32} {a b : Int64} {i : Nat} (h : 1 ≤ vplay f a b i) (hi : i < 36) : vplay f a b i = vplay f a b 36 := by
  have := vplay_stop h (36 - i)
  rw [show i + (36 - i) = 36 by omega] at this
  exact this.symm
theorem stopT {f : Int64 → Int64 → Int32} {a b : Int64} {i : Nat} (h : 1 ≤ (tlow f a b i).1) (hi : i < 8) : tlow f a b i = tlow f a b 8 := by
  have := tlow_stop h (8 - i)
  rw [show i + (8 - i) = 8 by omega] at this
  exact this.symm
theorem stopM {f : Int64 → Int64 → Int32} {a b : Int64} {i : Nat} (h : 1 ≤ (mlow f a b i).1) (hi : i < 288) : mlow f a b i = mlow f a b 288 := by
  have := mlow_stop h (288 - i)
  rw [show i + (288 - i) = 288 by omega] at this
  exact this.symm
theorem msize_le (a : Int64) : ∀ n, msize a n ≤ n
  | 0 => Nat.le_refl 0
  | n + 1 => by
    have := msize_le a n
    show msize a n + _ ≤ n + 1
    split <;> omega
theorem pop_le (a : Int64) : pop a ≤ 64 := msize_le a 64
/-! boards on which the solver is called: a the own marbles, b the other side's; n cells are empty -/
def inB (a : Int64) : Prop := ∀ i, 36 ≤ i → bt a i = false
def dis (a b : Int64) : Prop := ∀ i, (bt a i && bt b i) = false
def BV (n : Nat) (a b : Int64) : Prop := inB a ∧ inB b ∧ dis a b ∧ pop a + pop b + n = 36 ∧ (pop a = pop b ∨ pop b = pop a + 1)
def BH (n : Nat) (a b : Int64) : Prop := inB a ∧ inB b ∧ dis a b ∧ pop a + pop b + n = 36 ∧ (pop a = pop b ∨ pop a = pop b + 1)
/-- a board's form: the side 1 has as many marbles as the side 2 when it is to put -/
def fkey (a b : Int64) : Int64 := if pop a = pop b then cleast a b 8 else cleast b a 8
/-- what the table holds is true -/
def TI (fm : Nat → Int64) (vl : Nat → Int32) : Prop := ∀ i, i < 1024 → ∀ n a b, BV n a b → n ≤ 3 → fkey a b = fm i → vput n a b = vl i
/-! one round of each loop -/
section STEPS
variable {f : Int64 → Int64 → Int32} {a b : Int64} {i : Nat}
theorem vturn_s (h1 : ¬ 1 ≤ vturn f a b i) : (if vturn f a b i < vbehind f a b i then vbehind f a b i else vturn f a b i) = vturn f a b (i + 1) := by
  show _ = (if vturn f a b i < 1 then vmax (vturn f a b i) (vbehind f a b i) else vturn f a b i)
  rw [if_pos (Int32.not_le.mp h1)]; rfl
theorem vplay_a (h1 : ¬ 1 ≤ vplay f a b i) (h2 : ¬ ((a ||| b) &&& jshl 1 (nI i)) = 0) : vplay f a b i = vplay f a b (i + 1) := by
  show _ = (if vplay f a b i < 1 then (if ((a ||| b) &&& jshl 1 (nI i)) = 0 then vmax (vplay f a b i) (vcell f a b i) else vplay f a b i) else vplay f a b i)
  rw [if_neg h2]; split <;> rfl
theorem vplay_c (h1 : ¬ 1 ≤ vplay f a b i) (h2 : ((a ||| b) &&& jshl 1 (nI i)) = 0) {v : Int32} (hv : vcell f a b i = v) : (if vplay f a b i < v then v else vplay f a b i) = vplay f a b (i + 1) := by
  show _ = (if vplay f a b i < 1 then (if ((a ||| b) &&& jshl 1 (nI i)) = 0 then vmax (vplay f a b i) (vcell f a b i) else vplay f a b i) else vplay f a b i)
  rw [if_pos h2, hv, if_pos (c := vplay f a b i < 1) (Int32.not_le.mp h1) (t := vmax (vplay f a b i) v)]; rfl
theorem vcell_1 (h : cline (a ||| jshl 1 (nI i)) = true) : vcell f a b i = 1 := if_pos h
theorem vcell_t (h : ¬ cline (a ||| jshl 1 (nI i)) = true) : vcell f a b i = vturn f (a ||| jshl 1 (nI i)) b 8 := if_neg h
theorem tlow_e : tlow f a b (i + 1) = if (tlow f a b i).1 < 1 then (if (tlow f a b i).1 < vbehind f a b i then (vbehind f a b i, i) else tlow f a b i) else tlow f a b i := rfl
theorem tlow_a (h1 : ¬ 1 ≤ (tlow f a b i).1) (h2 : ¬ vbehind f a b i ≤ (tlow f a b i).1) : tlow f a b (i + 1) = (vbehind f a b i, i) := by
  rw [tlow_e, if_pos (Int32.not_le.mp h1), if_pos (Int32.not_le.mp h2)]
theorem tlow_b (h1 : ¬ 1 ≤ (tlow f a b i).1) (h2 : vbehind f a b i ≤ (tlow f a b i).1) : tlow f a b (i + 1) = tlow f a b i := by
  rw [tlow_e, if_pos (Int32.not_le.mp h1), if_neg (Int32.not_lt.mpr h2)]
theorem mlow_e : mlow f a b (i + 1) = if (mlow f a b i).1 < 1 then (if ((a ||| b) &&& jshl 1 (nI (i / 8))) = 0 then (if (mlow f a b i).1 < mval f a b i then (mval f a b i, i) else mlow f a b i) else mlow f a b i) else mlow f a b i := rfl
theorem mlow_n (h1 : ¬ 1 ≤ (mlow f a b i).1) (h2 : ¬ ((a ||| b) &&& jshl 1 (nI (i / 8))) = 0) : mlow f a b (i + 1) = mlow f a b i := by
  rw [mlow_e, if_pos (Int32.not_le.mp h1), if_neg h2]
theorem mlow_a (h1 : ¬ 1 ≤ (mlow f a b i).1) (h2 : ((a ||| b) &&& jshl 1 (nI (i / 8))) = 0) {v : Int32} (hv : mval f a b i = v) (h3 : ¬ v ≤ (mlow f a b i).1) : mlow f a b (i + 1) = (v, i) := by
  rw [mlow_e, if_pos (Int32.not_le.mp h1), if_pos h2, hv, if_pos (Int32.not_le.mp h3)]
theorem mlow_b (h1 : ¬ 1 ≤ (mlow f a b i).1) (h2 : ((a ||| b) &&& jshl 1 (nI (i / 8))) = 0) {v : Int32} (hv : mval f a b i = v) (h3 : v ≤ (mlow f a b i).1) : mlow f a b (i + 1) = mlow f a b i := by
  rw [mlow_e, if_pos (Int32.not_le.mp h1), if_pos h2, hv, if_neg (Int32.not_lt.mpr h3)]
theorem mval_1 (h : cline (a ||| jshl 1 (nI (i / 8))) = true) : mval f a b i = 1 := if_pos h
theorem mval_t (h : ¬ cline (a ||| jshl 1 (nI (i / 8))) = true) : mval f a b i = vbehind f (a ||| jshl 1 (nI (i / 8))) b (i % 8) := if_neg h
end STEPS
