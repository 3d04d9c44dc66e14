/-! the reference's reads of its board -/
def mrow (v i : Nat) : Nat := if v % 2 = 0 then i / 6 else 5 - i / 6
def mcol (v i : Nat) : Nat := if v / 2 % 2 * 2 = 0 then i % 6 else 5 - i % 6
def mview (v i : Nat) : Nat := if v / 4 % 2 * 4 = 0 then 6 * mrow v i + mcol v i else 6 * mcol v i + mrow v i
theorem mview_lt : ∀ v, v < 8 → ∀ i, i < 36 → mview v i < 36 := by decide +kernel
theorem mrow_lt : ∀ v, v < 8 → ∀ i, i < 36 → mrow v i < 6 := by decide +kernel
theorem mcol_lt : ∀ v, v < 8 → ∀ i, i < 36 → mcol v i < 6 := by decide +kernel
def mcode (a b : Int64) (v : Nat) : Nat → Int64
  | 0 => 0
  | j + 1 => 3 * mcode a b v j + (if bt a (mview v (35 - j)) = true then 1 else if bt b (mview v (35 - j)) = true then 2 else 0)
theorem mcode_1 {a b : Int64} {v j : Nat} (h : bt a (mview v (35 - j)) = true) : 3 * mcode a b v j + 1 = mcode a b v (j + 1) := by
  show _ = 3 * mcode a b v j + _; rw [if_pos h]
theorem mcode_2 {a b : Int64} {v j : Nat} (h : ¬ bt a (mview v (35 - j)) = true) (h2 : bt b (mview v (35 - j)) = true) : 3 * mcode a b v j + 2 = mcode a b v (j + 1) := by
  show _ = 3 * mcode a b v j + _; rw [if_neg h, if_pos h2]
theorem mcode_3 {a b : Int64} {v j : Nat} (h : ¬ bt a (mview v (35 - j)) = true) (h2 : ¬ bt b (mview v (35 - j)) = true) : 3 * mcode a b v j + 0 = mcode a b v (j + 1) := by
  show _ = 3 * mcode a b v j + _; rw [if_neg h, if_neg h2]
def mleast (a b : Int64) : Nat → Int64
  | 0 => mcode a b 0 36
  | v + 1 => if mcode a b v 36 < mleast a b v then mcode a b v 36 else mleast a b v
theorem mleast_e {a b : Int64} {v : Nat} : mleast a b (v + 1) = if mcode a b v 36 < mleast a b v then mcode a b v 36 else mleast a b v := rfl
theorem mleast_0 {a b : Int64} : mcode a b 0 36 = mleast a b 1 := by rw [mleast_e]; split <;> rfl
theorem mleast_1 {a b : Int64} {v : Nat} (h : mleast a b v ≤ mcode a b v 36) : mleast a b v = mleast a b (v + 1) := by rw [mleast_e, if_neg (Int64.not_lt.mpr h)]
theorem mleast_2 {a b : Int64} {v : Nat} (h : ¬ mleast a b v ≤ mcode a b v 36) : mcode a b v 36 = mleast a b (v + 1) := by rw [mleast_e, if_pos (Int64.not_le.mp h)]
def msym (a b : Int64) : Nat → Int32
  | 0 => 0
  | v + 1 => msym a b v + (if mcode a b v 36 = mcode a b 0 36 then 1 else 0)
theorem msym_1 {a b : Int64} {v : Nat} (h : mcode a b v 36 = mcode a b 0 36) : msym a b v + 1 = msym a b (v + 1) := by show _ = msym a b v + _; rw [if_pos h]
theorem msym_2 {a b : Int64} {v : Nat} (h : ¬ mcode a b v 36 = mcode a b 0 36) : msym a b v + 0 = msym a b (v + 1) := by show _ = msym a b v + _; rw [if_neg h]
def mwc (o q : Int64) : Nat → Int32
  | 0 => 0
  | c + 1 => mwc o q c + (if bt q c = true then 0 else if 0 < msum (o ||| jshl 1 (nI c)) 0 5 32 then 1 else 0)
theorem mwc_1 {o q : Int64} {c : Nat} (h : bt q c = true) : mwc o q c + 0 = mwc o q (c + 1) := by show _ = mwc o q c + _; rw [if_pos h]
theorem mwc_2 {o q : Int64} {c : Nat} (h : ¬ bt q c = true) (h2 : 0 < msum (o ||| jshl 1 (nI c)) 0 5 32) : mwc o q c + 1 = mwc o q (c + 1) := by show _ = mwc o q c + _; rw [if_neg h, if_pos h2]
theorem mwc_3 {o q : Int64} {c : Nat} (h : ¬ bt q c = true) (h2 : ¬ 0 < msum (o ||| jshl 1 (nI c)) 0 5 32) : mwc o q c + 0 = mwc o q (c + 1) := by show _ = mwc o q c + _; rw [if_neg h, if_neg h2]
def mwt (f g : Int64) (s : Int32) : Nat → Int32
  | 0 => 0
  | t + 1 => mwt f g s t + (if mjudge (mturned f (t / 2) (t % 2)) (mturned g (t / 2) (t % 2)) = s then 1 else 0)
theorem mwt_1 {f g : Int64} {s : Int32} {t : Nat} (h : mjudge (mturned f (t / 2) (t % 2)) (mturned g (t / 2) (t % 2)) = s) : mwt f g s t + 1 = mwt f g s (t + 1) := by show _ = mwt f g s t + _; rw [if_pos h]
theorem mwt_2 {f g : Int64} {s : Int32} {t : Nat} (h : ¬ mjudge (mturned f (t / 2) (t % 2)) (mturned g (t / 2) (t % 2)) = s) : mwt f g s t + 0 = mwt f g s (t + 1) := by show _ = mwt f g s t + _; rw [if_neg h]
