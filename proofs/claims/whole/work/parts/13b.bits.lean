/-! bits: maps that go through 'or'; the turns as permutations of the cells -/
theorem jshl_or (x y : Int64) (k : Int32) : jshl (x ||| y) k = jshl x k ||| jshl y k := by
  apply Int64.toBitVec_inj.mp
  unfold jshl
  rw [Int64.toBitVec_or, Int64.toBitVec_shiftLeft, Int64.toBitVec_shiftLeft, Int64.toBitVec_shiftLeft, Int64.toBitVec_or]
  apply BitVec.eq_of_getLsbD_eq
  intro i hi
  show ((x.toBitVec ||| y.toBitVec) <<< ((k.toInt64 &&& 63).toBitVec.smod 64).toNat).getLsbD i = (x.toBitVec <<< ((k.toInt64 &&& 63).toBitVec.smod 64).toNat ||| y.toBitVec <<< ((k.toInt64 &&& 63).toBitVec.smod 64).toNat).getLsbD i
  rw [BitVec.getLsbD_or, BitVec.getLsbD_shiftLeft, BitVec.getLsbD_shiftLeft, BitVec.getLsbD_shiftLeft, BitVec.getLsbD_or]
  cases decide (i < 64) <;> cases decide (i < ((k.toInt64 &&& 63).toBitVec.smod 64).toNat) <;> simp
theorem jushr_or (x y : Int64) (k : Int32) : jushr (x ||| y) k = jushr x k ||| jushr y k := by
  apply Int64.toBitVec_inj.mp
  rw [Int64.toBitVec_or]
  show ((x ||| y).toUInt64 >>> (k.toInt64.toUInt64 &&& Int64.toUInt64 63)).toBitVec = (x.toUInt64 >>> (k.toInt64.toUInt64 &&& Int64.toUInt64 63)).toBitVec ||| (y.toUInt64 >>> (k.toInt64.toUInt64 &&& Int64.toUInt64 63)).toBitVec
  rw [UInt64.toBitVec_shiftRight, UInt64.toBitVec_shiftRight, UInt64.toBitVec_shiftRight]
  apply BitVec.eq_of_getLsbD_eq
  intro i hi
  show ((x.toBitVec ||| y.toBitVec) >>> ((k.toInt64.toUInt64 &&& Int64.toUInt64 63).toBitVec % 64).toNat).getLsbD i = (x.toBitVec >>> ((k.toInt64.toUInt64 &&& Int64.toUInt64 63).toBitVec % 64).toNat ||| y.toBitVec >>> ((k.toInt64.toUInt64 &&& Int64.toUInt64 63).toBitVec % 64).toNat).getLsbD i
  rw [BitVec.getLsbD_or, BitVec.getLsbD_ushiftRight, BitVec.getLsbD_ushiftRight, BitVec.getLsbD_ushiftRight, BitVec.getLsbD_or]
theorem land_or (x y c : Int64) : (x ||| y) &&& c = (x &&& c) ||| (y &&& c) := by
  apply bt_ext; intro i _
  simp only [bt_and, bt_or]
  cases bt x i <;> cases bt y i <;> cases bt c i <;> rfl
theorem lor4 (a b c d : Int64) : (a ||| b) ||| (c ||| d) = (a ||| c) ||| (b ||| d) := by
  apply bt_ext; intro i _
  simp only [bt_or]
  cases bt a i <;> cases bt b i <;> cases bt c i <;> cases bt d i <;> rfl
theorem lor_0 (a : Int64) : a ||| 0 = a := by
  apply bt_ext; intro i _
  rw [bt_or, bt_0, Bool.or_false]
def upto (x : Int64) : Nat → Int64
  | 0 => 0
  | n + 1 => upto x n ||| (if bt x n = true then b1 n else 0)
theorem upto_bt (x : Int64) : ∀ n, n ≤ 64 → ∀ j, j < 64 → bt (upto x n) j = (decide (j < n) && bt x j) := by
  intro n
  induction n with
  | zero => intro _ j _; show bt 0 j = _; rw [bt_0]; simp
  | succ n ih =>
    intro hn j hj
    show bt (upto x n ||| (if bt x n = true then b1 n else 0)) j = _
    rw [bt_or, ih (by omega) j hj]
    by_cases h : bt x n = true
    · rw [if_pos h, bt_b1 (by omega) hj]
      by_cases h2 : j = n
      · subst h2; rw [h]; simp
      · rw [decide_eq_false h2, Bool.or_false]
        have : decide (j < n) = decide (j < n + 1) := by by_cases q : j < n <;> simp [q] <;> omega
        rw [this]
    · rw [if_neg h, bt_0, Bool.or_false]
      by_cases h2 : j = n
      · subst h2
        have : bt x j = false := by cases q : bt x j <;> simp_all
        rw [this]; simp
      · have : decide (j < n) = decide (j < n + 1) := by by_cases q : j < n <;> simp [q] <;> omega
        rw [this]
theorem upto_all (x : Int64) : upto x 64 = x := by
  apply bt_ext; intro i hi
  rw [upto_bt x 64 (by omega) i hi, decide_eq_true hi]; rfl
/-- a map through 'or' that moves single cells by σ moves all: π is σ's inverse -/
theorem lin_bt {F : Int64 → Int64} (h0 : F 0 = 0) (hor : ∀ x y, F (x ||| y) = F x ||| F y) {σ π : Nat → Nat} (hb : ∀ i, i < 64 → F (b1 i) = b1 (σ i)) (hs : ∀ i, i < 64 → σ i < 64) (hinv : ∀ i, i < 64 → ∀ j, j < 64 → decide (j = σ i) = decide (i = π j)) (x : Int64) {j : Nat} (hj : j < 64) (hp : π j < 64) : bt (F x) j = bt x (π j) := by
  have key : ∀ n, n ≤ 64 → bt (F (upto x n)) j = (decide (π j < n) && bt x (π j)) := by
    intro n
    induction n with
    | zero => intro _; show bt (F 0) j = _; rw [h0, bt_0]; simp
    | succ n ih =>
      intro hn
      show bt (F (upto x n ||| (if bt x n = true then b1 n else 0))) j = _
      rw [hor, bt_or, ih (by omega)]
      by_cases h : bt x n = true
      · rw [if_pos h, hb n (by omega), bt_b1 (hs n (by omega)) hj, hinv n (by omega) j hj]
        by_cases h2 : n = π j
        · rw [← h2, h]; simp
        · rw [decide_eq_false h2, Bool.or_false]
          have : decide (π j < n) = decide (π j < n + 1) := by by_cases q : π j < n <;> simp [q] <;> omega
          rw [this]
      · rw [if_neg h, h0, bt_0, Bool.or_false]
        by_cases h2 : n = π j
        · rw [← h2]
          have : bt x n = false := by cases q : bt x n <;> simp_all
          rw [this]; simp
        · have : decide (π j < n) = decide (π j < n + 1) := by by_cases q : π j < n <;> simp [q] <;> omega
          rw [this]
  have := key 64 (by omega)
  rw [upto_all, decide_eq_true hp] at this
  exact this
/-- where the cell j of a board behind the turn t was before it; where the cell i goes -/
def tfrom (t j : Nat) : Nat :=
  if j < 36 ∧ j / 18 = t / 2 / 2 ∧ j % 6 / 3 = t / 2 % 2 then
    (if t % 2 = 0 then mbase (t / 2) + 6 * (2 - j % 3) + j / 6 % 3 else mbase (t / 2) + 6 * (j % 3) + (2 - j / 6 % 3))
  else j
def tto (t i : Nat) : Nat :=
  if i < 36 ∧ i / 18 = t / 2 / 2 ∧ i % 6 / 3 = t / 2 % 2 then
    (if t % 2 = 0 then mbase (t / 2) + 6 * (i % 3) + (2 - i / 6 % 3) else mbase (t / 2) + 6 * (2 - i % 3) + i / 6 % 3)
  else i
theorem tto_lt : ∀ t, t < 8 → ∀ i, i < 64 → tto t i < 64 := by decide +kernel
theorem tfrom_lt : ∀ t, t < 8 → ∀ i, i < 64 → tfrom t i < 64 := by decide +kernel
theorem tfrom_36 : ∀ t, t < 8 → ∀ i, i < 36 → tfrom t i < 36 := by decide +kernel
theorem tfrom_tto : ∀ t, t < 8 → ∀ i, i < 64 → ∀ j, j < 64 → decide (j = tto t i) = decide (i = tfrom t j) := by decide +kernel
theorem cturned_b1 : ∀ t, t < 8 → ∀ i, i < 64 → cturned (b1 i) t = b1 (tto t i) := by decide +kernel
theorem mturned_b1 : ∀ t, t < 8 → ∀ i, i < 64 → mturned (b1 i) (t / 2) (t % 2) = b1 (tto t i) := by decide +kernel
theorem cturned_0 : ∀ t, t < 8 → cturned 0 t = 0 := by decide +kernel
theorem mturned_0 : ∀ t, t < 8 → mturned 0 (t / 2) (t % 2) = 0 := by decide +kernel
