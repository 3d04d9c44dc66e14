/-! sums over lists; lines as 32 places -/
theorem lN_bv (n : Nat) : (lN n).toBitVec = BitVec.ofNat 64 n := rfl
theorem lN_nat {n : Nat} (h : n < 2 ^ 64) : (lN n).toBitVec.toNat = n := by rw [lN_bv, BitVec.toNat_ofNat]; exact Nat.mod_eq_of_lt h
def sumL (f : Nat → Nat) : List Nat → Nat
  | [] => 0
  | x :: l => f x + sumL f l
theorem sumL_perm {f : Nat → Nat} {l1 l2 : List Nat} (h : l1.Perm l2) : sumL f l1 = sumL f l2 := by
  induction h with
  | nil => rfl
  | cons x _ ih => show f x + _ = f x + _; rw [ih]
  | swap x y l => show f y + (f x + sumL f l) = f x + (f y + sumL f l); omega
  | trans _ _ ih1 ih2 => exact ih1.trans ih2
theorem sumL_map {f : Nat → Nat} {g : Nat → Nat} : ∀ l : List Nat, sumL f (l.map g) = sumL (fun x => f (g x)) l
  | [] => rfl
  | x :: l => by show f (g x) + sumL f (l.map g) = f (g x) + _; rw [sumL_map l]
theorem sumL_app {f : Nat → Nat} : ∀ (a b : List Nat), sumL f (a ++ b) = sumL f a + sumL f b
  | [], b => by show sumL f b = 0 + _; omega
  | x :: a, b => by show f x + sumL f (a ++ b) = (f x + sumL f a) + sumL f b; rw [sumL_app a b]; omega
theorem sumL_add {f g : Nat → Nat} : ∀ l : List Nat, sumL (fun x => f x + g x) l = sumL f l + sumL g l
  | [] => rfl
  | x :: l => by show (f x + g x) + sumL (fun x => f x + g x) l = (f x + sumL f l) + (g x + sumL g l); rw [sumL_add l]; omega
theorem sumL_cong {f g : Nat → Nat} : ∀ l : List Nat, (∀ x, x ∈ l → f x = g x) → sumL f l = sumL g l
  | [], _ => rfl
  | x :: l, h => by show f x + sumL f l = g x + sumL g l; rw [h x List.mem_cons_self, sumL_cong l (fun y hy => h y (List.mem_cons_of_mem _ hy))]
theorem sumL_le {f : Nat → Nat} (h : ∀ x, f x ≤ 1) : ∀ l : List Nat, sumL f l ≤ l.length
  | [] => Nat.le_refl 0
  | x :: l => by have h1 := h x; have h2 := sumL_le h l; show f x + sumL f l ≤ l.length + 1; omega
def bi (b : Bool) : Nat := if b = true then 1 else 0
theorem bi_le (b : Bool) : bi b ≤ 1 := by cases b <;> decide
theorem msize_sum (a : Int64) : ∀ n, msize a n = sumL (fun i => bi (bt a i)) (List.range n)
  | 0 => rfl
  | n + 1 => by
    show msize a n + bi (bt a n) = _
    rw [List.range_succ, sumL_app, msize_sum a n]; rfl
theorem msize_and (x m : Int64) : ∀ n, msize (x &&& m) n = sumL (fun i => bi (bt x i)) ((List.range n).filter (bt m))
  | 0 => rfl
  | n + 1 => by
    have e : List.filter (bt m) [n] = if bt m n = true then [n] else [] := by simp only [List.filter]; cases bt m n <;> rfl
    show msize (x &&& m) n + bi (bt (x &&& m) n) = _
    rw [List.range_succ, List.filter_append, sumL_app, msize_and x m n, bt_and, e]
    cases bt m n
    · show _ + bi (bt x n && false) = _ + 0
      rw [Bool.and_false]; rfl
    · show _ + bi (bt x n && true) = _ + (bi (bt x n) + 0)
      rw [Bool.and_true, Nat.add_zero]
theorem msize_0 (x : Int64) : ∀ n, msize x n = 0 ↔ ∀ i, i < n → bt x i = false
  | 0 => ⟨fun _ i h => absurd h (by omega), fun _ => rfl⟩
  | n + 1 => by
    have ih := msize_0 x n
    show msize x n + bi (bt x n) = 0 ↔ _
    constructor
    · intro h i hi
      have h1 : msize x n = 0 := by omega
      have h2 : bi (bt x n) = 0 := by omega
      by_cases e : i = n
      · rw [e]; cases q : bt x n
        · rfl
        · rw [q] at h2; exact absurd h2 (by decide)
      · exact ih.mp h1 i (by omega)
    · intro h
      rw [ih.mpr (fun i hi => h i (by omega)), h n (by omega)]; rfl
theorem pop_pos {x : Int64} : 0 < pop x ↔ ¬ x = 0 := by
  have h : x = 0 ↔ msize x 64 = 0 := bt_eq0.trans (msize_0 x 64).symm
  rw [h]; unfold pop; omega
/-! the places -/
def pst (p : Nat) : Nat := mcell p 0
def psp (p : Nat) : Nat := if p < 12 then 1 else if p < 24 then 6 else if p < 28 then 7 else 5
theorem mcell_step : ∀ p, p < 32 → ∀ k, k < 5 → mcell p k = pst p + k * psp p := by decide +kernel
def five (a : Int64) (s i : Nat) : Bool := bt a i && bt a (i + s) && bt a (i + 2 * s) && bt a (i + 3 * s) && bt a (i + 4 * s)
theorem cfives_bt (a : Int64) {s : Nat} (hs : s < 8) (i : Nat) : bt (cfives a s) i = five a s i := by
  unfold cfives five
  rw [bt_and, bt_and, bt_and, bt_ushr (a &&& jushr a (nI s)) (k := 2 * s) (by omega), bt_and, bt_ushr a (k := s) (by omega), bt_ushr a (k := s) (by omega), bt_ushr a (k := 4 * s) (by omega)]
  rw [show s + (2 * s + i) = i + 3 * s by omega, Nat.add_comm s i, Nat.add_comm (2 * s) i, Nat.add_comm (4 * s) i]
  cases bt a i <;> cases bt a (i + s) <;> cases bt a (i + 2 * s) <;> cases bt a (i + 3 * s) <;> cases bt a (i + 4 * s) <;> rfl
def P1 : List Nat := [0, 1, 2, 3, 4, 5, 6, 7, 8, 9, 10, 11]
def P6 : List Nat := [12, 14, 16, 18, 20, 22, 13, 15, 17, 19, 21, 23]
def P7 : List Nat := [24, 25, 26, 27]
def P5 : List Nat := [29, 28, 31, 30]
theorem d1_l : (List.range 64).filter (bt 3272356035) = P1.map pst := by decide +kernel
theorem d6_l : (List.range 64).filter (bt 4095) = P6.map pst := by decide +kernel
theorem d7_l : (List.range 64).filter (bt 195) = P7.map pst := by decide +kernel
theorem d5_l : (List.range 64).filter (bt 3120) = P5.map pst := by decide +kernel
theorem P_perm : (P1 ++ (P6 ++ (P7 ++ P5))).Perm (List.range 32) := by decide +kernel
theorem P_lt : ∀ p, p ∈ P1 ++ (P6 ++ (P7 ++ P5)) → pst p < 36 := by decide +kernel
theorem dir_sum (X : Nat → Nat → Nat) {m : Int64} {s : Nat} {P : List Nat} (h1 : (List.range 64).filter (bt m) = P.map pst) (h2 : ∀ p, p ∈ P → psp p = s) : sumL (X s) ((List.range 64).filter (bt m)) = sumL (fun p => X (psp p) (pst p)) P := by
  rw [h1, sumL_map]; exact sumL_cong P (fun p hp => by rw [h2 p hp])
def dsum (X : Nat → Nat → Nat) : Nat := sumL (fun p => X (psp p) (pst p)) (List.range 32)
theorem dir_all (X : Nat → Nat → Nat) : sumL (X 1) ((List.range 64).filter (bt 3272356035)) + sumL (X 6) ((List.range 64).filter (bt 4095)) + sumL (X 7) ((List.range 64).filter (bt 195)) + sumL (X 5) ((List.range 64).filter (bt 3120)) = dsum X := by
  unfold dsum
  rw [dir_sum X (s := 1) d1_l (by decide +kernel), dir_sum X (s := 6) d6_l (by decide +kernel), dir_sum X (s := 7) d7_l (by decide +kernel), dir_sum X (s := 5) d5_l (by decide +kernel), ← sumL_perm P_perm, sumL_app, sumL_app, sumL_app]
  omega
theorem dsum_add (X Y : Nat → Nat → Nat) : dsum X + dsum Y = dsum (fun s i => X s i + Y s i) := (sumL_add (f := fun p => X (psp p) (pst p)) (g := fun p => Y (psp p) (pst p)) (List.range 32)).symm
theorem clines_sum (a : Int64) : clines a = dsum (fun s i => bi (five a s i)) := by
  have e : ∀ s, s < 8 → (fun i => bi (bt (cfives a s) i)) = fun i => bi (five a s i) := fun s hs => funext (fun i => by rw [cfives_bt a hs i])
  unfold clines pop
  rw [msize_and, msize_and, msize_and, msize_and, e 1 (by decide), e 6 (by decide), e 7 (by decide), e 5 (by decide)]
  exact dir_all (fun s i => bi (five a s i))
theorem dsum_le {X : Nat → Nat → Nat} (h : ∀ s i, X s i ≤ 1) : dsum X ≤ 32 := sumL_le (f := fun p => X (psp p) (pst p)) (fun p => h _ _) (List.range 32)
theorem clines_le (a : Int64) : clines a ≤ 32 := by rw [clines_sum]; exact dsum_le (fun _ _ => bi_le _)
theorem cline_lines (a : Int64) : cline a = true ↔ 0 < clines a := by
  unfold cline clines
  rw [decide_eq_true_eq, ← pop_pos, ← pop_pos, ← pop_pos, ← pop_pos]; omega
/-! the reference's count of places -/
def tr (x y : Bool) : Int32 := if x = true then 1 else if y = true then (-9) else 0
theorem mmany_5 (a b : Int64) (p : Nat) : mmany a b p 5 = ((((0 + tr (bt a (mcell p 0)) (bt b (mcell p 0))) + tr (bt a (mcell p 1)) (bt b (mcell p 1))) + tr (bt a (mcell p 2)) (bt b (mcell p 2))) + tr (bt a (mcell p 3)) (bt b (mcell p 3))) + tr (bt a (mcell p 4)) (bt b (mcell p 4)) := rfl
theorem tr_5 : ∀ x0 y0 x1 y1 x2 y2 x3 y3 x4 y4 : Bool, decide (((((0 + tr x0 y0) + tr x1 y1) + tr x2 y2) + tr x3 y3) + tr x4 y4 = 5) = (x0 && x1 && x2 && x3 && x4) := by decide +kernel
theorem tr_4 : ∀ x0 y0 x1 y1 x2 y2 x3 y3 x4 y4 : Bool, bi (decide (((((0 + tr x0 y0) + tr x1 y1) + tr x2 y2) + tr x3 y3) + tr x4 y4 = 4)) = ((((0 + bi (!(x0 || y0) && x1 && x2 && x3 && x4)) + bi (x0 && !(x1 || y1) && x2 && x3 && x4)) + bi (x0 && x1 && !(x2 || y2) && x3 && x4)) + bi (x0 && x1 && x2 && !(x3 || y3) && x4)) + bi (x0 && x1 && x2 && x3 && !(x4 || y4)) := by decide +kernel
theorem msum_sum (a b : Int64) (n : Int32) : ∀ k, msum a b n k = nI (sumL (fun p => bi (decide (mmany a b p 5 = n))) (List.range k))
  | 0 => rfl
  | k + 1 => by
    show msum a b n k + (if mmany a b k 5 = n then 1 else 0) = _
    rw [List.range_succ, sumL_app, msum_sum a b n k, ← nI_add]
    show _ = _ + nI (bi (decide (mmany a b k 5 = n)) + 0)
    by_cases h : mmany a b k 5 = n
    · rw [if_pos h, decide_eq_true h]; rfl
    · rw [if_neg h, decide_eq_false h]; rfl
theorem five_cell (a : Int64) {p : Nat} (hp : p < 32) : five a (psp p) (pst p) = (bt a (mcell p 0) && bt a (mcell p 1) && bt a (mcell p 2) && bt a (mcell p 3) && bt a (mcell p 4)) := by
  rw [mcell_step p hp 1 (by decide), mcell_step p hp 2 (by decide), mcell_step p hp 3 (by decide), mcell_step p hp 4 (by decide), Nat.one_mul]; rfl
theorem msum5 (a b : Int64) : msum a b 5 32 = nI (clines a) := by
  rw [msum_sum, clines_sum]; unfold dsum
  refine congrArg nI (sumL_cong (List.range 32) (fun p hp => ?_))
  have hp : p < 32 := List.mem_range.mp hp
  have e := tr_5 (bt a (mcell p 0)) (bt b (mcell p 0)) (bt a (mcell p 1)) (bt b (mcell p 1)) (bt a (mcell p 2)) (bt b (mcell p 2)) (bt a (mcell p 3)) (bt b (mcell p 3)) (bt a (mcell p 4)) (bt b (mcell p 4))
  rw [← mmany_5] at e
  show bi _ = bi _
  rw [five_cell a hp, e]
theorem ms_line (x y : Int64) : (0 < msum x y 5 32) ↔ cline x = true := by
  rw [msum5, cline_lines]; exact nq_lt (a := 0) (by decide) (by have := clines_le x; omega)
/-! four and an empty cell -/
def fw (a e : Int64) (s g i : Nat) : Bool := bt (if 0 = g then e else a) i && bt (if 1 = g then e else a) (i + s) && bt (if 2 = g then e else a) (i + 2 * s) && bt (if 3 = g then e else a) (i + 3 * s) && bt (if 4 = g then e else a) (i + 4 * s)
theorem bt_all : ∀ i, i < 36 → bt 68719476735 i = true := by decide +kernel
theorem bt_all2 : ∀ i, i < 64 → bt 68719476735 i = decide (i < 36) := by decide +kernel
theorem cfw_bt (a e : Int64) {s : Nat} (hs : s < 8) (g : Nat) {i : Nat} (hi : i < 36) : bt (cfw a e s g 5) i = fw a e s g i := by
  show bt (((((68719476735 &&& jushr (if 0 = g then e else a) (nI (0 * s))) &&& jushr (if 1 = g then e else a) (nI (1 * s))) &&& jushr (if 2 = g then e else a) (nI (2 * s))) &&& jushr (if 3 = g then e else a) (nI (3 * s))) &&& jushr (if 4 = g then e else a) (nI (4 * s))) i = _
  unfold fw
  rw [bt_and, bt_and, bt_and, bt_and, bt_and, bt_ushr _ (k := 0 * s) (by omega), bt_ushr _ (k := 1 * s) (by omega), bt_ushr _ (k := 2 * s) (by omega), bt_ushr _ (k := 3 * s) (by omega), bt_ushr _ (k := 4 * s) (by omega), bt_all i hi, Bool.true_and]
  rw [show 0 * s + i = i by omega, show 1 * s + i = i + s by omega, Nat.add_comm (2 * s) i, Nat.add_comm (3 * s) i, Nat.add_comm (4 * s) i]
theorem fl36_1 : ∀ i, i ∈ (List.range 64).filter (bt 3272356035) → i < 36 := by decide +kernel
theorem fl36_6 : ∀ i, i ∈ (List.range 64).filter (bt 4095) → i < 36 := by decide +kernel
theorem fl36_7 : ∀ i, i ∈ (List.range 64).filter (bt 195) → i < 36 := by decide +kernel
theorem fl36_5 : ∀ i, i ∈ (List.range 64).filter (bt 3120) → i < 36 := by decide +kernel
theorem cfw_gap (a e : Int64) (g : Nat) : pop (cfw a e 1 g 5 &&& 3272356035) + pop (cfw a e 6 g 5 &&& 4095) + pop (cfw a e 7 g 5 &&& 195) + pop (cfw a e 5 g 5 &&& 3120) = dsum (fun s i => bi (fw a e s g i)) := by
  have k : ∀ s, s < 8 → ∀ l : List Nat, (∀ i, i ∈ l → i < 36) → sumL (fun i => bi (bt (cfw a e s g 5) i)) l = sumL ((fun s i => bi (fw a e s g i)) s) l := fun s hs l hl => sumL_cong l (fun i hi => by show bi _ = bi _; rw [cfw_bt a e hs g (hl i hi)])
  unfold pop
  rw [msize_and, msize_and, msize_and, msize_and, k 1 (by decide) _ fl36_1, k 6 (by decide) _ fl36_6, k 7 (by decide) _ fl36_7, k 5 (by decide) _ fl36_5]
  exact dir_all (fun s i => bi (fw a e s g i))
theorem cfours_sum (a e : Int64) : cfours a e 5 = dsum (fun s i => ((((0 + bi (fw a e s 0 i)) + bi (fw a e s 1 i)) + bi (fw a e s 2 i)) + bi (fw a e s 3 i)) + bi (fw a e s 4 i)) := by
  show ((((0 + (pop (cfw a e 1 0 5 &&& 3272356035) + pop (cfw a e 6 0 5 &&& 4095) + pop (cfw a e 7 0 5 &&& 195) + pop (cfw a e 5 0 5 &&& 3120))) + (pop (cfw a e 1 1 5 &&& 3272356035) + pop (cfw a e 6 1 5 &&& 4095) + pop (cfw a e 7 1 5 &&& 195) + pop (cfw a e 5 1 5 &&& 3120))) + (pop (cfw a e 1 2 5 &&& 3272356035) + pop (cfw a e 6 2 5 &&& 4095) + pop (cfw a e 7 2 5 &&& 195) + pop (cfw a e 5 2 5 &&& 3120))) + (pop (cfw a e 1 3 5 &&& 3272356035) + pop (cfw a e 6 3 5 &&& 4095) + pop (cfw a e 7 3 5 &&& 195) + pop (cfw a e 5 3 5 &&& 3120))) + (pop (cfw a e 1 4 5 &&& 3272356035) + pop (cfw a e 6 4 5 &&& 4095) + pop (cfw a e 7 4 5 &&& 195) + pop (cfw a e 5 4 5 &&& 3120)) = _
  rw [cfw_gap, cfw_gap, cfw_gap, cfw_gap, cfw_gap, Nat.zero_add, dsum_add, dsum_add, dsum_add, dsum_add]
  exact congrArg dsum (funext fun s => funext fun i => by simp only [Nat.zero_add])
theorem fours_eq {a b e : Int64} (he : ∀ i, i < 36 → bt e i = !(bt a i || bt b i)) : msum a b 4 32 = nI (cfours a e 5) := by
  rw [msum_sum, cfours_sum]; unfold dsum
  refine congrArg nI (sumL_cong (List.range 32) (fun p hp => ?_))
  have hp : p < 32 := List.mem_range.mp hp
  have t := tr_4 (bt a (mcell p 0)) (bt b (mcell p 0)) (bt a (mcell p 1)) (bt b (mcell p 1)) (bt a (mcell p 2)) (bt b (mcell p 2)) (bt a (mcell p 3)) (bt b (mcell p 3)) (bt a (mcell p 4)) (bt b (mcell p 4))
  rw [← mmany_5] at t
  refine t.trans ?_
  rw [← he (mcell p 0) (mcell_lt p hp 0 (by decide)), ← he (mcell p 1) (mcell_lt p hp 1 (by decide)), ← he (mcell p 2) (mcell_lt p hp 2 (by decide)), ← he (mcell p 3) (mcell_lt p hp 3 (by decide)), ← he (mcell p 4) (mcell_lt p hp 4 (by decide))]
  rw [mcell_step p hp 1 (by decide), mcell_step p hp 2 (by decide), mcell_step p hp 3 (by decide), mcell_step p hp 4 (by decide), Nat.one_mul]; rfl
