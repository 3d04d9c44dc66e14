/-! turns: the class's and the reference's are one; counts of marbles; boards of the solver -/
theorem lin_eq {F G : Int64 → Int64} (hF0 : F 0 = 0) (hG0 : G 0 = 0) (hF : ∀ x y, F (x ||| y) = F x ||| F y) (hG : ∀ x y, G (x ||| y) = G x ||| G y) (hb : ∀ i, i < 64 → F (b1 i) = G (b1 i)) (x : Int64) : F x = G x := by
  have key : ∀ n, n ≤ 64 → F (upto x n) = G (upto x n) := by
    intro n
    induction n with
    | zero => intro _; show F 0 = G 0; rw [hF0, hG0]
    | succ n ih =>
      intro hn
      show F (upto x n ||| (if bt x n = true then b1 n else 0)) = G (upto x n ||| (if bt x n = true then b1 n else 0))
      rw [hF, hG, ih (by omega)]
      by_cases h : bt x n = true
      · rw [if_pos h, hb n (by omega)]
      · rw [if_neg h, hF0, hG0]
  have h := key 64 (by omega)
  rw [upto_all] at h; exact h
set_option maxHeartbeats 2000000 in
theorem jcw_or (x y : Int64) : j_clockwise (x ||| y) = j_clockwise x ||| j_clockwise y := by
  unfold j_clockwise
  simp only [land_or, jshl_or, jushr_or]
  ac_rfl
set_option maxHeartbeats 2000000 in
theorem jac_or (x y : Int64) : j_anticlockwise (x ||| y) = j_anticlockwise x ||| j_anticlockwise y := by
  unfold j_anticlockwise
  simp only [land_or, jshl_or, jushr_or]
  ac_rfl
theorem cturned_or (t : Nat) (x y : Int64) : cturned (x ||| y) t = cturned x t ||| cturned y t := by
  unfold cturned
  by_cases h : t % 2 = 0
  · rw [if_pos h, if_pos h, if_pos h, land_or, jushr_or, land_or, jcw_or, jshl_or]; exact lor4 _ _ _ _
  · rw [if_neg h, if_neg h, if_neg h, land_or, jushr_or, land_or, jac_or, jshl_or]; exact lor4 _ _ _ _
theorem mclr_or (q w : Nat) (x y : Int64) (r : Nat) : ∀ c, mclr q w (x ||| y) r c = mclr q w x r c ||| mclr q w y r c
  | 0 => rfl
  | c + 1 => by
    show mclr q w (x ||| y) r c &&& (jshl 1 (nI (mbase q + mto w r c)) ^^^ (-1)) = _
    rw [mclr_or q w x y r c, land_or]; rfl
theorem mclrs_or (q w : Nat) (x y : Int64) : ∀ r, mclrs q w (x ||| y) r = mclrs q w x r ||| mclrs q w y r
  | 0 => rfl
  | r + 1 => by
    show mclr q w (mclrs q w (x ||| y) r) r 3 = _
    rw [mclrs_or q w x y r, mclr_or]; rfl
theorem bt_if (B : Int64) (i : Nat) : ∀ b : Bool, bt (if b = true then B else 0) i = (b && bt B i)
  | false => bt_0 i
  | true => (Bool.true_and _).symm
theorem or_if (X Y B : Int64) (p q : Bool) : (X ||| Y) ||| (if (p || q) = true then B else 0) = (X ||| (if p = true then B else 0)) ||| (Y ||| (if q = true then B else 0)) := by
  apply bt_ext; intro i _
  simp only [bt_or, bt_if]
  cases bt X i <;> cases bt Y i <;> cases bt B i <;> cases p <;> cases q <;> rfl
theorem mset_or (q w : Nat) (a b x y : Int64) (r : Nat) : ∀ c, mset q w (a ||| b) (x ||| y) r c = mset q w a x r c ||| mset q w b y r c
  | 0 => rfl
  | c + 1 => by
    show mset q w (a ||| b) (x ||| y) r c ||| (if bt (a ||| b) (mbase q + 6 * r + c) = true then jshl 1 (nI (mbase q + mto w r c)) else 0) = _
    rw [mset_or q w a b x y r c, bt_or, or_if]; rfl
theorem msets_or (q w : Nat) (a b x y : Int64) : ∀ r, msets q w (a ||| b) (x ||| y) r = msets q w a x r ||| msets q w b y r
  | 0 => rfl
  | r + 1 => by
    show mset q w (a ||| b) (msets q w (a ||| b) (x ||| y) r) r 3 = _
    rw [msets_or q w a b x y r, mset_or]; rfl
theorem mturned_or (q w : Nat) (x y : Int64) : mturned (x ||| y) q w = mturned x q w ||| mturned y q w := by
  unfold mturned; rw [mclrs_or, msets_or]
theorem mc_turn (x : Int64) {t : Nat} (ht : t < 8) : mturned x (t / 2) (t % 2) = cturned x t :=
  lin_eq (F := fun x => mturned x (t / 2) (t % 2)) (G := fun x => cturned x t) (mturned_0 t ht) (cturned_0 t ht) (mturned_or _ _) (cturned_or t) (fun i hi => (mturned_b1 t ht i hi).trans (cturned_b1 t ht i hi).symm) x
theorem ct_bt (x : Int64) {t : Nat} (ht : t < 8) {j : Nat} (hj : j < 64) : bt (cturned x t) j = bt x (tfrom t j) :=
  lin_bt (F := fun x => cturned x t) (cturned_0 t ht) (cturned_or t) (σ := tto t) (π := tfrom t) (cturned_b1 t ht) (tto_lt t ht) (tfrom_tto t ht) x hj (tfrom_lt t ht j hj)
theorem tfrom_perm : ∀ t, t < 8 → ((List.range 64).map (tfrom t)).Perm (List.range 64) := by decide +kernel
theorem pop_sum (a : Int64) : pop a = sumL (fun i => bi (bt a i)) (List.range 64) := msize_sum a 64
theorem pop_turn (a : Int64) {t : Nat} (ht : t < 8) : pop (cturned a t) = pop a := by
  rw [pop_sum, pop_sum]
  exact (sumL_cong (g := fun i => bi (bt a (tfrom t i))) (List.range 64) (fun j hj => by show bi _ = bi _; rw [ct_bt a ht (List.mem_range.mp hj)])).trans ((sumL_map (f := fun i => bi (bt a i)) (g := tfrom t) (List.range 64)).symm.trans (sumL_perm (tfrom_perm t ht)))
theorem tfrom_out {t j : Nat} (h : 36 ≤ j) : tfrom t j = j := if_neg (fun q => absurd q.1 (by omega))
theorem inB_turn {a : Int64} (h : inB a) {t : Nat} (ht : t < 8) : inB (cturned a t) := fun i hi => by
  by_cases q : i < 64
  · rw [ct_bt a ht q, tfrom_out hi]; exact h i hi
  · exact bt_big (by omega)
theorem dis_turn {a b : Int64} (h : dis a b) {t : Nat} (ht : t < 8) : dis (cturned a t) (cturned b t) := fun i => by
  by_cases q : i < 64
  · rw [ct_bt a ht q, ct_bt b ht q]; exact h _
  · rw [bt_big (x := cturned a t) (i := i) (by omega)]; rfl
theorem dis_c {a b : Int64} (h : dis a b) : dis b a := fun i => (Bool.and_comm _ _).trans (h i)
theorem msize_put (a : Int64) {i : Nat} (hi : i < 64) (h : bt a i = false) : ∀ n, n ≤ 64 → msize (a ||| b1 i) n = msize a n + bi (decide (i < n))
  | 0, _ => rfl
  | n + 1, hn => by
    show msize (a ||| b1 i) n + bi (bt (a ||| b1 i) n) = (msize a n + bi (bt a n)) + _
    rw [msize_put a hi h n (by omega), bt_or, bt_b1 hi (i := n) (by omega)]
    by_cases e : n = i
    · rw [e, h, decide_eq_false (show ¬ i < i by omega), decide_eq_true (show i = i from rfl), decide_eq_true (show i < i + 1 by omega)]; rfl
    · rw [decide_eq_false e, Bool.or_false, show decide (i < n + 1) = decide (i < n) by by_cases q : i < n <;> simp [q] <;> omega]; omega
theorem pop_put {a : Int64} {i : Nat} (hi : i < 64) (h : bt a i = false) : pop (a ||| b1 i) = pop a + 1 := by
  unfold pop; rw [msize_put a hi h 64 (by omega), decide_eq_true hi]; rfl
theorem free_bt (x : Int64) {i : Nat} (hi : i < 64) : (x &&& b1 i) = 0 ↔ bt x i = false := by
  constructor
  · intro h
    have e : bt (x &&& b1 i) i = false := by rw [h]; exact bt_0 i
    rw [bt_and, bt_b1 hi hi, decide_eq_true (show i = i from rfl), Bool.and_true] at e
    exact e
  · intro h
    apply bt_ext; intro j hj
    rw [bt_and, bt_b1 hi hj, bt_0]
    by_cases e : j = i
    · rw [e, h]; rfl
    · rw [decide_eq_false e, Bool.and_false]
theorem or_free {a b : Int64} {i : Nat} (h : bt (a ||| b) i = false) : bt a i = false ∧ bt b i = false := by
  rw [bt_or] at h; exact Bool.or_eq_false_iff.mp h
theorem inB_put {a : Int64} (h : inB a) {i : Nat} (hi : i < 36) : inB (a ||| b1 i) := fun j hj => by
  by_cases q : j < 64
  · rw [bt_or, h j hj, bt_b1 (k := i) (by omega) q, decide_eq_false (show ¬ j = i by omega)]; rfl
  · exact bt_big (by omega)
theorem dis_put {a b : Int64} (h : dis a b) {i : Nat} (hi : i < 36) (hb : bt b i = false) : dis (a ||| b1 i) b := fun j => by
  by_cases q : j < 64
  · rw [bt_or, bt_b1 (k := i) (by omega) q]
    by_cases e : j = i
    · rw [e, hb, Bool.and_false]
    · rw [decide_eq_false e, Bool.or_false]; exact h j
  · rw [bt_big (x := a ||| b1 i) (i := j) (by omega)]; rfl
theorem bv_put {n : Nat} {a b : Int64} (h : BV (n + 1) a b) {i : Nat} (hi : i < 36) (he : ((a ||| b) &&& jshl 1 (nI i)) = 0) : BH n (a ||| jshl 1 (nI i)) b := by
  obtain ⟨h1, h2, h3, h4, h5⟩ := h
  obtain ⟨fa, fb⟩ := or_free ((free_bt (a ||| b) (i := i) (by omega)).mp he)
  have hp : pop (a ||| b1 i) = pop a + 1 := pop_put (by omega) fa
  refine ⟨inB_put h1 hi, h2, dis_put h3 hi fb, ?_, ?_⟩
  · show pop (a ||| b1 i) + _ + _ = _; omega
  · show pop (a ||| b1 i) = _ ∨ pop (a ||| b1 i) = _; omega
theorem bh_turn {n : Nat} {a b : Int64} (h : BH n a b) {t : Nat} (ht : t < 8) : BV n (cturned b t) (cturned a t) := by
  obtain ⟨h1, h2, h3, h4, h5⟩ := h
  refine ⟨inB_turn h2 ht, inB_turn h1 ht, dis_turn (dis_c h3) ht, ?_, ?_⟩
  · rw [pop_turn a ht, pop_turn b ht]; omega
  · rw [pop_turn a ht, pop_turn b ht]; omega
/-! full boards -/
theorem msize_or {a b : Int64} (h : dis a b) : ∀ n, msize (a ||| b) n = msize a n + msize b n
  | 0 => rfl
  | n + 1 => by
    show msize (a ||| b) n + bi (bt (a ||| b) n) = (msize a n + bi (bt a n)) + (msize b n + bi (bt b n))
    have e : bi (bt (a ||| b) n) = bi (bt a n) + bi (bt b n) := by
      have := h n
      rw [bt_or]
      cases q : bt a n <;> cases r : bt b n <;> simp_all [bi]
    rw [msize_or h n, e]; omega
theorem pop_or {a b : Int64} (h : dis a b) : pop (a ||| b) = pop a + pop b := msize_or h 64
theorem inB_or {a b : Int64} (ha : inB a) (hb : inB b) : inB (a ||| b) := fun i hi => by rw [bt_or, ha i hi, hb i hi]; rfl
theorem msize_out {a : Int64} (h : inB a) : ∀ k, msize a (36 + k) = msize a 36
  | 0 => rfl
  | k + 1 => by
    show msize a (36 + k) + bi (bt a (36 + k)) = _
    rw [msize_out h k, h (36 + k) (by omega)]; rfl
theorem pop_36 {a : Int64} (h : inB a) : pop a = msize a 36 := msize_out h 28
theorem msize_full (a : Int64) : ∀ n, msize a n = n → ∀ i, i < n → bt a i = true
  | 0, _, i, hi => absurd hi (by omega)
  | n + 1, h, i, hi => by
    have hl := msize_le a n
    have hb := bi_le (bt a n)
    have h2 : msize a n + bi (bt a n) = n + 1 := h
    by_cases e : i = n
    · rw [e]; cases q : bt a n
      · rw [q] at h2; have : bi false = 0 := rfl
        omega
      · rfl
    · exact msize_full a n (by omega) i (by omega)
theorem msize_all (a : Int64) : ∀ n, (∀ i, i < n → bt a i = true) → msize a n = n
  | 0, _ => rfl
  | n + 1, h => by
    show msize a n + bi (bt a n) = n + 1
    rw [msize_all a n (fun i hi => h i (by omega)), h n (by omega)]; rfl
theorem inB_all : inB 68719476735 := fun i hi => by
  by_cases q : i < 64
  · rw [bt_all2 i q]; exact decide_eq_false (by omega)
  · exact bt_big (by omega)
theorem all_pop {z : Int64} (h : inB z) : z = 68719476735 ↔ pop z = 36 := by
  constructor
  · intro e; rw [e, pop_36 inB_all]; exact msize_all _ 36 bt_all
  · intro e
    rw [pop_36 h] at e
    have hf := msize_full z 36 e
    apply bt_ext; intro i hi
    rw [bt_all2 i hi]
    by_cases q : i < 36
    · rw [hf i q, decide_eq_true q]
    · rw [h i (by omega), decide_eq_false q]
theorem some_free {n : Nat} {a b : Int64} (h : BV (n + 1) a b) : ∃ c, c < 36 ∧ ((a ||| b) &&& jshl 1 (nI c)) = 0 := by
  obtain ⟨h1, h2, h3, h4, h5⟩ := h
  apply Classical.byContradiction
  intro hn
  have hall : ∀ i, i < 36 → bt (a ||| b) i = true := fun i hi => by
    cases q : bt (a ||| b) i
    · exact absurd ⟨i, hi, (free_bt (a ||| b) (i := i) (by omega)).mpr q⟩ hn
    · rfl
  have e := msize_all _ 36 hall
  rw [← pop_36 (inB_or h1 h2), pop_or h3] at e
  omega
