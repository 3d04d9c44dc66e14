/-! the reference's search: a level's board is searched by its moves; what it finds is rnode -/
def rstep (N : Nat) (f : Int64 → Int64 → Int32) (a b : Int64) : Int32 := (mlow f a b N).1
theorem rstep_e {N : Nat} {f : Int64 → Int64 → Int32} {a b : Int64} : rstep N f a b = (mlow f a b N).1 := rfl
def rnode : Nat → Int64 → Int64 → Int32
  | 0 => fun _ _ => 0
  | n + 1 => fun a b => rstep 288 (rnode n) a b
theorem rnode_e {n : Nat} {a b : Int64} : rnode (n + 1) a b = rstep 288 (rnode n) a b := rfl
theorem rnode_s {n n2 : Nat} (h : n = n2 + 1) {x y : Int64} : rnode n x y = (mlow (rnode n2) x y 288).1 := by rw [h]; exact rnode_e.trans rstep_e
/-! the reference's numbers are the class's -/
def vsw (v : Nat) : Nat := if v = 5 then 6 else if v = 6 then 5 else v
theorem cview_m : ∀ v, v < 8 → ∀ i, i < 36 → cview v i = mview (vsw v) i := by decide +kernel
theorem vsw_lt : ∀ v, v < 8 → vsw v < 8 := by decide +kernel
theorem vsw_vsw : ∀ v, v < 8 → vsw (vsw v) = v := by decide +kernel
theorem vsw_perm : ((List.range 8).map vsw).Perm (List.range 8) := by decide +kernel
theorem mcode_num {a b : Int64} {v : Nat} (hv : v < 8) : ∀ j, mcode a b (vsw v) j = lN (num a b v j)
  | 0 => rfl
  | j + 1 => by
    have e : mview (vsw v) (35 - j) = cview v (35 - j) := (cview_m v hv (35 - j) (by omega)).symm
    show 3 * mcode a b (vsw v) j + (if bt a (mview (vsw v) (35 - j)) = true then 1 else if bt b (mview (vsw v) (35 - j)) = true then 2 else 0) = lN (3 * num a b v j + dg a b (cview v (35 - j)))
    rw [mcode_num hv j, e, ← lN_add, ← lN_mul]
    unfold dg
    cases bt a (cview v (35 - j)) <;> cases bt b (cview v (35 - j)) <;> rfl
theorem mcode_c {a b : Int64} (h : dis a b) {v : Nat} (hv : v < 8) : mcode a b v 36 = ccode a b (vsw v) 36 := by
  rw [ccode_num h (vsw_lt v hv), ← mcode_num (vsw_lt v hv), vsw_vsw v hv]
def lmin (x y : Int64) : Int64 := if x < y then x else y
theorem lmin_c (x y z : Int64) : lmin x (lmin y z) = lmin y (lmin x z) := by
  apply Int64.toInt_inj.mp
  unfold lmin
  by_cases h1 : y < z <;> by_cases h2 : x < z <;> by_cases h3 : x < y <;> by_cases h4 : y < x <;> simp only [h1, h2, h3, h4, if_true, if_false, ite_true, ite_false] <;> first | rfl | (simp only [Int64.lt_iff_toInt_lt] at h1 h2 h3 h4; omega)
theorem cleast_m (a b : Int64) (v : Nat) : cleast a b (v + 1) = lmin (ccode a b v 36) (cleast a b v) := rfl
theorem mleast_m (a b : Int64) (v : Nat) : mleast a b (v + 1) = lmin (mcode a b v 36) (mleast a b v) := rfl
theorem least_eq {a b : Int64} (h : dis a b) : mleast a b 8 = cleast a b 8 := by
  have e : ∀ v, v < 8 → mcode a b v 36 = ccode a b (vsw v) 36 := fun v hv => mcode_c h hv
  have e5 : ∀ v, v ≤ 5 → mleast a b v = cleast a b v := by
    intro v
    induction v with
    | zero => intro _; exact e 0 (by decide)
    | succ v ih =>
      intro hv
      rw [cleast_m, mleast_m, ih (by omega), e v (by omega)]
      have : vsw v = v := by unfold vsw; rw [if_neg (by omega), if_neg (by omega)]
      rw [this]
  rw [mleast_m, mleast_m, mleast_m, cleast_m, cleast_m, cleast_m, e5 5 (by decide), e 7 (by decide), e 6 (by decide), e 5 (by decide)]
  show lmin (ccode a b 7 36) (lmin (ccode a b 5 36) (lmin (ccode a b 6 36) _)) = _
  rw [lmin_c (ccode a b 5 36)]
theorem csym_sum (a b : Int64) : ∀ n, csym a b n = sumL (fun v => bi (decide (ccode a b v 36 = ccode a b 0 36))) (List.range n)
  | 0 => rfl
  | n + 1 => by
    show csym a b n + (if ccode a b n 36 = ccode a b 0 36 then 1 else 0) = _
    rw [List.range_succ, sumL_app, csym_sum a b n]
    show _ = _ + (bi (decide (ccode a b n 36 = ccode a b 0 36)) + 0)
    unfold bi; simp only [decide_eq_true_eq, Nat.add_zero]
theorem msym_sum (a b : Int64) : ∀ n, msym a b n = nI (sumL (fun v => bi (decide (mcode a b v 36 = mcode a b 0 36))) (List.range n))
  | 0 => rfl
  | n + 1 => by
    show msym a b n + (if mcode a b n 36 = mcode a b 0 36 then 1 else 0) = _
    rw [List.range_succ, sumL_app, msym_sum a b n, ← nI_add]
    show _ = _ + nI (bi (decide (mcode a b n 36 = mcode a b 0 36)) + 0)
    by_cases h : mcode a b n 36 = mcode a b 0 36
    · rw [if_pos h, decide_eq_true h]; rfl
    · rw [if_neg h, decide_eq_false h]; rfl
theorem sym_eq {a b : Int64} (h : dis a b) : msym a b 8 = nI (csym a b 8) := by
  rw [msym_sum, csym_sum]
  refine congrArg nI ?_
  refine (sumL_cong (g := fun v => bi (decide (ccode a b (vsw v) 36 = ccode a b 0 36))) (List.range 8) (fun v hv => ?_)).trans ((sumL_map (f := fun v => bi (decide (ccode a b v 36 = ccode a b 0 36))) (g := vsw) (List.range 8)).symm.trans (sumL_perm vsw_perm))
  have hv := List.mem_range.mp hv
  show bi _ = bi _
  rw [mcode_c h hv, mcode_c h (v := 0) (by decide)]; rfl
/-! the reference's search finds the class's values -/
theorem vb_cong {n : Nat} {f g : Int64 → Int64 → Int32} (ih : ∀ a b, BV n a b → f a b = g a b) {a b : Int64} (hB : BH n a b) {t : Nat} (ht : t < 8) : vbehind f a b t = vbehind g a b t := by
  unfold vbehind; rw [ih _ _ (bh_turn hB ht)]
theorem mlow_cong {n : Nat} {f g : Int64 → Int64 → Int32} (ih : ∀ a b, BV n a b → f a b = g a b) {a b : Int64} (hB : BV (n + 1) a b) : ∀ k, k ≤ 288 → mlow f a b k = mlow g a b k
  | 0, _ => rfl
  | k + 1, hk => by
    have e := mlow_cong ih hB k (by omega)
    rw [mlow_e, mlow_e, e]
    by_cases hf : ((a ||| b) &&& jshl 1 (nI (k / 8))) = 0
    · have hv : mval f a b k = mval g a b k := by
        unfold mval
        rw [vb_cong ih (bv_put hB (i := k / 8) (by omega) hf) (t := k % 8) (by omega)]
      rw [hv]
    · rw [if_neg hf, if_neg hf]
theorem tlow_cong {n : Nat} {f g : Int64 → Int64 → Int32} (ih : ∀ a b, BV n a b → f a b = g a b) {a b : Int64} (hB : BH n a b) : ∀ k, k ≤ 8 → tlow f a b k = tlow g a b k
  | 0, _ => rfl
  | k + 1, hk => by
    rw [tlow_e, tlow_e, tlow_cong ih hB k (by omega), vb_cong ih hB (t := k) (by omega)]
theorem rnode_vput : ∀ n a b, BV n a b → rnode n a b = vput n a b
  | 0, _, _, _ => rfl
  | n + 1, a, b, hB => by
    rw [rnode_e, rstep_e, mlow_cong (rnode_vput n) hB 288 (by omega), low_play (vput_tri n) a b (some_free hB)]; rfl
/-- the reference's verdict behind a turn -/
theorem mj_e (a b : Int64) : mjudge a b = if cline a = true ∧ cline b = true then 3 else if cline a = true then 1 else if cline b = true then 2 else if (a ||| b) = 68719476735 then 3 else 0 := by
  unfold mjudge; simp only [ms_line]
theorem full_n {n : Nat} {a b : Int64} (h : BV n a b) : (a ||| b) = 68719476735 ↔ n = 0 := by
  obtain ⟨h1, h2, h3, h4, h5⟩ := h
  rw [all_pop (inB_or h1 h2), pop_or h3]; omega
theorem or_comm_ (a b : Int64) : a ||| b = b ||| a := by
  apply bt_ext; intro i _; rw [bt_or, bt_or, Bool.or_comm]
theorem sv_j1 {n : Nat} {a b : Int64} (hB : BH n a b) {t : Nat} (ht : t < 8) : (mjudge (mturned a (t / 2) (t % 2)) (mturned b (t / 2) (t % 2)) = 0 ∧ 0 < n ∧ vbehind (rnode n) a b t = - rnode n (cturned b t) (cturned a t)) ∨ (mjudge (mturned a (t / 2) (t % 2)) (mturned b (t / 2) (t % 2)) = 3 ∧ vbehind (rnode n) a b t = 0) ∨ (mjudge (mturned a (t / 2) (t % 2)) (mturned b (t / 2) (t % 2)) = 1 ∧ vbehind (rnode n) a b t = 1) ∨ (mjudge (mturned a (t / 2) (t % 2)) (mturned b (t / 2) (t % 2)) = 2 ∧ vbehind (rnode n) a b t = (-1)) := by
  have hf := full_n (bh_turn hB ht)
  rw [or_comm_] at hf
  rw [mc_turn a ht, mc_turn b ht, mj_e]
  unfold vbehind
  by_cases p : cline (cturned a t) = true
  · by_cases q : cline (cturned b t) = true
    · rw [if_pos ⟨p, q⟩, if_pos p, if_pos q]; exact Or.inr (Or.inl ⟨rfl, rfl⟩)
    · rw [if_neg (fun h => q h.2), if_pos p, if_pos p, if_neg q]; exact Or.inr (Or.inr (Or.inl ⟨rfl, rfl⟩))
  · by_cases q : cline (cturned b t) = true
    · rw [if_neg (fun h => p h.1), if_neg p, if_pos q, if_neg p, if_pos q]; exact Or.inr (Or.inr (Or.inr ⟨rfl, rfl⟩))
    · rw [if_neg (fun h => p h.1), if_neg p, if_neg q, if_neg p, if_neg q]
      by_cases r : (cturned a t ||| cturned b t) = 68719476735
      · have hn := hf.mp r
        rw [if_pos r, hn]; exact Or.inr (Or.inl ⟨rfl, show -(0 : Int32) = 0 by decide⟩)
      · rw [if_neg r]
        exact Or.inl ⟨rfl, Nat.pos_of_ne_zero (fun h => r (hf.mpr h)), rfl⟩
theorem sv_j2 {n : Nat} {a b : Int64} (hB : BH n a b) {t : Nat} (ht : t < 8) : (mjudge (mturned b (t / 2) (t % 2)) (mturned a (t / 2) (t % 2)) = 0 ∧ 0 < n ∧ vbehind (rnode n) a b t = - rnode n (cturned b t) (cturned a t)) ∨ (mjudge (mturned b (t / 2) (t % 2)) (mturned a (t / 2) (t % 2)) = 3 ∧ vbehind (rnode n) a b t = 0) ∨ (mjudge (mturned b (t / 2) (t % 2)) (mturned a (t / 2) (t % 2)) = 1 ∧ vbehind (rnode n) a b t = (-1)) ∨ (mjudge (mturned b (t / 2) (t % 2)) (mturned a (t / 2) (t % 2)) = 2 ∧ vbehind (rnode n) a b t = 1) := by
  have hf := full_n (bh_turn hB ht)
  rw [mc_turn a ht, mc_turn b ht, mj_e]
  unfold vbehind
  by_cases p : cline (cturned a t) = true
  · by_cases q : cline (cturned b t) = true
    · rw [if_pos ⟨q, p⟩, if_pos p, if_pos q]; exact Or.inr (Or.inl ⟨rfl, rfl⟩)
    · rw [if_neg (fun h => q h.1), if_neg q, if_pos p, if_pos p, if_neg q]; exact Or.inr (Or.inr (Or.inr ⟨rfl, rfl⟩))
  · by_cases q : cline (cturned b t) = true
    · rw [if_neg (fun h => p h.2), if_pos q, if_neg p, if_pos q]; exact Or.inr (Or.inr (Or.inl ⟨rfl, rfl⟩))
    · rw [if_neg (fun h => p h.2), if_neg q, if_neg p, if_neg p, if_neg q]
      by_cases r : (cturned b t ||| cturned a t) = 68719476735
      · have hn := hf.mp r
        rw [if_pos r, hn]; exact Or.inr (Or.inl ⟨rfl, show -(0 : Int32) = 0 by decide⟩)
      · rw [if_neg r]
        exact Or.inl ⟨rfl, Nat.pos_of_ne_zero (fun h => r (hf.mpr h)), rfl⟩
theorem bd_turn (x : Int64) {t : Nat} (ht : t < 8) : mturned x (t / 2) (t % 2) = cturned x t := mc_turn x ht
theorem bd_line (x : Int64) : (0 < msum x 0 5 32) ↔ cline x = true := ms_line x 0
theorem bd_free (x : Int64) {i : Nat} (hi : i < 36) : (x &&& jshl 1 (nI i)) = 0 ↔ ¬ bt x i = true := by
  refine (free_bt x (i := i) (by omega)).trans ?_
  cases bt x i <;> decide
