/-! forms: codes are numbers to the base 3; equal forms are boards turned and mirrored -/
def dg (a b : Int64) (c : Nat) : Nat := if bt a c = true then 1 else if bt b c = true then 2 else 0
theorem dg_lt (a b : Int64) (c : Nat) : dg a b c < 3 := by unfold dg; cases bt a c <;> cases bt b c <;> decide
def num (a b : Int64) (v : Nat) : Nat → Nat
  | 0 => 0
  | j + 1 => 3 * num a b v j + dg a b (cview v (35 - j))
theorem num_lt (a b : Int64) (v : Nat) : ∀ j, num a b v j < 3 ^ j
  | 0 => by show 0 < 1; omega
  | j + 1 => by
    have h := num_lt a b v j
    have h2 := dg_lt a b (cview v (35 - j))
    show 3 * num a b v j + dg a b (cview v (35 - j)) < 3 ^ (j + 1)
    rw [Nat.pow_succ]; omega
theorem bit1 (a : Int64) {k : Nat} (hk : k < 64) : (jushr a (nI k) &&& 1) = if bt a k = true then 1 else 0 := by
  rw [and1, bt_ushr a hk, Nat.add_zero]
theorem ccode_num {a b : Int64} (h : dis a b) {v : Nat} (hv : v < 8) : ∀ j, ccode a b v j = lN (num a b v j)
  | 0 => rfl
  | j + 1 => by
    have hk : cview v (35 - j) < 36 := cview_lt v hv (35 - j) (by omega)
    have hd := h (cview v (35 - j))
    show 3 * ccode a b v j + (jushr a (nI (cview v (35 - j))) &&& 1) + 2 * (jushr b (nI (cview v (35 - j))) &&& 1) = lN (3 * num a b v j + dg a b (cview v (35 - j)))
    rw [ccode_num h hv j, bit1 a (k := cview v (35 - j)) (by omega), bit1 b (k := cview v (35 - j)) (by omega), ← lN_add, ← lN_mul]
    unfold dg
    cases ha : bt a (cview v (35 - j)) <;> cases hb : bt b (cview v (35 - j))
    · show lN 3 * lN _ + 0 + 2 * 0 = lN 3 * lN _ + lN 0
      first | (rw [show (2 : Int64) * 0 = 0 from rfl, Int64.add_zero]; rfl) | rw [show (2 : Int64) * 0 = 0 from rfl, Int64.add_zero]
    · show lN 3 * lN _ + 0 + 2 * 1 = lN 3 * lN _ + lN 2
      first | (rw [show (2 : Int64) * 1 = 2 from rfl, Int64.add_zero]; rfl) | rw [show (2 : Int64) * 1 = 2 from rfl, Int64.add_zero]
    · show lN 3 * lN _ + 1 + 2 * 0 = lN 3 * lN _ + lN 1
      first | (rw [show (2 : Int64) * 0 = 0 from rfl, Int64.add_zero]; rfl) | rw [show (2 : Int64) * 0 = 0 from rfl, Int64.add_zero]
    · rw [ha, hb] at hd; exact absurd hd (by decide)
theorem lN_inj36 {x y : Nat} (hx : x < 3 ^ 36) (hy : y < 3 ^ 36) (h : lN x = lN y) : x = y := by
  have h1 : (lN x).toBitVec.toNat = (lN y).toBitVec.toNat := by rw [h]
  have hb : (3 : Nat) ^ 36 < 2 ^ 64 := by decide
  rw [lN_nat (n := x) (by omega), lN_nat (n := y) (by omega)] at h1
  exact h1
theorem num_inj {a b a' b' : Int64} {v v' : Nat} : ∀ j, num a b v j = num a' b' v' j → ∀ i, i < j → dg a b (cview v (35 - i)) = dg a' b' (cview v' (35 - i))
  | 0, _, i, hi => absurd hi (by omega)
  | j + 1, h, i, hi => by
    have h2 : 3 * num a b v j + dg a b (cview v (35 - j)) = 3 * num a' b' v' j + dg a' b' (cview v' (35 - j)) := h
    have l1 := dg_lt a b (cview v (35 - j)); have l2 := dg_lt a' b' (cview v' (35 - j))
    by_cases e : i = j
    · rw [e]; omega
    · exact num_inj j (by omega) i (by omega)
theorem cleast_some (a b : Int64) : ∀ n, n ≤ 8 → ∃ v, v < 8 ∧ cleast a b n = ccode a b v 36
  | 0, _ => ⟨0, by omega, rfl⟩
  | n + 1, h => by
    obtain ⟨v, hv, e⟩ := cleast_some a b n (by omega)
    by_cases q : ccode a b n 36 < cleast a b n
    · exact ⟨n, by omega, if_pos q⟩
    · exact ⟨v, hv, (if_neg q).trans e⟩
/-- a' is a, turned or mirrored by the view w -/
def SYM (w : Nat) (a a' : Int64) : Prop := ∀ c, c < 36 → bt a c = bt a' (cview w c)
theorem cview_comp : ∀ v, v < 8 → ∀ v', v' < 8 → ∃ w, w < 8 ∧ ∀ i, i < 36 → cview v' i = cview w (cview v i) := by decide +kernel
theorem cview_onto : ∀ v, v < 8 → ∀ c, c < 36 → ∃ i, i < 36 ∧ cview v i = c := by decide +kernel
theorem cview_inv : ∀ v, v < 8 → ∃ w, w < 8 ∧ ∀ c, c < 36 → cview v (cview w c) = c := by decide +kernel
theorem cview_perm : ∀ v, v < 8 → ((List.range 36).map (cview v)).Perm (List.range 36) := by decide +kernel
theorem cview_one : ∀ v, v < 8 → ∀ i, i < 36 → ∀ j, j < 36 → decide (cview v j = cview v i) = decide (j = i) := by decide +kernel
theorem cview_turn : ∀ v, v < 8 → ∀ t, t < 8 → ∃ t', t' < 8 ∧ ∀ c, c < 36 → tfrom t' (cview v c) = cview v (tfrom t c) := by decide +kernel
theorem cview_line : ∀ v, v < 8 → ∀ p, p < 32 → ∃ p', p' < 32 ∧ ∀ k', k' < 5 → ∃ k, k < 5 ∧ mcell p' k' = cview v (mcell p k) := by decide +kernel
theorem dg_1 (a b : Int64) (c : Nat) : bt a c = decide (dg a b c = 1) := by unfold dg; cases bt a c <;> cases bt b c <;> decide
theorem dg_2 {a b : Int64} (h : dis a b) (c : Nat) : bt b c = decide (dg a b c = 2) := by
  have := h c
  unfold dg
  cases ha : bt a c <;> cases hb : bt b c
  · decide
  · decide
  · decide
  · rw [ha, hb] at this; exact absurd this (by decide)
theorem code_eq {a b a' b' : Int64} (h : dis a b) (h' : dis a' b') {v v' : Nat} (hv : v < 8) (hv' : v' < 8) (e : ccode a b v 36 = ccode a' b' v' 36) : ∃ w, w < 8 ∧ SYM w a a' ∧ SYM w b b' := by
  rw [ccode_num h hv, ccode_num h' hv'] at e
  have e2 := num_inj 36 (lN_inj36 (num_lt a b v 36) (num_lt a' b' v' 36) e)
  have e3 : ∀ i, i < 36 → dg a b (cview v i) = dg a' b' (cview v' i) := fun i hi => by
    have := e2 (35 - i) (by omega)
    rw [show 35 - (35 - i) = i by omega] at this; exact this
  obtain ⟨w, hw, hc⟩ := cview_comp v hv v' hv'
  have e4 : ∀ c, c < 36 → dg a b c = dg a' b' (cview w c) := fun c hc2 => by
    obtain ⟨i, hi, rfl⟩ := cview_onto v hv c hc2
    rw [e3 i hi, hc i hi]
  refine ⟨w, hw, fun c hc2 => ?_, fun c hc2 => ?_⟩
  · rw [dg_1 a b c, dg_1 a' b' (cview w c), e4 c hc2]
  · rw [dg_2 h c, dg_2 h' (cview w c), e4 c hc2]
theorem form_eq {a b a' b' : Int64} (h : dis a b) (h' : dis a' b') (e : cleast a b 8 = cleast a' b' 8) : ∃ w, w < 8 ∧ SYM w a a' ∧ SYM w b b' := by
  obtain ⟨v, hv, e1⟩ := cleast_some a b 8 (by omega)
  obtain ⟨v', hv', e2⟩ := cleast_some a' b' 8 (by omega)
  exact code_eq h h' hv hv' (e1.symm.trans (e.trans e2))
theorem sym_pop {w : Nat} (hw : w < 8) {a a' : Int64} (ha : inB a) (ha' : inB a') (h : SYM w a a') : pop a = pop a' := by
  rw [pop_36 ha, pop_36 ha', msize_sum, msize_sum]
  exact (sumL_cong (g := fun i => bi (bt a' (cview w i))) (List.range 36) (fun c hc => by show bi _ = bi _; rw [h c (List.mem_range.mp hc)])).trans ((sumL_map (f := fun i => bi (bt a' i)) (g := cview w) (List.range 36)).symm.trans (sumL_perm (cview_perm w hw)))
theorem sym_inv {w : Nat} (hw : w < 8) : ∃ w', w' < 8 ∧ ∀ a a', SYM w a a' → SYM w' a' a := by
  obtain ⟨w', hw', hc⟩ := cview_inv w hw
  exact ⟨w', hw', fun a a' h c hc2 => by rw [h (cview w' c) (cview_lt w' hw' c hc2), hc c hc2]⟩
/-! a line, by its place -/
theorem sumL_some {f : Nat → Nat} : ∀ l : List Nat, 0 < sumL f l → ∃ x, x ∈ l ∧ 0 < f x
  | [], h => absurd h (by show ¬ 0 < 0; omega)
  | x :: l, h => by
    have h2 : 0 < f x + sumL f l := h
    by_cases q : 0 < f x
    · exact ⟨x, List.mem_cons_self, q⟩
    · obtain ⟨y, hy, hp⟩ := sumL_some (f := f) l (by omega)
      exact ⟨y, List.mem_cons_of_mem _ hy, hp⟩
theorem sumL_one {f : Nat → Nat} {x : Nat} (hx : 0 < f x) : ∀ l : List Nat, x ∈ l → 0 < sumL f l
  | [], h => absurd h List.not_mem_nil
  | y :: l, h => by
    show 0 < f y + sumL f l
    rcases List.mem_cons.mp h with e | e
    · rw [← e]; omega
    · have := sumL_one hx l e; omega
theorem five_k {a : Int64} {p : Nat} (hp : p < 32) : five a (psp p) (pst p) = true ↔ ∀ k, k < 5 → bt a (mcell p k) = true := by
  rw [five_cell a hp]
  simp only [Bool.and_eq_true]
  constructor
  · intro h k hk
    rcases (show k = 0 ∨ k = 1 ∨ k = 2 ∨ k = 3 ∨ k = 4 by omega) with e | e | e | e | e <;> rw [e]
    · exact h.1.1.1.1
    · exact h.1.1.1.2
    · exact h.1.1.2
    · exact h.1.2
    · exact h.2
  · intro h
    exact ⟨⟨⟨⟨h 0 (by omega), h 1 (by omega)⟩, h 2 (by omega)⟩, h 3 (by omega)⟩, h 4 (by omega)⟩
theorem cline_place (a : Int64) : cline a = true ↔ ∃ p, p < 32 ∧ ∀ k, k < 5 → bt a (mcell p k) = true := by
  rw [cline_lines, clines_sum]; unfold dsum
  constructor
  · intro h
    obtain ⟨p, hp, hq⟩ := sumL_some _ h
    have hp := List.mem_range.mp hp
    refine ⟨p, hp, (five_k hp).mp ?_⟩
    cases q : five a (psp p) (pst p)
    · have hq2 : 0 < bi (five a (psp p) (pst p)) := hq
      rw [q] at hq2; exact absurd hq2 (by decide)
    · rfl
  · rintro ⟨p, hp, h⟩
    have h2 := (five_k hp).mpr h
    exact sumL_one (x := p) (by show 0 < bi (five a (psp p) (pst p)); rw [h2]; decide) _ (List.mem_range.mpr hp)
theorem sym_line1 {w : Nat} (hw : w < 8) {a a' : Int64} (h : SYM w a a') (hl : cline a = true) : cline a' = true := by
  obtain ⟨p, hp, hk⟩ := (cline_place a).mp hl
  obtain ⟨p', hp', hc⟩ := cview_line w hw p hp
  refine (cline_place a').mpr ⟨p', hp', fun k' hk' => ?_⟩
  obtain ⟨k, hk2, e⟩ := hc k' hk'
  rw [e, ← h (mcell p k) (mcell_lt p hp k hk2)]; exact hk k hk2
theorem sym_line {w : Nat} (hw : w < 8) {a a' : Int64} (h : SYM w a a') : cline a = cline a' := by
  obtain ⟨w', hw', hi⟩ := sym_inv hw
  cases q : cline a
  · cases r : cline a'
    · rfl
    · rw [sym_line1 hw' (hi a a' h) r] at q; exact absurd q (by decide)
  · rw [sym_line1 hw h q]
theorem sym_turn {w t t' : Nat} (ht : t < 8) (ht' : t' < 8) (hc : ∀ c, c < 36 → tfrom t' (cview w c) = cview w (tfrom t c)) (hw : w < 8) {a a' : Int64} (h : SYM w a a') : SYM w (cturned a t) (cturned a' t') := fun c hc2 => by
  have := cview_lt w hw c hc2
  rw [ct_bt a ht (j := c) (by omega), ct_bt a' ht' (j := cview w c) (by omega), hc c hc2, h (tfrom t c) (tfrom_36 t ht c hc2)]
theorem sym_put {w : Nat} (hw : w < 8) {a a' : Int64} (h : SYM w a a') {i : Nat} (hi : i < 36) : SYM w (a ||| b1 i) (a' ||| b1 (cview w i)) := fun c hc => by
  have h1 := cview_lt w hw c hc; have h2 := cview_lt w hw i hi
  rw [bt_or, bt_or, bt_b1 (k := i) (i := c) (by omega) (by omega), bt_b1 (k := cview w i) (i := cview w c) (by omega) (by omega), h c hc, cview_one w hw i hi c hc]
