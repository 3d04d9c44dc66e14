/-! the searches: a search that stops early finds the greatest value; values by forms -/
def tri (x : Int32) : Prop := x = -1 ∨ x = 0 ∨ x = 1
theorem tri_le {x : Int32} (h : tri x) : x ≤ 1 := by rcases h with e | e | e <;> rw [e] <;> decide
theorem tri_ge {x : Int32} (h : tri x) : -1 ≤ x := by rcases h with e | e | e <;> rw [e] <;> decide
theorem tri_neg {x : Int32} (h : tri x) : tri (-x) := by
  rcases h with e | e | e <;> rw [e]
  · exact Or.inr (Or.inr rfl)
  · exact Or.inr (Or.inl rfl)
  · exact Or.inl rfl
theorem tri_max {x y : Int32} (h : tri x) (h2 : tri y) : tri (vmax x y) := by unfold vmax; split; exact h2; exact h
def triF (f : Int64 → Int64 → Int32) : Prop := ∀ x y, tri (f x y)
theorem vbehind_tri {f : Int64 → Int64 → Int32} (hf : triF f) (a b : Int64) (t : Nat) : tri (vbehind f a b t) := by
  unfold vbehind
  split
  · split
    · exact Or.inr (Or.inl rfl)
    · exact Or.inr (Or.inr rfl)
  · split
    · exact Or.inl rfl
    · exact tri_neg (hf _ _)
theorem vturn_tri {f : Int64 → Int64 → Int32} (hf : triF f) (a b : Int64) : ∀ k, tri (vturn f a b k)
  | 0 => Or.inl rfl
  | k + 1 => by
    show tri (if vturn f a b k < 1 then vmax (vturn f a b k) (vbehind f a b k) else vturn f a b k)
    split
    · exact tri_max (vturn_tri hf a b k) (vbehind_tri hf a b k)
    · exact vturn_tri hf a b k
theorem vcell_tri {f : Int64 → Int64 → Int32} (hf : triF f) (a b : Int64) (c : Nat) : tri (vcell f a b c) := by
  unfold vcell
  split
  · exact Or.inr (Or.inr rfl)
  · exact vturn_tri hf _ _ _
theorem vplay_tri {f : Int64 → Int64 → Int32} (hf : triF f) (a b : Int64) : ∀ k, tri (vplay f a b k)
  | 0 => Or.inl rfl
  | k + 1 => by
    show tri (if vplay f a b k < 1 then (if ((a ||| b) &&& jshl 1 (nI k)) = 0 then vmax (vplay f a b k) (vcell f a b k) else vplay f a b k) else vplay f a b k)
    split
    · split
      · exact tri_max (vplay_tri hf a b k) (vcell_tri hf a b k)
      · exact vplay_tri hf a b k
    · exact vplay_tri hf a b k
theorem vput_tri : ∀ n, triF (vput n)
  | 0 => fun _ _ => Or.inr (Or.inl rfl)
  | n + 1 => fun a b => vplay_tri (vput_tri n) a b 36
theorem mval_tri {f : Int64 → Int64 → Int32} (hf : triF f) (a b : Int64) (m : Nat) : tri (mval f a b m) := by
  unfold mval
  split
  · exact Or.inr (Or.inr rfl)
  · exact vbehind_tri hf _ _ _
def IsM (N : Nat) (P : Nat → Prop) (g : Nat → Int32) (v : Int32) : Prop := (∃ i, i < N ∧ P i ∧ g i = v) ∧ ∀ i, i < N → P i → g i ≤ v
theorem IsM.one {N : Nat} {P : Nat → Prop} {g : Nat → Int32} {v v' : Int32} (h : IsM N P g v) (h' : IsM N P g v') : v = v' := by
  obtain ⟨⟨i, hi, hp, e⟩, u⟩ := h
  obtain ⟨⟨i', hi', hp', e'⟩, u'⟩ := h'
  exact Int32.le_antisymm (by rw [← e]; exact u' i hi hp) (by rw [← e']; exact u i' hi' hp')
theorem es_max {P : Nat → Prop} {g acc : Nat → Int32} (hs : ∀ i, (acc i < 1 ∧ P i ∧ acc (i + 1) = vmax (acc i) (g i)) ∨ ((1 ≤ acc i ∨ ¬ P i) ∧ acc (i + 1) = acc i)) (h1 : ∀ i, g i ≤ 1) : ∀ k, (∀ i, i < k → P i → g i ≤ acc k) ∧ (acc k = acc 0 ∨ ∃ i, i < k ∧ P i ∧ g i = acc k) ∧ acc 0 ≤ acc k
  | 0 => ⟨fun i hi => absurd hi (by omega), Or.inl rfl, Int32.le_refl _⟩
  | k + 1 => by
    obtain ⟨u, at_, b⟩ := es_max hs h1 k
    rcases hs k with ⟨_, hp, e⟩ | ⟨hq, e⟩
    · by_cases q : acc k < g k
      · have e2 : acc (k + 1) = g k := e.trans (if_pos q)
        refine ⟨fun i hi hpi => ?_, Or.inr ⟨k, by omega, hp, e2.symm⟩, ?_⟩
        · rw [e2]
          by_cases ei : i = k
          · rw [ei]; exact Int32.le_refl _
          · exact Int32.le_trans (u i (by omega) hpi) (Int32.le_of_lt q)
        · rw [e2]; exact Int32.le_trans b (Int32.le_of_lt q)
      · have e2 : acc (k + 1) = acc k := e.trans (if_neg q)
        refine ⟨fun i hi hpi => ?_, ?_, by rw [e2]; exact b⟩
        · rw [e2]
          by_cases ei : i = k
          · rw [ei]; exact Int32.not_lt.mp q
          · exact u i (by omega) hpi
        · rw [e2]; exact at_.imp id (fun ⟨i, hi, h⟩ => ⟨i, by omega, h⟩)
    · refine ⟨fun i hi hpi => ?_, ?_, by rw [e]; exact b⟩
      · rw [e]
        by_cases ei : i = k
        · rw [ei] at hpi ⊢
          exact hq.elim (fun h => Int32.le_trans (h1 k) h) (fun h => absurd hpi h)
        · exact u i (by omega) hpi
      · rw [e]; exact at_.imp id (fun ⟨i, hi, h⟩ => ⟨i, by omega, h⟩)
theorem es_fin {N : Nat} {P : Nat → Prop} {g acc : Nat → Int32} (hs : ∀ i, (acc i < 1 ∧ P i ∧ acc (i + 1) = vmax (acc i) (g i)) ∨ ((1 ≤ acc i ∨ ¬ P i) ∧ acc (i + 1) = acc i)) (h1 : ∀ i, g i ≤ 1) (h0 : ∀ i, acc 0 ≤ g i) (hn : ∃ i, i < N ∧ P i) : IsM N P g (acc N) := by
  obtain ⟨u, at_, b⟩ := es_max hs h1 N
  refine ⟨?_, u⟩
  rcases at_ with e | h
  · obtain ⟨i, hi, hp⟩ := hn
    exact ⟨i, hi, hp, Int32.le_antisymm (u i hi hp) (by rw [e]; exact h0 i)⟩
  · exact h
theorem vm_e (x y : Int32) (P : Prop) [Decidable P] (z : Int32) (h : z = if x < 1 then (if P then vmax x y else x) else x) : (x < 1 ∧ P ∧ z = vmax x y) ∨ ((1 ≤ x ∨ ¬ P) ∧ z = x) := by
  by_cases q : x < 1
  · by_cases p : P
    · rw [if_pos q, if_pos p] at h; exact Or.inl ⟨q, p, h⟩
    · rw [if_pos q, if_neg p] at h; exact Or.inr ⟨Or.inr p, h⟩
  · rw [if_neg q] at h; exact Or.inr ⟨Or.inl (Int32.not_lt.mp q), h⟩
theorem ge_m1 : ∀ {x : Int32}, tri x → (-1 : Int32) ≤ x := tri_ge
theorem turn_max {f : Int64 → Int64 → Int32} (hf : triF f) (a b : Int64) : IsM 8 (fun _ => True) (vbehind f a b) (vturn f a b 8) :=
  es_fin (N := 8) (acc := vturn f a b) (fun i => vm_e _ _ True _ (by rw [if_pos (c := True) trivial]; rfl)) (fun i => tri_le (vbehind_tri hf a b i)) (fun i => tri_ge (vbehind_tri hf a b i)) ⟨0, by omega, trivial⟩
abbrev emp (a b : Int64) (c : Nat) : Prop := ((a ||| b) &&& jshl 1 (nI c)) = 0
theorem play_max {f : Int64 → Int64 → Int32} (hf : triF f) (a b : Int64) (hn : ∃ c, c < 36 ∧ emp a b c) : IsM 36 (emp a b) (vcell f a b) (vplay f a b 36) :=
  es_fin (N := 36) (acc := vplay f a b) (fun i => vm_e _ _ (((a ||| b) &&& jshl 1 (nI i)) = 0) _ rfl) (fun i => tri_le (vcell_tri hf a b i)) (fun i => tri_ge (vcell_tri hf a b i)) hn
theorem mlow_1 (f : Int64 → Int64 → Int32) (a b : Int64) (i : Nat) : (mlow f a b (i + 1)).1 = if (mlow f a b i).1 < 1 then (if ((a ||| b) &&& jshl 1 (nI (i / 8))) = 0 then vmax (mlow f a b i).1 (mval f a b i) else (mlow f a b i).1) else (mlow f a b i).1 := by
  by_cases h1 : (mlow f a b i).1 < 1
  · by_cases h2 : ((a ||| b) &&& jshl 1 (nI (i / 8))) = 0
    · rw [if_pos h1, if_pos h2]; unfold vmax
      by_cases h3 : (mlow f a b i).1 < mval f a b i
      · rw [if_pos h3, mlow_e, if_pos h1, if_pos h2, if_pos h3]
      · rw [if_neg h3, mlow_e, if_pos h1, if_pos h2, if_neg h3]
    · rw [if_pos h1, if_neg h2, mlow_e, if_pos h1, if_neg h2]
  · rw [if_neg h1, mlow_e, if_neg h1]
theorem low_max {f : Int64 → Int64 → Int32} (hf : triF f) (a b : Int64) (hn : ∃ c, c < 36 ∧ emp a b c) : IsM 288 (fun m => emp a b (m / 8)) (mval f a b) (mlow f a b 288).1 := by
  refine es_fin (N := 288) (acc := fun k => (mlow f a b k).1) (fun i => vm_e _ _ (((a ||| b) &&& jshl 1 (nI (i / 8))) = 0) _ (mlow_1 f a b i)) (fun i => tri_le (mval_tri hf a b i)) (fun i => Int32.le_trans (show (-2 : Int32) ≤ -1 by decide) (tri_ge (mval_tri hf a b i))) ?_
  obtain ⟨c, hc, he⟩ := hn
  exact ⟨8 * c, by omega, (show emp a b (8 * c / 8) by rw [show 8 * c / 8 = c by omega]; exact he)⟩
theorem play_max2 {f : Int64 → Int64 → Int32} (hf : triF f) (a b : Int64) (hn : ∃ c, c < 36 ∧ emp a b c) : IsM 288 (fun m => emp a b (m / 8)) (mval f a b) (vplay f a b 36) := by
  obtain ⟨⟨c, hc, he, hv⟩, u⟩ := play_max hf a b hn
  constructor
  · by_cases hl : cline (a ||| jshl 1 (nI c)) = true
    · refine ⟨8 * c, by omega, (show emp a b (8 * c / 8) by rw [show 8 * c / 8 = c by omega]; exact he), ?_⟩
      have e : mval f a b (8 * c) = 1 := mval_1 (by rw [show 8 * c / 8 = c by omega]; exact hl)
      rw [← hv, e, vcell_1 hl]
    · obtain ⟨⟨t, ht, _, hv2⟩, _⟩ := turn_max hf (a ||| jshl 1 (nI c)) b
      refine ⟨8 * c + t, by omega, (show emp a b ((8 * c + t) / 8) by rw [show (8 * c + t) / 8 = c by omega]; exact he), ?_⟩
      have e : mval f a b (8 * c + t) = vbehind f (a ||| jshl 1 (nI ((8 * c + t) / 8))) b ((8 * c + t) % 8) := mval_t (by rw [show (8 * c + t) / 8 = c by omega]; exact hl)
      rw [← hv, e, vcell_t hl, show (8 * c + t) / 8 = c by omega, show (8 * c + t) % 8 = t by omega, hv2]
  · intro m hm he
    refine Int32.le_trans ?_ (u (m / 8) (by omega) he)
    by_cases hl : cline (a ||| jshl 1 (nI (m / 8))) = true
    · rw [mval_1 hl, vcell_1 hl]; exact Int32.le_refl _
    · rw [mval_t hl, vcell_t hl]
      exact (turn_max hf _ b).2 (m % 8) (by omega) trivial
theorem low_play {f : Int64 → Int64 → Int32} (hf : triF f) (a b : Int64) (hn : ∃ c, c < 36 ∧ emp a b c) : (mlow f a b 288).1 = vplay f a b 36 := (low_max hf a b hn).one (play_max2 hf a b hn)
theorem tlow_1 (f : Int64 → Int64 → Int32) (a b : Int64) (i : Nat) : (tlow f a b (i + 1)).1 = if (tlow f a b i).1 < 1 then (if True then vmax (tlow f a b i).1 (vbehind f a b i) else (tlow f a b i).1) else (tlow f a b i).1 := by
  rw [if_pos (c := True) trivial]; unfold vmax
  by_cases h1 : (tlow f a b i).1 < 1
  · by_cases h3 : (tlow f a b i).1 < vbehind f a b i
    · rw [if_pos h1, if_pos h3, tlow_e, if_pos h1, if_pos h3]
    · rw [if_pos h1, if_neg h3, tlow_e, if_pos h1, if_neg h3]
  · rw [if_neg h1, tlow_e, if_neg h1]
theorem low_turn {f : Int64 → Int64 → Int32} (hf : triF f) (a b : Int64) : (tlow f a b 8).1 = vturn f a b 8 :=
  (es_fin (N := 8) (P := fun _ => True) (acc := fun k => (tlow f a b k).1) (fun i => vm_e _ _ True _ (tlow_1 f a b i)) (fun i => tri_le (vbehind_tri hf a b i)) (fun i => Int32.le_trans (show (-2 : Int32) ≤ -1 by decide) (tri_ge (vbehind_tri hf a b i))) ⟨0, by omega, trivial⟩).one (turn_max hf a b)
/-! equal boards have equal values -/
theorem sym_val : ∀ n w, w < 8 → ∀ a b a' b', BV n a b → BV n a' b' → SYM w a a' → SYM w b b' → vput n a b = vput n a' b'
  | 0, _, _, _, _, _, _, _, _, _, _ => rfl
  | n + 1, w, hw, a, b, a', b', hB, hB', ha, hb => by
    have step : ∀ w, w < 8 → ∀ a b a' b', BV (n + 1) a b → BV (n + 1) a' b' → SYM w a a' → SYM w b b' → vput (n + 1) a b ≤ vput (n + 1) a' b' := by
      intro w hw a b a' b' hB hB' ha hb
      obtain ⟨⟨m, hm, he, hv⟩, _⟩ := play_max2 (vput_tri n) a b (some_free hB)
      have u' := (play_max2 (vput_tri n) a' b' (some_free hB')).2
      show vplay (vput n) a b 36 ≤ vplay (vput n) a' b' 36
      rw [← hv]
      obtain ⟨t', ht', hc⟩ := cview_turn w hw (m % 8) (by omega)
      have hcell := cview_lt w hw (m / 8) (by omega)
      have he' : emp a' b' (cview w (m / 8)) := by
        have e1 := or_free ((free_bt (a ||| b) (i := m / 8) (by omega)).mp he)
        refine (free_bt (a' ||| b') (i := cview w (m / 8)) (by omega)).mpr ?_
        rw [bt_or, ← ha (m / 8) (by omega), ← hb (m / 8) (by omega), e1.1, e1.2]; rfl
      have hm1 : (8 * cview w (m / 8) + t') / 8 = cview w (m / 8) := by omega
      have hm2 : (8 * cview w (m / 8) + t') % 8 = t' := by omega
      have hu := u' (8 * cview w (m / 8) + t') (by omega) (show emp a' b' ((8 * cview w (m / 8) + t') / 8) by rw [hm1]; exact he')
      refine Int32.le_trans (Int32.le_of_eq ?_) hu
      have sa := sym_put hw ha (i := m / 8) (by omega)
      have hl := sym_line hw sa
      have hH := bv_put hB (i := m / 8) (by omega) he
      have hH' := bv_put hB' (i := cview w (m / 8)) hcell he'
      unfold mval
      rw [hm1, hm2]
      have hl2 : cline (a ||| jshl 1 (nI (m / 8))) = cline (a' ||| jshl 1 (nI (cview w (m / 8)))) := hl
      rw [hl2]
      split
      · rfl
      · have sA := sym_turn (t := m % 8) (t' := t') (by omega) ht' hc hw sa
        have sB := sym_turn (t := m % 8) (t' := t') (by omega) ht' hc hw hb
        have lA : cline (cturned (a ||| jshl 1 (nI (m / 8))) (m % 8)) = cline (cturned (a' ||| jshl 1 (nI (cview w (m / 8)))) t') := sym_line hw sA
        have lB := sym_line hw sB
        have ih := sym_val n w hw _ _ _ _ (bh_turn hH (t := m % 8) (by omega)) (bh_turn hH' (t := t') ht') sB sA
        unfold vbehind
        rw [lA, lB, ih]
    obtain ⟨w', hw', hi⟩ := sym_inv hw
    exact Int32.le_antisymm (step w hw a b a' b' hB hB' ha hb) (step w' hw' a' b' a b hB' hB (hi a a' ha) (hi b b' hb))
theorem key_val {n n' : Nat} {a b a' b' : Int64} (h : BV n a b) (h' : BV n' a' b') (e : fkey a b = fkey a' b') : vput n a b = vput n' a' b' := by
  obtain ⟨h1, h2, h3, h4, h5⟩ := id h
  obtain ⟨g1, g2, g3, g4, g5⟩ := id h'
  unfold fkey at e
  by_cases q : pop a = pop b
  · by_cases r : pop a' = pop b'
    · rw [if_pos q, if_pos r] at e
      obtain ⟨w, hw, sa, sb⟩ := form_eq h3 g3 e
      have p1 := sym_pop hw h1 g1 sa; have p2 := sym_pop hw h2 g2 sb
      obtain rfl : n = n' := by omega
      exact sym_val n w hw a b a' b' h h' sa sb
    · rw [if_pos q, if_neg r] at e
      obtain ⟨w, hw, sa, sb⟩ := form_eq h3 (dis_c g3) e
      have p1 := sym_pop hw h1 g2 sa; have p2 := sym_pop hw h2 g1 sb
      omega
  · by_cases r : pop a' = pop b'
    · rw [if_neg q, if_pos r] at e
      obtain ⟨w, hw, sa, sb⟩ := form_eq (dis_c h3) g3 e
      have p1 := sym_pop hw h2 g1 sa; have p2 := sym_pop hw h1 g2 sb
      omega
    · rw [if_neg q, if_neg r] at e
      obtain ⟨w, hw, sb, sa⟩ := form_eq (dis_c h3) (dis_c g3) e
      have p1 := sym_pop hw h1 g1 sa; have p2 := sym_pop hw h2 g2 sb
      obtain rfl : n = n' := by omega
      exact sym_val n w hw a b a' b' h h' sa sb
theorem ti_keep {fm : Nat → Int64} {vl : Nat → Int32} (h : TI fm vl) {n : Nat} {a b : Int64} (_ : n ≤ 3) (hB : BV n a b) : TI (vp_updL fm (slotN (fkey a b)) (fkey a b)) (upd vl (slotN (fkey a b)) (vput n a b)) := by
  intro i hi n' a' b' hB' hn' e
  by_cases q : i = slotN (fkey a b)
  · rw [q, pk_uLs] at e
    rw [q, pk_us]; exact key_val hB' hB e
  · rw [pk_uLn q] at e
    rw [pk_un q]; exact h i hi n' a' b' hB' hn' e
theorem num_0 {a b : Int64} {v : Nat} : ∀ j, num a b v j = 0 → ∀ i, i < j → dg a b (cview v (35 - i)) = 0
  | 0, _, i, hi => absurd hi (by omega)
  | j + 1, h, i, hi => by
    have h2 : 3 * num a b v j + dg a b (cview v (35 - j)) = 0 := h
    by_cases e : i = j
    · rw [e]; omega
    · exact num_0 j (by omega) i (by omega)
theorem least_0 {a b : Int64} (ha : inB a) (hb : inB b) (h : dis a b) (e : cleast a b 8 = 0) : pop a = 0 ∧ pop b = 0 := by
  obtain ⟨v, hv, e1⟩ := cleast_some a b 8 (by omega)
  have e2 : lN (num a b v 36) = lN 0 := (ccode_num h hv 36).symm.trans (e1.symm.trans e)
  have e3 := num_0 36 (lN_inj36 (num_lt a b v 36) (by decide) e2)
  have e4 : ∀ c, c < 36 → dg a b c = 0 := fun c hc => by
    obtain ⟨i, hi, rfl⟩ := cview_onto v hv c hc
    have := e3 (35 - i) (by omega)
    rw [show 35 - (35 - i) = i by omega] at this; exact this
  constructor
  · rw [pop_36 ha]; exact (msize_0 a 36).mpr (fun i hi => by rw [dg_1 a b i, e4 i hi]; rfl)
  · rw [pop_36 hb]; exact (msize_0 b 36).mpr (fun i hi => by rw [dg_2 h i, e4 i hi]; rfl)
theorem ti_new : TI (fun _ => 0) (fun _ => 0) := by
  intro i _ n a b hB hn e
  obtain ⟨h1, h2, h3, h4, h5⟩ := hB
  exfalso
  unfold fkey at e
  split at e
  · have := least_0 h1 h2 h3 e; omega
  · have := least_0 h2 h1 (dis_c h3) e; omega
