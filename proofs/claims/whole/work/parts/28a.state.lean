/-! the state of a game: what its record says of the board -/
def BAL (f g : Int64) (w : Nat) : Prop := inB f ∧ inB g ∧ dis f g ∧ ((w = 1 ∧ pop f = pop g) ∨ (w = 2 ∧ pop f = pop g + 1))
def MID (f g : Int64) (w : Nat) : Prop := inB f ∧ inB g ∧ dis f g ∧ ((w = 1 ∧ pop f = pop g + 1) ∨ (w = 2 ∧ pop f = pop g)) ∧ 0 < pop f + pop g
def PF (w j : Nat) (f : Int64) : Int64 := if w = 1 then f ||| jshl 1 (nI j) else f
def PG (w j : Nat) (g : Int64) : Int64 := if w = 1 then g else g ||| jshl 1 (nI j)
def GS (cs ts : Nat → Int32) : Nat → Int64 → Int64 → Nat → Prop
  | 0, f, g, w => BAL f g w
  | k + 1, f, g, w => ∃ (f0 g0 : Int64) (w0 j t : Nat), GS cs ts k f0 g0 w0 ∧ j < 36 ∧ t < 8 ∧ cs k = nI j ∧ ts k = nI t ∧ bt (f0 ||| g0) j = false ∧ f = cturned (PF w0 j f0) t ∧ g = cturned (PG w0 j g0) t ∧ w = 3 - w0
def HS (cs ts : Nat → Int32) (k : Nat) (f g : Int64) (w : Nat) : Prop := ∃ (k0 : Nat) (f0 g0 : Int64) (j : Nat), k = k0 + 1 ∧ GS cs ts k0 f0 g0 w ∧ j < 36 ∧ cs k0 = nI j ∧ ts k0 = (-1) ∧ bt (f0 ||| g0) j = false ∧ f = PF w j f0 ∧ g = PG w j g0
def ST (f g : Int64) (mt re : Int32) (k : Nat) (cs ts : Nat → Int32) (w : Nat) : Prop := (mt = 0 ∧ GS cs ts k f g w ∧ (re = 0 → ¬ pop (f ||| g) = 36)) ∨ ((mt = 1 ∧ re = 0 ∨ mt = 0 ∧ ¬ re = 0) ∧ HS cs ts k f g w)
def REL (f g : Int64) (mt re : Int32) (k : Nat) (cs ts : Nat → Int32) (fo : Nat → Int64) (w : Nat) (cs2 ts2 : Nat → Int32) : Prop := fo 1 = f ∧ fo 2 = g ∧ (∀ j, j < k → cs2 j = cs j ∧ ts2 j = ts j) ∧ ST f g mt re k cs ts w
theorem PF_1 {j : Nat} {f : Int64} : PF 1 j f = f ||| b1 j := if_pos rfl
theorem PG_1 {j : Nat} {f : Int64} : PG 1 j f = f := if_pos rfl
theorem PF_2 {j : Nat} {f : Int64} : PF 2 j f = f := if_neg (by decide)
theorem PG_2 {j : Nat} {f : Int64} : PG 2 j f = f ||| b1 j := if_neg (by decide)
theorem bal_put {f g : Int64} {w j : Nat} (h : BAL f g w) (hj : j < 36) (hf : bt (f ||| g) j = false) : MID (PF w j f) (PG w j g) w ∧ pop (PF w j f) + pop (PG w j g) = pop f + pop g + 1 := by
  obtain ⟨h1, h2, h3, h4⟩ := h
  obtain ⟨ff, fg⟩ := or_free hf
  rcases h4 with ⟨ew, e⟩ | ⟨ew, e⟩
  · rw [ew, PF_1, PG_1]
    have p := pop_put (a := f) (i := j) (by omega) ff
    exact ⟨⟨inB_put h1 hj, h2, dis_put h3 hj fg, Or.inl ⟨rfl, by omega⟩, by omega⟩, by omega⟩
  · rw [ew, PF_2, PG_2]
    have p := pop_put (a := g) (i := j) (by omega) fg
    exact ⟨⟨h1, inB_put h2 hj, dis_c (dis_put (dis_c h3) hj ff), Or.inr ⟨rfl, by omega⟩, by omega⟩, by omega⟩
theorem mid_turn {f g : Int64} {w t : Nat} (h : MID f g w) (ht : t < 8) : BAL (cturned f t) (cturned g t) (3 - w) := by
  obtain ⟨h1, h2, h3, h4, h5⟩ := h
  refine ⟨inB_turn h1 ht, inB_turn h2 ht, dis_turn h3 ht, ?_⟩
  rw [pop_turn f ht, pop_turn g ht]
  rcases h4 with ⟨ew, e⟩ | ⟨ew, e⟩
  · rw [ew]; exact Or.inr ⟨rfl, e⟩
  · rw [ew]; exact Or.inl ⟨rfl, e⟩
section GSS
variable {cs ts cs' ts' : Nat → Int32}
theorem gs_bal : ∀ k f g w, GS cs ts k f g w → BAL f g w
  | 0, _, _, _, h => h
  | k + 1, f, g, w, h => by
    obtain ⟨f0, g0, w0, j, t, h0, hj, ht, hc, hs, hf, ef, eg, ew⟩ := h
    rw [ef, eg, ew]
    exact mid_turn (bal_put (gs_bal k _ _ _ h0) hj hf).1 ht
theorem gs_k : ∀ k f g w, GS cs ts k f g w → k ≤ pop f + pop g
  | 0, _, _, _, _ => Nat.zero_le _
  | k + 1, f, g, w, h => by
    obtain ⟨f0, g0, w0, j, t, h0, hj, ht, hc, hs, hf, ef, eg, ew⟩ := h
    have h1 := gs_k k _ _ _ h0
    have h2 := (bal_put (gs_bal k _ _ _ h0) hj hf).2
    rw [ef, eg, pop_turn _ ht, pop_turn _ ht]; omega
theorem gs_cong : ∀ k f g w, (∀ j, j < k → cs' j = cs j ∧ ts' j = ts j) → GS cs ts k f g w → GS cs' ts' k f g w
  | 0, _, _, _, _, h => h
  | k + 1, f, g, w, hh, h => by
    obtain ⟨f0, g0, w0, j, t, h0, hj, ht, hc, hs, hf, ef, eg, ew⟩ := h
    exact ⟨f0, g0, w0, j, t, gs_cong k _ _ _ (fun i hi => hh i (by omega)) h0, hj, ht, (hh k (by omega)).1.trans hc, (hh k (by omega)).2.trans hs, hf, ef, eg, ew⟩
theorem gs_ts : ∀ k f g w, GS cs ts k f g w → ∀ j, j < k → ∃ t, t < 8 ∧ ts j = nI t
  | 0, _, _, _, _, j, hj => absurd hj (by omega)
  | k + 1, f, g, w, h, i, hi => by
    obtain ⟨f0, g0, w0, j, t, h0, hj, ht, hc, hs, hf, ef, eg, ew⟩ := h
    by_cases e : i = k
    · rw [e]; exact ⟨t, ht, hs⟩
    · exact gs_ts k _ _ _ h0 i (by omega)
theorem hs_mid {k : Nat} {f g : Int64} {w : Nat} (h : HS cs ts k f g w) : MID f g w ∧ k ≤ pop f + pop g ∧ 0 < k := by
  obtain ⟨k0, f0, g0, j, ek, h0, hj, hc, hs, hf, ef, eg⟩ := h
  have h1 := gs_k k0 _ _ _ h0
  have h2 := bal_put (gs_bal k0 _ _ _ h0) hj hf
  rw [ef, eg, ek]
  exact ⟨h2.1, by omega, by omega⟩
theorem hs_ts {k : Nat} {f g : Int64} {w : Nat} (h : HS cs ts k f g w) : ∀ j, j < k → ¬ ts j = (-1) → ∃ t, t < 8 ∧ ts j = nI t := by
  obtain ⟨k0, f0, g0, j, ek, h0, hj, hc, hs, hf, ef, eg⟩ := h
  intro i hi hn
  by_cases e : i = k0
  · rw [e] at hn; exact absurd hs hn
  · exact gs_ts k0 _ _ _ h0 i (by omega)
end GSS
theorem bal_w {f g : Int64} {w : Nat} (h : BAL f g w) : w = 1 ∨ w = 2 := h.2.2.2.imp And.left And.left
theorem mid_w {f g : Int64} {w : Nat} (h : MID f g w) : w = 1 ∨ w = 2 := h.2.2.2.1.imp And.left And.left
/-! what a state says -/
section STS
variable {f g : Int64} {mt re : Int32} {k w : Nat} {cs ts cs2 ts2 : Nat → Int32} {fo : Nat → Int64}
theorem st_bd (h : ST f g mt re k cs ts w) : inB f ∧ inB g ∧ dis f g ∧ (w = 1 ∨ w = 2) ∧ k ≤ pop f + pop g := by
  rcases h with ⟨_, h, _⟩ | ⟨_, h⟩
  · have hb := gs_bal k _ _ _ h
    exact ⟨hb.1, hb.2.1, hb.2.2.1, bal_w hb, gs_k k _ _ _ h⟩
  · have hb := hs_mid h
    exact ⟨hb.1.1, hb.1.2.1, hb.1.2.2.1, mid_w hb.1, hb.2.1⟩
theorem st_mt (h : ST f g mt re k cs ts w) : mt = 0 ∨ mt = 1 := by
  rcases h with ⟨h, _⟩ | ⟨h | h, _⟩
  · exact Or.inl h
  · exact Or.inr h.1
  · exact Or.inl h.1
theorem st_0 (h : ST f g 0 0 k cs ts w) : GS cs ts k f g w ∧ ¬ pop (f ||| g) = 36 := by
  rcases h with ⟨_, h, h2⟩ | ⟨h | h, _⟩
  · exact ⟨h, h2 rfl⟩
  · exact absurd h.1 (by decide)
  · exact absurd rfl h.2
theorem st_1 (h : ST f g 1 re k cs ts w) : HS cs ts k f g w ∧ re = 0 := by
  rcases h with ⟨h, _⟩ | ⟨h | h, h2⟩
  · exact absurd h (by decide)
  · exact ⟨h2, h.2⟩
  · exact absurd h.1 (by decide)
theorem st_hp (h : ST f g mt re k cs ts w) : mt = 0 ∨ 0 < pop (f ||| g) := by
  rcases st_mt h with e | e
  · exact Or.inl e
  · rw [e] at h
    have hm := (hs_mid (st_1 h).1).1
    exact Or.inr (by rw [pop_or hm.2.2.1]; exact hm.2.2.2.2)
theorem st_ts (h : ST f g mt re k cs ts w) : ∀ j, j < k → ¬ ts j = (-1) → ∃ t, t < 8 ∧ ts j = nI t := by
  rcases h with ⟨_, h, _⟩ | ⟨_, h⟩
  · exact fun j hj _ => gs_ts k _ _ _ h j hj
  · exact hs_ts h
/-! free cells -/
theorem cempty_bt (f g : Int64) {i : Nat} (hi : i < 64) : bt (cempty f g) i = (decide (i < 36) && !(bt f i || bt g i)) := by
  unfold cempty
  rw [bt_and, bt_xor, bt_or, bt_all2 i hi, bt_m1 i hi]
  cases decide (i < 36) <;> cases bt f i <;> cases bt g i <;> rfl
theorem pop_empty (h1 : inB f) (h2 : inB g) (h3 : dis f g) : pop (cempty f g) + (pop f + pop g) = 36 := by
  have e : (cempty f g ||| (f ||| g)) = 68719476735 := by
    apply bt_ext; intro i hi
    rw [bt_or, cempty_bt f g hi, bt_or, bt_all2 i hi]
    by_cases q : i < 36
    · rw [decide_eq_true q]; cases bt f i <;> cases bt g i <;> rfl
    · rw [decide_eq_false q, h1 i (by omega), h2 i (by omega)]; rfl
  have hd : dis (cempty f g) (f ||| g) := fun i => by
    by_cases q : i < 64
    · rw [cempty_bt f g q, bt_or]; cases decide (i < 36) <;> cases bt f i <;> cases bt g i <;> rfl
    · rw [bt_big (x := cempty f g) (i := i) (by omega)]; rfl
  rw [← pop_or h3, ← pop_or hd, e]
  exact (all_pop inB_all).mp rfl
theorem cempty_free (f g : Int64) {j : Nat} (hj : j < 36) : (cempty f g &&& jshl 1 (nI j)) = 0 ↔ bt (f ||| g) j = true := by
  refine (free_bt (cempty f g) (i := j) (by omega)).trans ?_
  rw [cempty_bt f g (i := j) (by omega), decide_eq_true hj, bt_or]
  cases bt f j <;> cases bt g j <;> decide
theorem cempty_0 (h1 : inB f) (h2 : inB g) (h3 : dis f g) : cempty f g = 0 ↔ (f ||| g) = 68719476735 := by
  have p := pop_empty h1 h2 h3
  have q := pop_pos (x := cempty f g)
  rw [all_pop (inB_or h1 h2), pop_or h3]
  constructor
  · intro e
    have : ¬ 0 < pop (cempty f g) := fun h => q.mp h e
    omega
  · intro e
    apply Classical.byContradiction
    intro h
    have := q.mpr h
    omega
theorem cjudge_m (h1 : inB f) (h2 : inB g) (h3 : dis f g) : mjudge f g = cjudge f g := by
  rw [mj_e]; unfold cjudge
  have e := cempty_0 h1 h2 h3
  by_cases p : cline f = true
  · by_cases q : cline g = true
    · rw [if_pos ⟨p, q⟩, if_pos p, if_pos q]
    · rw [if_neg (fun h => q h.2), if_pos p, if_pos p, if_neg q]
  · by_cases q : cline g = true
    · rw [if_neg (fun h => p h.1), if_neg p, if_pos q, if_neg p, if_pos q]
    · rw [if_neg (fun h => p h.1), if_neg p, if_neg q, if_neg p, if_neg q]
      by_cases r : cempty f g = 0
      · rw [if_pos r, if_pos (e.mp r)]
      · rw [if_neg r, if_neg (fun h => r (e.mpr h))]
theorem judge_full (h1 : inB f) (h2 : inB g) (h3 : dis f g) (h : cjudge f g = 0) : ¬ pop (f ||| g) = 36 := by
  intro e
  have e0 := (cempty_0 h1 h2 h3).mpr ((all_pop (inB_or h1 h2)).mpr e)
  unfold cjudge at h
  rw [if_pos e0] at h
  by_cases p : cline f = true
  · by_cases q : cline g = true
    · rw [if_pos p, if_pos q] at h; exact absurd h (by decide)
    · rw [if_pos p, if_neg q] at h; exact absurd h (by decide)
  · by_cases q : cline g = true
    · rw [if_neg p, if_pos q] at h; exact absurd h (by decide)
    · rw [if_neg p, if_neg q] at h; exact absurd h (by decide)
/-! the side that acts -/
theorem side0 (h : BAL f g w) : cside (pop (f ||| g)) 0 = nI w := by
  obtain ⟨h1, h2, h3, h4⟩ := h
  rw [pop_or h3]
  rcases h4 with ⟨ew, e⟩ | ⟨ew, e⟩
  · rw [ew]; exact cside1 rfl (by omega)
  · rw [ew]; exact cside2 rfl (by omega)
theorem side1 (h : MID f g w) : cside (pop (f ||| g)) 1 = nI w := by
  obtain ⟨h1, h2, h3, h4, h5⟩ := h
  rw [pop_or h3]
  rcases h4 with ⟨ew, e⟩ | ⟨ew, e⟩
  · rw [ew]; exact cside3 (by decide) (by omega)
  · rw [ew]; exact cside4 (by decide) (by omega)
theorem st_side (h : ST f g mt re k cs ts w) (hr : re = 0) : cside (pop (f ||| g)) mt = nI w := by
  rw [hr] at h
  rcases st_mt h with e | e
  · rw [e] at h ⊢; exact side0 (gs_bal k _ _ _ (st_0 h).1)
  · rw [e] at h ⊢; exact side1 (hs_mid (st_1 h).1).1
theorem own_w (h : cside (pop (f ||| g)) mt = nI w) (hw : w = 1 ∨ w = 2) : (w = 1 ∧ cown f g mt = f ∧ coth f g mt = g) ∨ (w = 2 ∧ cown f g mt = g ∧ coth f g mt = f) := by
  unfold cown coth
  rw [h]
  rcases hw with e | e
  · rw [e]; exact Or.inl ⟨rfl, rfl, rfl⟩
  · rw [e]; exact Or.inr ⟨rfl, rfl, rfl⟩
theorem st_bv (h : ST f g 0 0 k cs ts w) : BV (pop (cempty f g)) (cown f g 0) (coth f g 0) ∧ 0 < pop (cempty f g) := by
  have hb := gs_bal k _ _ _ (st_0 h).1
  have hn := (st_0 h).2
  have hs := own_w (side0 hb) (bal_w hb)
  obtain ⟨h1, h2, h3, h4⟩ := hb
  have p := pop_empty h1 h2 h3
  rw [pop_or h3] at hn
  refine ⟨?_, by omega⟩
  rcases hs with ⟨ew, e1, e2⟩ | ⟨ew, e1, e2⟩
  · rw [e1, e2]; exact ⟨h1, h2, h3, by omega, by omega⟩
  · rw [e1, e2]; exact ⟨h2, h1, dis_c h3, by omega, by omega⟩
theorem st_bh (h : ST f g 1 re k cs ts w) : BH (pop (cempty f g)) (cown f g 1) (coth f g 1) := by
  have hb := (hs_mid (st_1 h).1).1
  have hs := own_w (side1 hb) (mid_w hb)
  obtain ⟨h1, h2, h3, h4, h5⟩ := hb
  have p := pop_empty h1 h2 h3
  rcases hs with ⟨ew, e1, e2⟩ | ⟨ew, e1, e2⟩
  · rw [e1, e2]; exact ⟨h1, h2, h3, by omega, by omega⟩
  · rw [e1, e2]; exact ⟨h2, h1, dis_c h3, by omega, by omega⟩
end STS
/-! what the calls make of a state -/
theorem upd_o {f : Nat → Int32} {k j : Nat} {x : Int32} (h : j ≠ k) : upd f k x j = f j := pk_un h
theorem t_put {cs ts : Nat → Int32} {k w j : Nat} {f g : Int64} (h : GS cs ts k f g w) (hj : j < 36) (hf : bt (f ||| g) j = false) : HS (upd cs k (nI j)) (upd ts k (-1)) (k + 1) (PF w j f) (PG w j g) w :=
  ⟨k, f, g, j, rfl, gs_cong k _ _ _ (fun i hi => ⟨pk_un (by omega), pk_un (by omega)⟩) h, hj, pk_us, pk_us, hf, rfl, rfl⟩
theorem t_turn {cs ts : Nat → Int32} {k w t : Nat} {f g : Int64} (h : HS cs ts k f g w) (ht : t < 8) : GS cs (upd ts (k - 1) (nI t)) k (cturned f t) (cturned g t) (3 - w) := by
  obtain ⟨k0, f0, g0, j, ek, h0, hj, hc, hs, hf, ef, eg⟩ := h
  rw [ek]
  show GS cs (upd ts k0 (nI t)) (k0 + 1) (cturned f t) (cturned g t) (3 - w)
  exact ⟨f0, g0, w, j, t, gs_cong k0 _ _ _ (fun i hi => ⟨rfl, pk_un (by omega)⟩) h0, hj, ht, hc, pk_us, hf, by rw [ef], by rw [eg], rfl⟩
theorem tfrom_opp : ∀ t, t < 8 → ∀ j, j < 64 → tfrom t (tfrom (2 * (t / 2) + (1 - t % 2)) j) = j := by decide +kernel
theorem turn_back (x : Int64) {t : Nat} (ht : t < 8) : cturned (cturned x t) (2 * (t / 2) + (1 - t % 2)) = x := by
  apply bt_ext; intro j hj
  rw [ct_bt _ (t := 2 * (t / 2) + (1 - t % 2)) (by omega) hj, ct_bt x ht (j := tfrom (2 * (t / 2) + (1 - t % 2)) j) (tfrom_lt _ (by omega) j hj), tfrom_opp t ht j hj]
theorem t_back {cs ts : Nat → Int32} {k w : Nat} {f g : Int64} (hk : 0 < k) (h : GS cs ts k f g w) : ∃ t, t < 8 ∧ ts (k - 1) = nI t ∧ HS cs (upd ts (k - 1) (-1)) k (cturned f (2 * (t / 2) + (1 - t % 2))) (cturned g (2 * (t / 2) + (1 - t % 2))) (3 - w) := by
  obtain ⟨k0, ek⟩ : ∃ k0, k = k0 + 1 := ⟨k - 1, by omega⟩
  rw [ek] at h ⊢
  obtain ⟨f0, g0, w0, j, t, h0, hj, ht, hc, hs, hf, ef, eg, ew⟩ := h
  have hw0 := bal_w (gs_bal k0 _ _ _ h0)
  refine ⟨t, ht, hs, ?_⟩
  show HS cs (upd ts k0 (-1)) (k0 + 1) _ _ _
  rw [ef, eg, turn_back _ ht, turn_back _ ht, show 3 - w = w0 by omega]
  exact ⟨k0, f0, g0, j, rfl, gs_cong k0 _ _ _ (fun i hi => ⟨rfl, pk_un (by omega)⟩) h0, hj, hc, pk_us, hf, rfl, rfl⟩
theorem clr_put {x : Int64} {j : Nat} (hj : j < 64) (h : bt x j = false) : (x ||| b1 j) &&& (b1 j ^^^ (-1)) = x := by
  apply bt_ext; intro i hi
  rw [bt_and, bt_or, bt_xor, bt_b1 hj hi, bt_m1 i hi]
  by_cases e : i = j
  · rw [e, h, decide_eq_true (show j = j from rfl)]; rfl
  · rw [decide_eq_false e]; cases bt x i <;> rfl
theorem clr_id {x : Int64} {j : Nat} (hj : j < 64) (h : bt x j = false) : x &&& (b1 j ^^^ (-1)) = x := by
  apply bt_ext; intro i hi
  rw [bt_and, bt_xor, bt_b1 hj hi, bt_m1 i hi]
  by_cases e : i = j
  · rw [e, h]; rfl
  · rw [decide_eq_false e]; cases bt x i <;> rfl
theorem t_pull {cs ts : Nat → Int32} {k w : Nat} {f g : Int64} (h : HS cs ts k f g w) : ∃ j, j < 36 ∧ cs (k - 1) = nI j ∧ ts (k - 1) = (-1) ∧ GS cs ts (k - 1) (f &&& (jshl 1 (nI j) ^^^ (-1))) (g &&& (jshl 1 (nI j) ^^^ (-1))) w ∧ (¬ pop ((f &&& (jshl 1 (nI j) ^^^ (-1))) ||| (g &&& (jshl 1 (nI j) ^^^ (-1)))) = 36) ∧ (w = 1 → g &&& (jshl 1 (nI j) ^^^ (-1)) = g) ∧ (w = 2 → f &&& (jshl 1 (nI j) ^^^ (-1)) = f) := by
  obtain ⟨k0, f0, g0, j, ek, h0, hj, hc, hs, hf, ef, eg⟩ := h
  have hb := gs_bal k0 _ _ _ h0
  obtain ⟨ff, fg⟩ := or_free hf
  have e1 : f &&& (jshl 1 (nI j) ^^^ (-1)) = f0 := by
    rw [ef]
    rcases bal_w hb with e | e
    · rw [e, PF_1]; exact clr_put (by omega) ff
    · rw [e, PF_2]; exact clr_id (by omega) ff
  have e2 : g &&& (jshl 1 (nI j) ^^^ (-1)) = g0 := by
    rw [eg]
    rcases bal_w hb with e | e
    · rw [e, PG_1]; exact clr_id (by omega) fg
    · rw [e, PG_2]; exact clr_put (by omega) fg
  rw [ek]
  refine ⟨j, hj, hc, hs, ?_, ?_, ?_, ?_⟩
  · rw [e1, e2]; exact h0
  · rw [e1, e2]
    intro e
    have := (all_pop (inB_or hb.1 hb.2.1)).mpr e
    rw [this, bt_all j hj] at hf
    exact absurd hf (by decide)
  · intro e; rw [e2, eg, e, PG_1]
  · intro e; rw [e1, ef, e, PF_2]
/-! laying a board -/
theorem bt_low : ∀ i, i < 64 → bt (-68719476736) i = decide (36 ≤ i) := by decide +kernel
theorem low_inB {x : Int64} (h : (x &&& (-68719476736)) = 0) : inB x := fun i hi => by
  by_cases q : i < 64
  · have e : bt (x &&& (-68719476736)) i = false := by rw [h]; exact bt_0 i
    rw [bt_and, bt_low i q, decide_eq_true hi, Bool.and_true] at e; exact e
  · exact bt_big (by omega)
theorem or_inB {f g : Int64} (h : inB (f ||| g)) : inB f ∧ inB g := ⟨fun i hi => (or_free (h i hi)).1, fun i hi => (or_free (h i hi)).2⟩
theorem and_dis {f g : Int64} (h : (f &&& g) = 0) : dis f g := fun i => by
  have e : bt (f &&& g) i = false := by rw [h]; exact bt_0 i
  rw [bt_and] at e; exact e
theorem nsub_eq {a b d : Nat} (ha : a ≤ 64) (hb : b ≤ 64) (hd : d ≤ 1) : nI a - nI b = nI d ↔ a = b + d := by
  constructor
  · intro h
    have e : nI a - nI b + nI b = nI d + nI b := by rw [h]
    rw [Int32.sub_add_cancel, nI_add] at e
    have := (nq_eq (by omega) (by omega)).mp e
    omega
  · intro h
    rw [h, pk_sub (by omega), show b + d - b = d by omega]
theorem i32_01 (d : Int32) : (0 ≤ d ∧ d ≤ 1) ↔ d = 0 ∨ d = 1 := by
  rw [Int32.le_iff_toInt_le, Int32.le_iff_toInt_le, ← Int32.toInt_inj, ← Int32.toInt_inj, show (1 : Int32).toInt = 1 from rfl, Int32.toInt_zero]; omega
theorem lay_ok {f g : Int64} : iboard f g ↔ mlayok f g := by
  unfold iboard mlayok
  constructor
  · rintro ⟨h1, h2, h3⟩
    have hB := or_inB (low_inB h1)
    rw [pop_36 hB.1, pop_36 hB.2] at h3
    exact ⟨h1, h2, (i32_01 _).mpr h3⟩
  · rintro ⟨h1, h2, h3⟩
    have hB := or_inB (low_inB h1)
    rw [← pop_36 hB.1, ← pop_36 hB.2] at h3
    exact ⟨h1, h2, (i32_01 _).mp h3⟩
theorem lay_bal {f g : Int64} (h : iboard f g) : BAL f g (if msize f 36 = msize g 36 then 1 else 2) := by
  obtain ⟨h1, h2, h3⟩ := h
  have hB := or_inB (low_inB h1)
  have hf := pop_le f; have hg := pop_le g
  rw [← pop_36 hB.1, ← pop_36 hB.2]
  refine ⟨hB.1, hB.2, and_dis h2, ?_⟩
  rcases h3 with e | e
  · have := (nsub_eq (d := 0) hf hg (by omega)).mp e
    rw [if_pos (show pop f = pop g by omega)]; exact Or.inl ⟨rfl, by omega⟩
  · have := (nsub_eq (d := 1) hf hg (by omega)).mp e
    rw [if_neg (show ¬ pop f = pop g by omega)]; exact Or.inr ⟨rfl, this⟩
theorem new_bal : BAL 0 0 1 := ⟨fun i _ => bt_0 i, fun i _ => bt_0 i, fun i => by rw [bt_0]; rfl, Or.inl ⟨rfl, rfl⟩⟩
