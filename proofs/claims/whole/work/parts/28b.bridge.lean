/-! the two sides' answers, state by state -/
section BR
variable {f g : Int64} {mt re : Int32} {k w : Nat} {cs ts cs2 ts2 : Nat → Int32} {fo : Nat → Int64}
theorem st_k (h : ST f g mt re k cs ts w) : k ≤ 36 := by
  obtain ⟨h1, h2, h3, h4, h5⟩ := st_bd h
  have p := pop_empty h1 h2 h3
  omega
theorem st_k36 (h : ST f g mt re k cs ts w) (a : mt = 0) (b : re = 0) : k < 36 := by
  obtain ⟨h1, h2, h3, h4, h5⟩ := st_bd h
  rw [a, b] at h
  have hn := (st_0 h).2
  have p := pop_empty h1 h2 h3
  rw [pop_or h3] at hn
  omega
theorem st_hk (h : ST f g mt re k cs ts w) : mt = 0 ∨ 0 < k := by
  rcases st_mt h with e | e
  · exact Or.inl e
  · rw [e] at h; exact Or.inr (hs_mid (st_1 h).1).2.2
theorem free_iff (f g : Int64) {j : Nat} (hj : j < 36) : ¬ (cempty f g &&& jshl 1 (nI j)) = 0 ↔ bt (f ||| g) j = false := by
  rw [cempty_free f g hj]; cases bt (f ||| g) j <;> decide
theorem eq_put {j : Nat} (hs : cside (pop (f ||| g)) 0 = nI w) (hw : w = 1 ∨ w = 2) (h1 : fo 1 = f) (h2 : fo 2 = g) {fq gq : Int64} {mq rq rv r mq2 rq2 : Int32} {X1 X2 X3 X4 : Prop}
    (hK : X1 ∧ X2 ∧ X3 ∧ X4 ∧ rv = rq ∧ ((fq = (f ||| jshl 1 (nI j)) ∧ gq = g ∧ cside (pop (f ||| g)) 0 = 1 ∧ (if cline (f ||| jshl 1 (nI j)) = true then mq = 0 ∧ rq = 1 else mq = 1 ∧ rq = 0)) ∨ (fq = f ∧ gq = (g ||| jshl 1 (nI j)) ∧ ¬ cside (pop (f ||| g)) 0 = 1 ∧ (if cline (g ||| jshl 1 (nI j)) = true then mq = 0 ∧ rq = cside (pop (f ||| g)) 0 else mq = 1 ∧ rq = 0))))
    (hM : r = rq2 ∧ mq2 = (if 0 < msum (fo w ||| jshl 1 (nI j)) 0 5 32 then 0 else 1) ∧ rq2 = (if 0 < msum (fo w ||| jshl 1 (nI j)) 0 5 32 then nI w else 0)) :
    rv = r ∧ mq2 = mq ∧ rq2 = rq ∧ fq = PF w j f ∧ gq = PG w j g ∧ ((mq = 1 ∧ rq = 0) ∨ (mq = 0 ∧ ¬ rq = 0)) := by
  obtain ⟨_, _, _, _, erv, hK⟩ := hK
  obtain ⟨er, em, eq⟩ := hM
  simp only [ms_line] at em eq
  rw [erv, er]
  rcases hw with e | e
  · rw [e] at em eq hs ⊢
    rw [h1] at em eq
    rcases hK with ⟨a, b, _, d⟩ | ⟨_, _, d, _⟩
    · by_cases hl : cline (f ||| jshl 1 (nI j)) = true
      · rw [if_pos hl] at em eq d
        rw [em, eq, d.1, d.2, a, b]
        exact ⟨rfl, rfl, rfl, PF_1.symm, PG_1.symm, Or.inr ⟨rfl, by decide⟩⟩
      · rw [if_neg hl] at em eq d
        rw [em, eq, d.1, d.2, a, b]
        exact ⟨rfl, rfl, rfl, PF_1.symm, PG_1.symm, Or.inl ⟨rfl, rfl⟩⟩
    · exact absurd hs d
  · rw [e] at em eq hs ⊢
    rw [h2] at em eq
    rcases hK with ⟨_, _, d, _⟩ | ⟨a, b, _, d⟩
    · rw [hs] at d; exact absurd d (by decide)
    · by_cases hl : cline (g ||| jshl 1 (nI j)) = true
      · rw [if_pos hl] at em eq d
        rw [em, eq, d.1, d.2, a, b, hs]
        exact ⟨rfl, rfl, rfl, PF_2.symm, PG_2.symm, Or.inr ⟨rfl, by decide⟩⟩
      · rw [if_neg hl] at em eq d
        rw [em, eq, d.1, d.2, a, b]
        exact ⟨rfl, rfl, rfl, PF_2.symm, PG_2.symm, Or.inl ⟨rfl, rfl⟩⟩
theorem rel_put {j : Nat} (hR : REL f g 0 0 k cs ts fo w cs2 ts2) (hj : j < 36) (hf : bt (f ||| g) j = false) {fq gq : Int64} {mq rq : Int32} (e1 : fq = PF w j f) (e2 : gq = PG w j g) (e3 : (mq = 1 ∧ rq = 0) ∨ (mq = 0 ∧ ¬ rq = 0)) : REL fq gq mq rq (k + 1) (upd cs k (nI j)) (upd ts k (-1)) (vp_updL fo w (fo w ||| jshl 1 (nI j))) w (upd cs2 k (nI j)) (upd ts2 k (-1)) := by
  obtain ⟨h1, h2, h3, h4⟩ := hR
  rw [e1, e2]
  refine ⟨?_, ?_, fun i hi => ?_, Or.inr ⟨e3, t_put (st_0 h4).1 hj hf⟩⟩
  · rcases (st_bd h4).2.2.2.1 with e | e
    · rw [e, pk_uLs, h1]; exact PF_1.symm
    · rw [e, pk_uLn (by decide), h1]; exact PF_2.symm
  · rcases (st_bd h4).2.2.2.1 with e | e
    · rw [e, pk_uLn (by decide), h2]; exact PG_1.symm
    · rw [e, pk_uLs, h2]; exact PG_2.symm
  · by_cases e : i = k
    · rw [e, pk_us, pk_us, pk_us, pk_us]; exact ⟨rfl, rfl⟩
    · rw [pk_un e, pk_un e, pk_un e, pk_un e]; exact h3 i (by omega)
theorem eq_turn {qn yn tq : Nat} {rv : Int32} (hq : qn < 4) (hy : yn < 2) {X1 X2 : Prop} (h : ∃ q9 y9, q9 < 4 ∧ y9 < 2 ∧ nI qn = nI q9 ∧ nI yn = nI y9 ∧ tq = 2 * q9 + y9 ∧ X1 ∧ X2 ∧ rv = cjudge (cturned f tq) (cturned g tq)) : tq = 2 * qn + yn ∧ rv = cjudge (cturned f (2 * qn + yn)) (cturned g (2 * qn + yn)) := by
  obtain ⟨q9, y9, h1, h2, h3, h4, h5, _, _, h8⟩ := h
  have e1 := (nq_eq (a := qn) (b := q9) (by omega) (by omega)).mp h3
  have e2 := (nq_eq (a := yn) (b := y9) (by omega) (by omega)).mp h4
  have e : tq = 2 * qn + yn := by omega
  rw [e] at h8
  exact ⟨e, h8⟩
theorem mt_ct (x : Int64) {qn yn : Nat} (hq : qn < 4) (hy : yn < 2) : mturned x qn yn = cturned x (2 * qn + yn) := by
  have h := mc_turn x (t := 2 * qn + yn) (by omega)
  rw [show (2 * qn + yn) / 2 = qn by omega, show (2 * qn + yn) % 2 = yn by omega] at h; exact h
theorem rel_turn {qn yn : Nat} (hq : qn < 4) (hy : yn < 2) (hR : REL f g 1 re k cs ts fo w cs2 ts2) : mjudge (mturned (fo 1) qn yn) (mturned (fo 2) qn yn) = cjudge (cturned f (2 * qn + yn)) (cturned g (2 * qn + yn)) ∧ REL (cturned f (2 * qn + yn)) (cturned g (2 * qn + yn)) 0 (cjudge (cturned f (2 * qn + yn)) (cturned g (2 * qn + yn))) k cs (upd ts (k - 1) (nI (2 * qn + yn))) (vp_updL (vp_updL fo 1 (mturned (fo 1) qn yn)) 2 (mturned (fo 2) qn yn)) (3 - w) cs2 (upd ts2 (k - 1) (nI (2 * qn + yn))) := by
  obtain ⟨h1, h2, h3, h4⟩ := hR
  have ht : 2 * qn + yn < 8 := by omega
  have hH := (st_1 h4).1
  have hb := mid_turn (hs_mid hH).1 ht
  rw [h1, h2, mt_ct f hq hy, mt_ct g hq hy]
  refine ⟨cjudge_m hb.1 hb.2.1 hb.2.2.1, ?_, pk_uLs, fun i hi => ⟨(h3 i hi).1, ?_⟩, Or.inl ⟨rfl, t_turn hH ht, judge_full hb.1 hb.2.1 hb.2.2.1⟩⟩
  · rw [pk_uLn (by decide), pk_uLs]
  · by_cases e : i = k - 1
    · rw [e, pk_us, pk_us]
    · rw [pk_un e, pk_un e]; exact (h3 i hi).2
theorem rel_back {tn : Nat} (ht : tn < 8) (hk : 0 < k) (hR : REL f g mt re k cs ts fo w cs2 ts2) (hH : HS cs (upd ts (k - 1) (-1)) k (cturned f (2 * (tn / 2) + (1 - tn % 2))) (cturned g (2 * (tn / 2) + (1 - tn % 2))) (3 - w)) : REL (cturned f (2 * (tn / 2) + (1 - tn % 2))) (cturned g (2 * (tn / 2) + (1 - tn % 2))) 1 0 k cs (upd ts (k - 1) (-1)) (vp_updL (vp_updL fo 1 (mturned (fo 1) (tn / 2) (1 - tn % 2))) 2 (mturned (fo 2) (tn / 2) (1 - tn % 2))) (3 - w) cs2 (upd ts2 (k - 1) (-1)) := by
  obtain ⟨h1, h2, h3, h4⟩ := hR
  rw [h1, h2, mt_ct f (qn := tn / 2) (yn := 1 - tn % 2) (by omega) (by omega), mt_ct g (qn := tn / 2) (yn := 1 - tn % 2) (by omega) (by omega)]
  refine ⟨?_, pk_uLs, fun i hi => ⟨(h3 i hi).1, ?_⟩, Or.inr ⟨Or.inl ⟨rfl, rfl⟩, hH⟩⟩
  · rw [pk_uLn (by decide), pk_uLs]
  · by_cases e : i = k - 1
    · rw [e, pk_us, pk_us]
    · rw [pk_un e, pk_un e]; exact (h3 i hi).2
theorem rel_pull {j : Nat} (hR : REL f g mt re k cs ts fo w cs2 ts2) (hG : GS cs ts (k - 1) (f &&& (jshl 1 (nI j) ^^^ (-1))) (g &&& (jshl 1 (nI j) ^^^ (-1))) w) (hn : ¬ pop ((f &&& (jshl 1 (nI j) ^^^ (-1))) ||| (g &&& (jshl 1 (nI j) ^^^ (-1)))) = 36) (e1 : w = 1 → g &&& (jshl 1 (nI j) ^^^ (-1)) = g) (e2 : w = 2 → f &&& (jshl 1 (nI j) ^^^ (-1)) = f) : REL (f &&& (jshl 1 (nI j) ^^^ (-1))) (g &&& (jshl 1 (nI j) ^^^ (-1))) 0 0 (k - 1) cs ts (vp_updL fo w (fo w &&& (jshl 1 (nI j) ^^^ (-1)))) w cs2 ts2 := by
  obtain ⟨h1, h2, h3, h4⟩ := hR
  refine ⟨?_, ?_, fun i hi => h3 i (by omega), Or.inl ⟨rfl, hG, fun _ => hn⟩⟩
  · rcases (st_bd h4).2.2.2.1 with e | e
    · rw [e, pk_uLs, h1]
    · rw [e, pk_uLn (by decide), h1]; exact (e2 e).symm
  · rcases (st_bd h4).2.2.2.1 with e | e
    · rw [e, pk_uLn (by decide), h2]; exact (e1 e).symm
    · rw [e, pk_uLs, h2]
theorem rel_lay {f9 g9 : Int64} (h : iboard f9 g9) {wq : Nat} (ew : wq = (if msize f9 36 = msize g9 36 then 1 else 2)) {cs ts cs2 ts2 : Nat → Int32} {fo : Nat → Int64} : mjudge f9 g9 = cjudge f9 g9 ∧ REL f9 g9 0 (cjudge f9 g9) 0 cs ts (vp_updL (vp_updL fo 1 f9) 2 g9) wq cs2 ts2 := by
  have hb := lay_bal h
  rw [ew]
  refine ⟨cjudge_m hb.1 hb.2.1 hb.2.2.1, ?_, pk_uLs, fun i hi => absurd hi (by omega), Or.inl ⟨rfl, hb, judge_full hb.1 hb.2.1 hb.2.2.1⟩⟩
  rw [pk_uLn (by decide), pk_uLs]
theorem rel_new {cs ts cs2 ts2 : Nat → Int32} : REL 0 0 0 0 0 cs ts (fun _ => 0) 1 cs2 ts2 := by
  refine ⟨rfl, rfl, fun i hi => absurd hi (by omega), Or.inl ⟨rfl, new_bal, fun _ => ?_⟩⟩
  have e : pop (0 ||| 0 : Int64) = 0 := by decide +kernel
  rw [e]; decide
/-! reads -/
theorem eq_at {j : Nat} (hj : j < 36) (h1 : fo 1 = f) (h2 : fo 2 = g) : (if ¬ (f &&& jshl 1 (nI j)) = 0 then (1 : Int32) else if ¬ (g &&& jshl 1 (nI j)) = 0 then 2 else 0) = (if bt (fo 1) j = true then 1 else if bt (fo 2) j = true then 2 else 0) := by
  rw [h1, h2]
  have a : ∀ x : Int64, ¬ (x &&& jshl 1 (nI j)) = 0 ↔ bt x j = true := fun x => by
    rw [show ((x &&& jshl 1 (nI j)) = 0 ↔ bt x j = false) from free_bt x (i := j) (by omega)]; cases bt x j <;> decide
  by_cases p : bt f j = true
  · rw [if_pos ((a f).mpr p), if_pos p]
  · by_cases q : bt g j = true
    · rw [if_neg (fun h => p ((a f).mp h)), if_pos ((a g).mpr q), if_neg p, if_pos q]
    · rw [if_neg (fun h => p ((a f).mp h)), if_neg (fun h => q ((a g).mp h)), if_neg p, if_neg q]
theorem rel_size (hR : REL f g mt re k cs ts fo w cs2 ts2) : msize (fo 1 ||| fo 2) 36 = pop (f ||| g) := by
  obtain ⟨h1, h2, h3, h4⟩ := hR
  have hb := st_bd h4
  rw [h1, h2, pop_36 (inB_or hb.1 hb.2.1)]
theorem imove_le (hk : k ≤ 36) {v : Int32} : imove k v ↔ (0 ≤ v ∧ v ≤ nI k - 1) := by
  unfold imove
  have e : (nI k - 1).toInt = (k : Int) - 1 := pk_sub_toInt (a := k) (b := 1) (by omega) (by omega)
  rw [Int32.lt_iff_toInt_lt, Int32.le_iff_toInt_le (x := v) (y := nI k - 1), e, nI_toInt (by omega)]
  constructor
  · intro h; exact ⟨h.1, by omega⟩
  · intro h; exact ⟨h.1, by omega⟩
theorem eq_ex {j : Nat} (hj : j < k) (hk : k ≤ 36) {P : Nat → Prop} (h : ∃ j', j' < k ∧ nI j = nI j' ∧ P j') : P j := by
  obtain ⟨j', h1, h2, h3⟩ := h
  rw [(nq_eq (a := j) (b := j') (by omega) (by omega)).mp h2]; exact h3
theorem eq_ex2 {j : Nat} (hj : j < k) (hk : k ≤ 36) {P : Nat → Nat → Prop} (h : ∃ j' tn, j' < k ∧ nI j = nI j' ∧ P j' tn) : ∃ tn, P j tn := by
  obtain ⟨j', tn, h1, h2, h3⟩ := h
  rw [(nq_eq (a := j) (b := j') (by omega) (by omega)).mp h2]; exact ⟨tn, h3⟩
theorem eq_lines {j : Nat} (hj : j = 1 ∨ j = 2) (h1 : fo 1 = f) (h2 : fo 2 = g) : nI (clines (if nI j = 1 then f else g)) = msum (fo j) (fo (3 - j)) 5 32 := by
  rw [msum5]
  rcases hj with e | e
  · rw [e, h1]; rfl
  · rw [e, h2]; rfl
theorem eq_fours {j : Nat} (hj : j = 1 ∨ j = 2) (h1 : fo 1 = f) (h2 : fo 2 = g) : nI (cfours (if nI j = 1 then f else g) (cempty f g) 5) = msum (fo j) (fo (3 - j)) 4 32 := by
  rcases hj with e | e
  · rw [e]
    show nI (cfours f (cempty f g) 5) = msum (fo 1) (fo 2) 4 32
    rw [h1, h2]
    exact (fours_eq (fun i hi => by rw [cempty_bt f g (i := i) (by omega), decide_eq_true hi]; rfl)).symm
  · rw [e]
    show nI (cfours g (cempty f g) 5) = msum (fo 2) (fo 1) 4 32
    rw [h1, h2]
    exact (fours_eq (fun i hi => by rw [cempty_bt f g (i := i) (by omega), decide_eq_true hi, Bool.or_comm]; rfl)).symm
theorem turn_free (f g : Int64) {t i : Nat} (ht : t < 8) (hi : i < 36) : bt (cturned (cempty f g) t) i = !(bt (cturned f t) i || bt (cturned g t) i) := by
  have hl := tfrom_36 t ht i hi
  rw [ct_bt _ ht (j := i) (by omega), ct_bt _ ht (j := i) (by omega), ct_bt _ ht (j := i) (by omega), cempty_bt f g (i := tfrom t i) (by omega), decide_eq_true hl]; rfl
theorem eq_fb {j qn yn : Nat} (hj : j = 1 ∨ j = 2) (hq : qn < 4) (hy : yn < 2) (h1 : fo 1 = f) (h2 : fo 2 = g) : nI (cfours (cturned (if nI j = 1 then f else g) (2 * qn + yn)) (cturned (cempty f g) (2 * qn + yn)) 5) = msum (mturned (fo j) qn yn) (mturned (fo (3 - j)) qn yn) 4 32 := by
  rw [mt_ct _ hq hy, mt_ct _ hq hy]
  rcases hj with e | e
  · rw [e]
    show nI (cfours (cturned f (2 * qn + yn)) _ 5) = msum (cturned (fo 1) (2 * qn + yn)) (cturned (fo 2) (2 * qn + yn)) 4 32
    rw [h1, h2]
    exact (fours_eq (fun i hi => turn_free f g (by omega) hi)).symm
  · rw [e]
    show nI (cfours (cturned g (2 * qn + yn)) _ 5) = msum (cturned (fo 2) (2 * qn + yn)) (cturned (fo 1) (2 * qn + yn)) 4 32
    rw [h1, h2]
    exact (fours_eq (fun i hi => by rw [turn_free f g (by omega) hi, Bool.or_comm])).symm
theorem eq_fb2 {j qn yn : Nat} {rv : Int32} {X : Prop} (hq : qn < 4) (hy : yn < 2) (h : X ∧ ∃ q9 y9, q9 < 4 ∧ y9 < 2 ∧ nI qn = nI q9 ∧ nI yn = nI y9 ∧ rv = nI (cfours (cturned (if nI j = 1 then f else g) (2 * q9 + y9)) (cturned (cempty f g) (2 * q9 + y9)) 5)) : rv = nI (cfours (cturned (if nI j = 1 then f else g) (2 * qn + yn)) (cturned (cempty f g) (2 * qn + yn)) 5) := by
  obtain ⟨_, q9, y9, h1, h2, h3, h4, h5⟩ := h
  rw [(nq_eq (a := qn) (b := q9) (by omega) (by omega)).mp h3, (nq_eq (a := yn) (b := y9) (by omega) (by omega)).mp h4]; exact h5
theorem cwc_m {o : Int64} (f g : Int64) : ∀ c, c ≤ 36 → nI (cwc o (cempty f g) c) = mwc o (f ||| g) c
  | 0, _ => rfl
  | c + 1, hc => by
    show nI (cwc o (cempty f g) c + (if ¬ (cempty f g &&& jshl 1 (nI c)) = 0 then (if cline (o ||| jshl 1 (nI c)) = true then 1 else 0) else 0)) = mwc o (f ||| g) c + (if bt (f ||| g) c = true then 0 else if 0 < msum (o ||| jshl 1 (nI c)) 0 5 32 then 1 else 0)
    rw [← nI_add, cwc_m f g c (by omega)]
    simp only [ms_line]
    by_cases p : bt (f ||| g) c = true
    · rw [if_pos p, if_neg (fun h => h ((cempty_free f g (by omega)).mpr p))]; rfl
    · rw [if_neg p, if_pos (fun h => p ((cempty_free f g (by omega)).mp h))]
      by_cases q : cline (o ||| jshl 1 (nI c)) = true
      · rw [if_pos q, if_pos q]; rfl
      · rw [if_neg q, if_neg q]; rfl
theorem mj_1 (a b : Int64) : mjudge a b = 1 ↔ (cline a = true ∧ ¬ cline b = true) := by
  rw [mj_e]
  by_cases p : cline a = true
  · by_cases q : cline b = true
    · rw [if_pos ⟨p, q⟩]; exact ⟨fun h => absurd h (by decide), fun h => absurd q h.2⟩
    · rw [if_neg (fun h => q h.2), if_pos p]; exact ⟨fun _ => ⟨p, q⟩, fun _ => rfl⟩
  · refine ⟨fun h => ?_, fun h => absurd h.1 p⟩
    rw [if_neg (fun h => p h.1), if_neg p] at h
    by_cases q : cline b = true
    · rw [if_pos q] at h; exact absurd h (by decide)
    · rw [if_neg q] at h
      by_cases r : (a ||| b) = 68719476735
      · rw [if_pos r] at h; exact absurd h (by decide)
      · rw [if_neg r] at h; exact absurd h (by decide)
theorem mj_2 (a b : Int64) : mjudge a b = 2 ↔ (cline b = true ∧ ¬ cline a = true) := by
  rw [mj_e]
  by_cases p : cline a = true
  · by_cases q : cline b = true
    · rw [if_pos ⟨p, q⟩]; exact ⟨fun h => absurd h (by decide), fun h => absurd p h.2⟩
    · rw [if_neg (fun h => q h.2), if_pos p]; exact ⟨fun h => absurd h (by decide), fun h => absurd h.1 q⟩
  · rw [if_neg (fun h => p h.1), if_neg p]
    by_cases q : cline b = true
    · rw [if_pos q]; exact ⟨fun _ => ⟨q, p⟩, fun _ => rfl⟩
    · refine ⟨fun h => ?_, fun h => absurd h.1 q⟩
      rw [if_neg q] at h
      by_cases r : (a ||| b) = 68719476735
      · rw [if_pos r] at h; exact absurd h (by decide)
      · rw [if_neg r] at h; exact absurd h (by decide)
theorem cwt_e {o u : Int64} {t : Nat} : cwt o u (t + 1) = cwt o u t + (if cline (cturned o t) = true then (if cline (cturned u t) = true then 0 else 1) else 0) := rfl
theorem cwt_m1 (o u : Int64) : ∀ t, t ≤ 8 → nI (cwt o u t) = mwt o u 1 t
  | 0, _ => rfl
  | t + 1, ht => by
    show nI (cwt o u (t + 1)) = mwt o u 1 t + (if mjudge (mturned o (t / 2) (t % 2)) (mturned u (t / 2) (t % 2)) = 1 then 1 else 0)
    rw [cwt_e, ← nI_add, cwt_m1 o u t (by omega), mc_turn o (t := t) (by omega), mc_turn u (t := t) (by omega)]
    by_cases p : cline (cturned o t) = true
    · by_cases q : cline (cturned u t) = true
      · rw [if_pos p, if_pos q, if_neg (fun h => ((mj_1 _ _).mp h).2 q)]; rfl
      · rw [if_pos p, if_neg q, if_pos ((mj_1 _ _).mpr ⟨p, q⟩)]; rfl
    · rw [if_neg p, if_neg (fun h => p ((mj_1 _ _).mp h).1)]; rfl
theorem cwt_m2 (o u : Int64) : ∀ t, t ≤ 8 → nI (cwt o u t) = mwt u o 2 t
  | 0, _ => rfl
  | t + 1, ht => by
    show nI (cwt o u (t + 1)) = mwt u o 2 t + (if mjudge (mturned u (t / 2) (t % 2)) (mturned o (t / 2) (t % 2)) = 2 then 1 else 0)
    rw [cwt_e, ← nI_add, cwt_m2 o u t (by omega), mc_turn o (t := t) (by omega), mc_turn u (t := t) (by omega)]
    by_cases p : cline (cturned o t) = true
    · by_cases q : cline (cturned u t) = true
      · rw [if_pos p, if_pos q, if_neg (fun h => ((mj_2 _ _).mp h).2 q)]; rfl
      · rw [if_pos p, if_neg q, if_pos ((mj_2 _ _).mpr ⟨p, q⟩)]; rfl
    · rw [if_neg p, if_neg (fun h => p ((mj_2 _ _).mp h).1)]; rfl
theorem st_own (hR : REL f g mt re k cs ts fo w cs2 ts2) (hr : re = 0) : (w = 1 ∧ fo 1 = cown f g mt ∧ fo 2 = coth f g mt) ∨ (w = 2 ∧ fo 1 = coth f g mt ∧ fo 2 = cown f g mt) := by
  obtain ⟨h1, h2, h3, h4⟩ := hR
  rcases own_w (st_side h4 hr) (st_bd h4).2.2.2.1 with ⟨a, b, d⟩ | ⟨a, b, d⟩
  · exact Or.inl ⟨a, h1.trans b.symm, h2.trans d.symm⟩
  · exact Or.inr ⟨a, h1.trans d.symm, h2.trans b.symm⟩
theorem eq_wc (hR : REL f g 0 0 k cs ts fo w cs2 ts2) : nI (cwc (cown f g 0) (cempty f g) 36) = mwc (fo w) (fo 1 ||| fo 2) 36 := by
  have ho := st_own hR rfl
  obtain ⟨h1, h2, h3, h4⟩ := hR
  rw [cwc_m f g 36 (by omega)]
  rcases ho with ⟨a, b, _⟩ | ⟨a, _, d⟩
  · rw [a, b.symm.trans h1, h1, h2]
  · rw [a, d.symm.trans h2, h1, h2]
theorem eq_wt1 {j : Nat} {cs ts cs2 ts2 : Nat → Int32} (hR : REL f g 0 0 k cs ts fo 1 cs2 ts2) : (if cline (cown f g 0 ||| jshl 1 (nI j)) = true then (8 : Int32) else nI (cwt (cown f g 0 ||| jshl 1 (nI j)) (coth f g 0) 8)) = (if 0 < msum (fo 1 ||| jshl 1 (nI j)) 0 5 32 then 8 else mwt (fo 1 ||| jshl 1 (nI j)) (fo 2) 1 8) := by
  rcases st_own hR rfl with ⟨_, b, d⟩ | ⟨a, _, _⟩
  · simp only [ms_line]; rw [← b, ← d, cwt_m1 _ _ 8 (by omega)]
  · exact absurd a (by decide)
theorem eq_wt2 {j : Nat} {cs ts cs2 ts2 : Nat → Int32} (hR : REL f g 0 0 k cs ts fo 2 cs2 ts2) : (if cline (cown f g 0 ||| jshl 1 (nI j)) = true then (8 : Int32) else nI (cwt (cown f g 0 ||| jshl 1 (nI j)) (coth f g 0) 8)) = (if 0 < msum (fo 2 ||| jshl 1 (nI j)) 0 5 32 then 8 else mwt (fo 1) (fo 2 ||| jshl 1 (nI j)) 2 8) := by
  rcases st_own hR rfl with ⟨a, _, _⟩ | ⟨_, b, d⟩
  · exact absurd a (by decide)
  · simp only [ms_line]; rw [← b, ← d, cwt_m2 _ _ 8 (by omega)]
/-! endings -/
theorem low_put {n : Nat} {a b : Int64} (hB : BV (n + 1) a b) : (mlow (rnode n) a b 288).1 = vput (n + 1) a b := (rnode_e.trans rstep_e).symm.trans (rnode_vput (n + 1) a b hB)
theorem low_trn {n : Nat} {a b : Int64} (hB : BH n a b) : (tlow (rnode n) a b 8).1 = vturn (vput n) a b 8 := by
  rw [tlow_cong (rnode_vput n) hB 8 (by omega), low_turn (vput_tri n) a b]
theorem end_le (hR : REL f g mt re k cs ts fo w cs2 ts2) : pop (cempty f g) ≤ 3 ↔ ¬ 3 < nI 36 - nI (msize (fo 1 ||| fo 2) 36) := by
  have e := rel_size hR
  obtain ⟨h1, h2, h3, h4⟩ := hR
  obtain ⟨g1, g2, g3, _, _⟩ := st_bd h4
  have p := pop_empty g1 g2 g3
  rw [e, pop_or g3, pk_sub (by omega), Int32.not_lt]
  refine Iff.trans ?_ (nq_le (a := 36 - (pop f + pop g)) (b := 3) (by omega) (by omega)).symm
  omega
theorem best_put {n : Nat} {a b : Int64} (hB : BV (n + 1) a b) {r : Int32} (h : (mlow (rnode n) a b 288).1 = (-2) ∨ r = nI (mlow (rnode n) a b 288).2) : r = nI (mlow (vput n) a b 288).2 := by
  rcases h with h | h
  · rw [low_put hB] at h
    have := tri_ge (vput_tri (n + 1) a b)
    rw [h] at this; exact absurd this (by decide)
  · rw [mlow_cong (rnode_vput n) hB 288 (by omega)] at h; exact h
theorem best_trn {n : Nat} {a b : Int64} (hB : BH n a b) {r : Int32} (h : (tlow (rnode n) a b 8).1 = (-2) ∨ r = nI (tlow (rnode n) a b 8).2) : r = nI (tlow (vput n) a b 8).2 := by
  rcases h with h | h
  · rw [low_trn hB] at h
    have := tri_ge (vturn_tri (vput_tri n) a b 8)
    rw [h] at this; exact absurd this (by decide)
  · rw [tlow_cong (rnode_vput n) hB 8 (by omega)] at h; exact h
theorem rel_dis (hR : REL f g mt re k cs ts fo w cs2 ts2) : dis f g := (st_bd hR.2.2.2).2.2.1
theorem eq_form (hR : REL f g mt re k cs ts fo w cs2 ts2) : cleast f g 8 = mleast (fo 1) (fo 2) 8 := by
  rw [hR.1, hR.2.1, least_eq (rel_dis hR)]
theorem eq_symm (hR : REL f g mt re k cs ts fo w cs2 ts2) : nI (csym f g 8) = msym (fo 1) (fo 2) 8 := by
  rw [hR.1, hR.2.1, sym_eq (rel_dis hR)]
end BR
/-! the share -/
theorem f2d_all : ∀ n, n < 65 → (FP.f2d (FP.fdiv (FP.i2f (nI n)) 1108344832)) &&& 0x7fffffffffffffff ≤ 0x7ff0000000000000 := by decide +kernel
theorem f2d_ok {n : Nat} (h : n ≤ 64) : vf_n64 (FP.f2d (cshare n)) := f2d_all n (by omega)
theorem dcmp_all : ∀ n, n < 65 → Op.cmpValue (FP.dcmp (FP.f2d (FP.fdiv (FP.i2f (nI n)) 1108344832)) (FP.f2d (FP.fdiv (FP.i2f (nI n)) 1108344832))) .l = 0 := by decide +kernel
theorem dcmp_ok {n : Nat} (h : n ≤ 64) : Op.cmpValue (FP.dcmp (FP.f2d (cshare n)) (FP.f2d (cshare n))) .l = 0 := dcmp_all n (by omega)
