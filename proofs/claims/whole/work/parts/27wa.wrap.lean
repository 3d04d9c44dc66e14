set_option maxHeartbeats 400000 in
set_option maxRecDepth 100000 in
theorem c_L_put_ok (l : Launch) (hltr : l.stackTraces = false) (D : va_G) (cI cJ : ClassId) (sz : Nat) (h0 lg lc lt fs ps : Nat) (fa fb : Int64) (mt re : Int32) (cs ts : Nat → Int32) (k : Nat) (hk : k ≤ 36) (ob : Nat) (ov : Nat → Int64) (v : Int32) (hk2 : mt = 0 → re = 0 → ¬ (cempty fa fb &&& jshl 1 v) = 0 → k < 36) (hok : icell v ∧ re = 0 ∧ mt = 0 ∧ ¬ (cempty fa fb &&& jshl 1 v) = 0) : Met l yL_put wsL_put ({ frames := 8, cells := 3, slots := 18, locals := 133 } : Room) (va_Pc [.ref h0, .int v, .ref ob] (px_N (px_X (va_A [(h0, .inr (3, [.ref lg, .ref fs, .ref ps, .long fa, .long fb, .int mt, .int re])), (lg, .inr (0, [.ref lc, .ref lt, .int (nI k)])), (lc, .inl (cI, 36, .inl cs)), (lt, .inl (cI, 36, .inl ts)), (ob, .inl (cJ, 1, .inr (.inl ov)))] sz) (pv_C D cI cJ [(h0, .inr (3, [.ref lg, .ref fs, .ref ps, .long fa, .long fb, .int mt, .int re])), (lg, .inr (0, [.ref lc, .ref lt, .int (nI k)])), (lc, .inl (cI, 36, .inl cs)), (lt, .inl (cI, 36, .inl ts)), (ob, .inl (cJ, 1, .inr (.inl ov)))] sz)))) (va_Qi (fun (r : Int32) (u : (Int64) × (Int64) × (Int32) × (Int32) × (Int32)) => r = 0 ∧ (icell v ∧ re = 0 ∧ mt = 0 ∧ (¬ (cempty fa fb &&& jshl 1 v) = 0) ∧ (u.2.2.2.2) = u.2.2.2.1 ∧ ((u.1 = (fa ||| jshl 1 v) ∧ u.2.1 = fb ∧ cside (pop (fa ||| fb)) mt = 1 ∧ (if cline (fa ||| jshl 1 v) = true then u.2.2.1 = 0 ∧ u.2.2.2.1 = 1 else u.2.2.1 = 1 ∧ u.2.2.2.1 = 0)) ∨ (u.1 = fa ∧ u.2.1 = (fb ||| jshl 1 v) ∧ ¬ cside (pop (fa ||| fb)) mt = 1 ∧ (if cline (fb ||| jshl 1 v) = true then u.2.2.1 = 0 ∧ u.2.2.2.1 = cside (pop (fa ||| fb)) mt else u.2.2.1 = 1 ∧ u.2.2.2.1 = 0))))) (fun (u : (Int64) × (Int64) × (Int32) × (Int32) × (Int32)) => pv_B D cI cJ (va_A [(h0, .inr (3, [.ref lg, .ref fs, .ref ps, .long fa, .long fb, .int mt, .int re])), (lg, .inr (0, [.ref lc, .ref lt, .int (nI k)])), (lc, .inl (cI, 36, .inl cs)), (lt, .inl (cI, 36, .inl ts)), (ob, .inl (cJ, 1, .inr (.inl ov)))] sz) [(h0, .inr (3, [.ref lg, .ref fs, .ref ps, .long u.1, .long u.2.1, .int u.2.2.1, .int u.2.2.2.1])), (lg, .inr (0, [.ref lc, .ref lt, .int (nI (k + 1))])), (lc, .inl (cI, 36, .inl (upd cs k v))), (lt, .inl (cI, 36, .inl (upd ts k (-1)))), (ob, .inl (cJ, 1, .inr (.inl (vp_updL ov 0 (u.2.2.2.2).toInt64))))]) (va_A [(h0, .inr (3, [.ref lg, .ref fs, .ref ps, .long fa, .long fb, .int mt, .int re])), (lg, .inr (0, [.ref lc, .ref lt, .int (nI k)])), (lc, .inl (cI, 36, .inl cs)), (lt, .inl (cI, 36, .inl ts)), (ob, .inl (cJ, 1, .inr (.inl ov)))] sz)) 3 18 (va_A [(h0, .inr (3, [.ref lg, .ref fs, .ref ps, .long fa, .long fb, .int mt, .int re])), (lg, .inr (0, [.ref lc, .ref lt, .int (nI k)])), (lc, .inl (cI, 36, .inl cs)), (lt, .inl (cI, 36, .inl ts)), (ob, .inl (cJ, 1, .inr (.inl ov)))] sz) := by
  refine va_MetW (cc := cL_put) (maxL := 4) (ret := (some .int)) (hh := [(0, 9, 12, 13), (0, 9, 15, 15)]) (by decide) rfl ?_
  intro p e s m args below meth c s₁ B hml hv
  obtain ⟨rfl, hNC, hEN, hEX, hZ, rfl, hP, hK, hD0⟩ := hv
  have hx := B.exec
  have hb := B.bytes
  have hr := B.returns
  have hts := atoms_spec (ws := wsL_put) B.pre
  have hown : s.vm.findClass RL = some m.cls := findClass_of_methodNamed B.named
  have hlocks := B.notSynchronized
  have htb := vx_table (x := yL_put) B (hts _ (List.mem_of_getElem? (i := 0) rfl))
  have hD := hD0.self (sz := s.heap.size)
  generalize hAe : va_A [(h0, .inr (3, [.ref lg, .ref fs, .ref ps, .long fa, .long fb, .int mt, .int re])), (lg, .inr (0, [.ref lc, .ref lt, .int (nI k)])), (lc, .inl (cI, 36, .inl cs)), (lt, .inl (cI, 36, .inl ts)), (ob, .inl (cJ, 1, .inr (.inl ov)))] s.heap.size = A at hD hZ ⊢
  have hA : ∀ q : Nat, s.heap.size ≤ q → A q := fun q h => by rw [← hAe]; exact Or.inr h
  have hS : va_S A s.heap s.heap [] := va_S.rf
  have hl := lv_entry ([.ref h0, .int v, .ref ob]) (n := 4) (Nat.le_of_ble_eq_true rfl)
  rw [lg_entry_eq]
  generalize (lg_sl ([.ref h0, .int v, .ref ob]) ++ List.replicate (4 - (lg_sl ([.ref h0, .int v, .ref ob])).length) Slot.unset).toArray = ls at hl ⊢
  have hl : lv_has ls 4 [(0, .ref h0), (1, .int v), (2, .ref ob)] := hl
  refine lv_aload_n hx hb dL_put_0 rfl (lv_at hl 2 rfl) ?_
  refine lv_iconst (v := 0) hx hb dL_put_1 (by decide) ?_
  refine lv_aload_n hx hb dL_put_2 rfl (lv_at hl 0 rfl) ?_
  refine lv_iload_n hx hb dL_put_3 rfl (lv_at hl 1 rfl) ?_
  have hPc : va_P D vwCl [(h0, .inr (3, [.ref lg, .ref fs, .ref ps, .long fa, .long fb, .int mt, .int re])), (lg, .inr (0, [.ref lc, .ref lt, .int (nI k)])), (lc, .inl (cI, 36, .inl cs)), (lt, .inl (cI, 36, .inl ts))] s.heap := hP.sub (ws' := [(h0, .inr (3, [.ref lg, .ref fs, .ref ps, .long fa, .long fb, .int mt, .int re])), (lg, .inr (0, [.ref lc, .ref lt, .int (nI k)])), (lc, .inl (cI, 36, .inl cs)), (lt, .inl (cI, 36, .inl ts))]) [0, 1, 2, 3] rfl
  have hDc : va_D A [(h0, .inr (3, [.ref lg, .ref fs, .ref ps, .long fa, .long fb, .int mt, .int re])), (lg, .inr (0, [.ref lc, .ref lt, .int (nI k)])), (lc, .inl (cI, 36, .inl cs)), (lt, .inl (cI, 36, .inl ts))] := hD.sub (ws' := [(h0, .inr (3, [.ref lg, .ref fs, .ref ps, .long fa, .long fb, .int mt, .int re])), (lg, .inr (0, [.ref lc, .ref lt, .int (nI k)])), (lc, .inl (cI, 36, .inl cs)), (lt, .inl (cI, 36, .inl ts))]) [0, 1, 2, 3] (by decide) rfl
  have hFc := va_free (wc := [(h0, .inr (3, [.ref lg, .ref fs, .ref ps, .long fa, .long fb, .int mt, .int re])), (lg, .inr (0, [.ref lc, .ref lt, .int (nI k)])), (lc, .inl (cI, 36, .inl cs)), (lt, .inl (cI, 36, .inl ts))]) hD hS hA [0, 1, 2, 3] rfl
  refine vx_calli (vx_runV (As := [.int v]) (rest := [.int 0, .ref ob]) ⟨hx, hb, hml, hown, hts⟩ (c_X6_put l hltr D cI cJ s.heap.size  h0 lg lc lt fs ps fa fb mt re cs ts k (by omega) v hk2) (cwV 1 hts gL_put_X6_put rfl rfl rfl (by decide +kernel) ⟨Nat.le_of_ble_eq_true rfl, Nat.le_of_ble_eq_true rfl⟩) ⟨(px_blindX pv_blind), va_recv hK hPc (ci := 3) (q0 := 0) rfl rfl, fun U hU hW => ⟨rfl, hEX.warm hW, by rw [hU]; exact hZ.to hS hW.alike hFc, by rw [hU], by rw [hU]; exact hPc, va_K.moved hW.alike hK, hDc.weaken (fun _ _ _ _ => trivial)⟩⟩ rfl rfl hl.1 rfl (lv_room (Nat.le_of_ble_eq_true rfl)) dL_put_4 ⟨(Nat.le_of_ble_eq_true rfl), (Nat.le_of_ble_eq_true rfl)⟩) hS (fun q _ h => hFc q h) hFc (fun q _ h => hFc q h) (fun E ce q9 u9 t9 H1 locs hth hvm hpx hB9 hz1 hk1 hS hce hcv hcl => ?_) (fun r4 u t9 H1 locs hth hvm hw4 hB9 hz1 hk1 hS => ?_)
  · obtain ⟨hb9, hP1, hK1, hD1⟩ := hB9
    rw [hth] at hP1
    obtain ⟨hP, hD⟩ := va_join (wr := [(ob, .inl (cJ, 1, .inr (.inl ov)))]) (w1 := [(h0, .inr (3, [.ref lg, .ref fs, .ref ps, .long fa, .long fb, .int mt, .int re])), (lg, .inr (0, [.ref lc, .ref lt, .int (nI k)])), (lc, .inl (cI, 36, .inl cs)), (lt, .inl (cI, 36, .inl ts))]) hP hD [0, 1, 2, 3] [4] rfl rfl (by decide) (by decide) hk1 hFc hP1 hD1
    have hP : va_P D vwCl [(h0, .inr (3, [.ref lg, .ref fs, .ref ps, .long fa, .long fb, .int mt, .int re])), (lg, .inr (0, [.ref lc, .ref lt, .int (nI k)])), (lc, .inl (cI, 36, .inl cs)), (lt, .inl (cI, 36, .inl ts)), (ob, .inl (cJ, 1, .inr (.inl ov)))] H1 := hP.sub (ws' := [(h0, .inr (3, [.ref lg, .ref fs, .ref ps, .long fa, .long fb, .int mt, .int re])), (lg, .inr (0, [.ref lc, .ref lt, .int (nI k)])), (lc, .inl (cI, 36, .inl cs)), (lt, .inl (cI, 36, .inl ts)), (ob, .inl (cJ, 1, .inr (.inl ov)))]) [1, 2, 3, 4, 0] rfl
    have hD : va_D A [(h0, .inr (3, [.ref lg, .ref fs, .ref ps, .long fa, .long fb, .int mt, .int re])), (lg, .inr (0, [.ref lc, .ref lt, .int (nI k)])), (lc, .inl (cI, 36, .inl cs)), (lt, .inl (cI, 36, .inl ts)), (ob, .inl (cJ, 1, .inr (.inl ov)))] := hD.sub (ws' := [(h0, .inr (3, [.ref lg, .ref fs, .ref ps, .long fa, .long fb, .int mt, .int re])), (lg, .inr (0, [.ref lc, .ref lt, .int (nI k)])), (lc, .inl (cI, 36, .inl cs)), (lt, .inl (cI, 36, .inl ts)), (ob, .inl (cJ, 1, .inr (.inl ov)))]) [1, 2, 3, 4, 0] (by decide) rfl
    exact hb9.elim (fun h => absurd hok.1 h.2) (fun h => absurd hok.2 h.2.2)
  · try dsimp only at hw4
    obtain ⟨fq4, gq4, mq4, rq4⟩ := u
    obtain ⟨hP1, hK1, hD1⟩ := hB9
    rw [hth] at hP1
    obtain ⟨hP, hD⟩ := va_join (wr := [(ob, .inl (cJ, 1, .inr (.inl ov)))]) (w1 := [(h0, .inr (3, [.ref lg, .ref fs, .ref ps, .long fq4, .long gq4, .int mq4, .int rq4])), (lg, .inr (0, [.ref lc, .ref lt, .int (nI (k + 1))])), (lc, .inl (cI, 36, .inl (upd cs k v))), (lt, .inl (cI, 36, .inl (upd ts k (-1))))]) hP hD [0, 1, 2, 3] [4] rfl rfl (by decide) (by decide) hk1 hFc hP1 hD1
    generalize H1 = H at hP hS ⊢
    have hP : va_P D vwCl [(h0, .inr (3, [.ref lg, .ref fs, .ref ps, .long fq4, .long gq4, .int mq4, .int rq4])), (lg, .inr (0, [.ref lc, .ref lt, .int (nI (k + 1))])), (lc, .inl (cI, 36, .inl (upd cs k v))), (lt, .inl (cI, 36, .inl (upd ts k (-1)))), (ob, .inl (cJ, 1, .inr (.inl ov)))] H := hP.sub (ws' := [(h0, .inr (3, [.ref lg, .ref fs, .ref ps, .long fq4, .long gq4, .int mq4, .int rq4])), (lg, .inr (0, [.ref lc, .ref lt, .int (nI (k + 1))])), (lc, .inl (cI, 36, .inl (upd cs k v))), (lt, .inl (cI, 36, .inl (upd ts k (-1)))), (ob, .inl (cJ, 1, .inr (.inl ov)))]) [1, 2, 3, 4, 0] rfl
    have hD : va_D A [(h0, .inr (3, [.ref lg, .ref fs, .ref ps, .long fq4, .long gq4, .int mq4, .int rq4])), (lg, .inr (0, [.ref lc, .ref lt, .int (nI (k + 1))])), (lc, .inl (cI, 36, .inl (upd cs k v))), (lt, .inl (cI, 36, .inl (upd ts k (-1)))), (ob, .inl (cJ, 1, .inr (.inl ov)))] := hD.sub (ws' := [(h0, .inr (3, [.ref lg, .ref fs, .ref ps, .long fq4, .long gq4, .int mq4, .int rq4])), (lg, .inr (0, [.ref lc, .ref lt, .int (nI (k + 1))])), (lc, .inl (cI, 36, .inl (upd cs k v))), (lt, .inl (cI, 36, .inl (upd ts k (-1)))), (ob, .inl (cJ, 1, .inr (.inl ov)))]) [1, 2, 3, 4, 0] (by decide) rfl
    refine lv_i2l (v := (r4 : Int32).toInt64) hx hb dL_put_7 rfl ?_
    refine lv_topl (fun x7 ex7 => ?_)
    refine va_last hx hb hK hP hD hS 4 1 rfl rfl (vp_in_nI (n := 0) (N := 1) (by omega) (by decide)) dL_put_8 (fun H locs hP hD hS => ?_)
    have hu8 : (0 : Int32).toNatClampNeg = 0 := pk_cl 0
    rw [hu8] at hP hD
    have hP : va_P D vwCl [(h0, .inr (3, [.ref lg, .ref fs, .ref ps, .long fq4, .long gq4, .int mq4, .int rq4])), (lg, .inr (0, [.ref lc, .ref lt, .int (nI (k + 1))])), (lc, .inl (cI, 36, .inl (upd cs k v))), (lt, .inl (cI, 36, .inl (upd ts k (-1)))), (ob, .inl (cJ, 1, .inr (.inl (vp_updL ov 0 x7))))] H := hP
    have hD : va_D A [(h0, .inr (3, [.ref lg, .ref fs, .ref ps, .long fq4, .long gq4, .int mq4, .int rq4])), (lg, .inr (0, [.ref lc, .ref lt, .int (nI (k + 1))])), (lc, .inl (cI, 36, .inl (upd cs k v))), (lt, .inl (cI, 36, .inl (upd ts k (-1)))), (ob, .inl (cJ, 1, .inr (.inl (vp_updL ov 0 x7))))] := hD
    refine lv_goto (tgt := 18) hx hb dL_put_9 (by decide) ?_
    refine lv_iconst (v := 0) hx hb dL_put_18 (by decide) ?_
    obtain rfl := ex7.symm
    refine W.widen (k := 3) (n := 18) (Nat.le_of_ble_eq_true rfl) (Nat.le_of_ble_eq_true rfl) ?_
    refine W.iret (v := 0) hx hb hr (fun tt ht hW => ⟨⟨0, (fq4, gq4, mq4, rq4, r4), rfl, ?_, by rw [ht]; exact hP, va_K.moved hW.alike hK, hD⟩, hS.F ht⟩) hS.2.2 dL_put_19
    exact ⟨rfl, hw4⟩

set_option maxHeartbeats 400000 in
set_option maxRecDepth 100000 in
theorem c_L_put_bad1 (l : Launch) (hltr : l.stackTraces = false) (D : va_G) (cI cJ : ClassId) (sz : Nat) (h0 lg lc lt fs ps : Nat) (fa fb : Int64) (mt re : Int32) (cs ts : Nat → Int32) (k : Nat) (hk : k ≤ 36) (ob : Nat) (ov : Nat → Int64) (v : Int32) (hk2 : mt = 0 → re = 0 → ¬ (cempty fa fb &&& jshl 1 v) = 0 → k < 36) (hbad : ¬ icell v) : Met l yL_put wsL_put ({ frames := 8, cells := 3, slots := 18, locals := 133 } : Room) (va_Pc [.ref h0, .int v, .ref ob] (px_N (px_X (va_A [(h0, .inr (3, [.ref lg, .ref fs, .ref ps, .long fa, .long fb, .int mt, .int re])), (lg, .inr (0, [.ref lc, .ref lt, .int (nI k)])), (lc, .inl (cI, 36, .inl cs)), (lt, .inl (cI, 36, .inl ts)), (ob, .inl (cJ, 1, .inr (.inl ov)))] sz) (pv_C D cI cJ [(h0, .inr (3, [.ref lg, .ref fs, .ref ps, .long fa, .long fb, .int mt, .int re])), (lg, .inr (0, [.ref lc, .ref lt, .int (nI k)])), (lc, .inl (cI, 36, .inl cs)), (lt, .inl (cI, 36, .inl ts)), (ob, .inl (cJ, 1, .inr (.inl ov)))] sz)))) (va_Qi (fun (r : Int32) (u : Unit) => r = 1) (fun (u : Unit) => pv_B D cI cJ (va_A [(h0, .inr (3, [.ref lg, .ref fs, .ref ps, .long fa, .long fb, .int mt, .int re])), (lg, .inr (0, [.ref lc, .ref lt, .int (nI k)])), (lc, .inl (cI, 36, .inl cs)), (lt, .inl (cI, 36, .inl ts)), (ob, .inl (cJ, 1, .inr (.inl ov)))] sz) [(h0, .inr (3, [.ref lg, .ref fs, .ref ps, .long fa, .long fb, .int mt, .int re])), (lg, .inr (0, [.ref lc, .ref lt, .int (nI k)])), (lc, .inl (cI, 36, .inl cs)), (lt, .inl (cI, 36, .inl ts)), (ob, .inl (cJ, 1, .inr (.inl ov)))]) (va_A [(h0, .inr (3, [.ref lg, .ref fs, .ref ps, .long fa, .long fb, .int mt, .int re])), (lg, .inr (0, [.ref lc, .ref lt, .int (nI k)])), (lc, .inl (cI, 36, .inl cs)), (lt, .inl (cI, 36, .inl ts)), (ob, .inl (cJ, 1, .inr (.inl ov)))] sz)) 3 18 (va_A [(h0, .inr (3, [.ref lg, .ref fs, .ref ps, .long fa, .long fb, .int mt, .int re])), (lg, .inr (0, [.ref lc, .ref lt, .int (nI k)])), (lc, .inl (cI, 36, .inl cs)), (lt, .inl (cI, 36, .inl ts)), (ob, .inl (cJ, 1, .inr (.inl ov)))] sz) := by
  refine va_MetW (cc := cL_put) (maxL := 4) (ret := (some .int)) (hh := [(0, 9, 12, 13), (0, 9, 15, 15)]) (by decide) rfl ?_
  intro p e s m args below meth c s₁ B hml hv
  obtain ⟨rfl, hNC, hEN, hEX, hZ, rfl, hP, hK, hD0⟩ := hv
  have hx := B.exec
  have hb := B.bytes
  have hr := B.returns
  have hts := atoms_spec (ws := wsL_put) B.pre
  have hown : s.vm.findClass RL = some m.cls := findClass_of_methodNamed B.named
  have hlocks := B.notSynchronized
  have htb := vx_table (x := yL_put) B (hts _ (List.mem_of_getElem? (i := 0) rfl))
  have hD := hD0.self (sz := s.heap.size)
  generalize hAe : va_A [(h0, .inr (3, [.ref lg, .ref fs, .ref ps, .long fa, .long fb, .int mt, .int re])), (lg, .inr (0, [.ref lc, .ref lt, .int (nI k)])), (lc, .inl (cI, 36, .inl cs)), (lt, .inl (cI, 36, .inl ts)), (ob, .inl (cJ, 1, .inr (.inl ov)))] s.heap.size = A at hD hZ ⊢
  have hA : ∀ q : Nat, s.heap.size ≤ q → A q := fun q h => by rw [← hAe]; exact Or.inr h
  have hS : va_S A s.heap s.heap [] := va_S.rf
  have hl := lv_entry ([.ref h0, .int v, .ref ob]) (n := 4) (Nat.le_of_ble_eq_true rfl)
  rw [lg_entry_eq]
  generalize (lg_sl ([.ref h0, .int v, .ref ob]) ++ List.replicate (4 - (lg_sl ([.ref h0, .int v, .ref ob])).length) Slot.unset).toArray = ls at hl ⊢
  have hl : lv_has ls 4 [(0, .ref h0), (1, .int v), (2, .ref ob)] := hl
  refine lv_aload_n hx hb dL_put_0 rfl (lv_at hl 2 rfl) ?_
  refine lv_iconst (v := 0) hx hb dL_put_1 (by decide) ?_
  refine lv_aload_n hx hb dL_put_2 rfl (lv_at hl 0 rfl) ?_
  refine lv_iload_n hx hb dL_put_3 rfl (lv_at hl 1 rfl) ?_
  have hPc : va_P D vwCl [(h0, .inr (3, [.ref lg, .ref fs, .ref ps, .long fa, .long fb, .int mt, .int re])), (lg, .inr (0, [.ref lc, .ref lt, .int (nI k)])), (lc, .inl (cI, 36, .inl cs)), (lt, .inl (cI, 36, .inl ts))] s.heap := hP.sub (ws' := [(h0, .inr (3, [.ref lg, .ref fs, .ref ps, .long fa, .long fb, .int mt, .int re])), (lg, .inr (0, [.ref lc, .ref lt, .int (nI k)])), (lc, .inl (cI, 36, .inl cs)), (lt, .inl (cI, 36, .inl ts))]) [0, 1, 2, 3] rfl
  have hDc : va_D A [(h0, .inr (3, [.ref lg, .ref fs, .ref ps, .long fa, .long fb, .int mt, .int re])), (lg, .inr (0, [.ref lc, .ref lt, .int (nI k)])), (lc, .inl (cI, 36, .inl cs)), (lt, .inl (cI, 36, .inl ts))] := hD.sub (ws' := [(h0, .inr (3, [.ref lg, .ref fs, .ref ps, .long fa, .long fb, .int mt, .int re])), (lg, .inr (0, [.ref lc, .ref lt, .int (nI k)])), (lc, .inl (cI, 36, .inl cs)), (lt, .inl (cI, 36, .inl ts))]) [0, 1, 2, 3] (by decide) rfl
  have hFc := va_free (wc := [(h0, .inr (3, [.ref lg, .ref fs, .ref ps, .long fa, .long fb, .int mt, .int re])), (lg, .inr (0, [.ref lc, .ref lt, .int (nI k)])), (lc, .inl (cI, 36, .inl cs)), (lt, .inl (cI, 36, .inl ts))]) hD hS hA [0, 1, 2, 3] rfl
  refine vx_calli (vx_runV (As := [.int v]) (rest := [.int 0, .ref ob]) ⟨hx, hb, hml, hown, hts⟩ (c_X6_put l hltr D cI cJ s.heap.size  h0 lg lc lt fs ps fa fb mt re cs ts k (by omega) v hk2) (cwV 1 hts gL_put_X6_put rfl rfl rfl (by decide +kernel) ⟨Nat.le_of_ble_eq_true rfl, Nat.le_of_ble_eq_true rfl⟩) ⟨(px_blindX pv_blind), va_recv hK hPc (ci := 3) (q0 := 0) rfl rfl, fun U hU hW => ⟨rfl, hEX.warm hW, by rw [hU]; exact hZ.to hS hW.alike hFc, by rw [hU], by rw [hU]; exact hPc, va_K.moved hW.alike hK, hDc.weaken (fun _ _ _ _ => trivial)⟩⟩ rfl rfl hl.1 rfl (lv_room (Nat.le_of_ble_eq_true rfl)) dL_put_4 ⟨(Nat.le_of_ble_eq_true rfl), (Nat.le_of_ble_eq_true rfl)⟩) hS (fun q _ h => hFc q h) hFc (fun q _ h => hFc q h) (fun E ce q9 u9 t9 H1 locs hth hvm hpx hB9 hz1 hk1 hS hce hcv hcl => ?_) (fun r4 u t9 H1 locs hth hvm hw4 hB9 hz1 hk1 hS => ?_)
  · obtain ⟨hb9, hP1, hK1, hD1⟩ := hB9
    rw [hth] at hP1
    obtain ⟨hP, hD⟩ := va_join (wr := [(ob, .inl (cJ, 1, .inr (.inl ov)))]) (w1 := [(h0, .inr (3, [.ref lg, .ref fs, .ref ps, .long fa, .long fb, .int mt, .int re])), (lg, .inr (0, [.ref lc, .ref lt, .int (nI k)])), (lc, .inl (cI, 36, .inl cs)), (lt, .inl (cI, 36, .inl ts))]) hP hD [0, 1, 2, 3] [4] rfl rfl (by decide) (by decide) hk1 hFc hP1 hD1
    have hP : va_P D vwCl [(h0, .inr (3, [.ref lg, .ref fs, .ref ps, .long fa, .long fb, .int mt, .int re])), (lg, .inr (0, [.ref lc, .ref lt, .int (nI k)])), (lc, .inl (cI, 36, .inl cs)), (lt, .inl (cI, 36, .inl ts)), (ob, .inl (cJ, 1, .inr (.inl ov)))] H1 := hP.sub (ws' := [(h0, .inr (3, [.ref lg, .ref fs, .ref ps, .long fa, .long fb, .int mt, .int re])), (lg, .inr (0, [.ref lc, .ref lt, .int (nI k)])), (lc, .inl (cI, 36, .inl cs)), (lt, .inl (cI, 36, .inl ts)), (ob, .inl (cJ, 1, .inr (.inl ov)))]) [1, 2, 3, 4, 0] rfl
    have hD : va_D A [(h0, .inr (3, [.ref lg, .ref fs, .ref ps, .long fa, .long fb, .int mt, .int re])), (lg, .inr (0, [.ref lc, .ref lt, .int (nI k)])), (lc, .inl (cI, 36, .inl cs)), (lt, .inl (cI, 36, .inl ts)), (ob, .inl (cJ, 1, .inr (.inl ov)))] := hD.sub (ws' := [(h0, .inr (3, [.ref lg, .ref fs, .ref ps, .long fa, .long fb, .int mt, .int re])), (lg, .inr (0, [.ref lc, .ref lt, .int (nI k)])), (lc, .inl (cI, 36, .inl cs)), (lt, .inl (cI, 36, .inl ts)), (ob, .inl (cJ, 1, .inr (.inl ov)))]) [1, 2, 3, 4, 0] (by decide) rfl
    obtain rfl : E = nIOB := hb9.elim (fun h => h.1) (fun h => absurd h.2.1 hbad)
    refine vx_catch (own := RL) (name := nIOB) hown [] ⟨0, 9, 12, 13⟩ [⟨0, 9, 15, 15⟩] (htb.trans rfl) (fun z hz => nomatch hz) (by decide) (by decide) (hts (.classLink RL 13 nIOB) (by decide +kernel)) (va_Nw.use rfl hEX.2.1) hce hcv hcl ?_
    refine lv_astore_n (lv' := [(3, .ref q9), (0, .ref h0), (1, .int v), (2, .ref ob)]) hx hb dL_put_12 rfl hl (by decide) rfl (fun ls hl => ?_)
    refine lv_iconst (v := 1) hx hb dL_put_13 (by decide) ?_
    refine W.widen (k := 3) (n := 18) (Nat.le_of_ble_eq_true rfl) (Nat.le_of_ble_eq_true rfl) ?_
    refine W.iret (v := 1) hx hb hr (fun tt ht hW => ⟨⟨1, (), rfl, ?_, by rw [ht]; exact hP, va_K.moved hW.alike hK, hD⟩, hS.F ht⟩) hS.2.2 dL_put_14
    exact rfl
  · try dsimp only at hw4
    exact absurd hw4.1 hbad

set_option maxHeartbeats 400000 in
set_option maxRecDepth 100000 in
theorem c_L_put_bad2 (l : Launch) (hltr : l.stackTraces = false) (D : va_G) (cI cJ : ClassId) (sz : Nat) (h0 lg lc lt fs ps : Nat) (fa fb : Int64) (mt re : Int32) (cs ts : Nat → Int32) (k : Nat) (hk : k ≤ 36) (ob : Nat) (ov : Nat → Int64) (v : Int32) (hk2 : mt = 0 → re = 0 → ¬ (cempty fa fb &&& jshl 1 v) = 0 → k < 36) (hc : icell v) (hbad : ¬ (re = 0 ∧ mt = 0 ∧ ¬ (cempty fa fb &&& jshl 1 v) = 0)) : Met l yL_put wsL_put ({ frames := 8, cells := 3, slots := 18, locals := 133 } : Room) (va_Pc [.ref h0, .int v, .ref ob] (px_N (px_X (va_A [(h0, .inr (3, [.ref lg, .ref fs, .ref ps, .long fa, .long fb, .int mt, .int re])), (lg, .inr (0, [.ref lc, .ref lt, .int (nI k)])), (lc, .inl (cI, 36, .inl cs)), (lt, .inl (cI, 36, .inl ts)), (ob, .inl (cJ, 1, .inr (.inl ov)))] sz) (pv_C D cI cJ [(h0, .inr (3, [.ref lg, .ref fs, .ref ps, .long fa, .long fb, .int mt, .int re])), (lg, .inr (0, [.ref lc, .ref lt, .int (nI k)])), (lc, .inl (cI, 36, .inl cs)), (lt, .inl (cI, 36, .inl ts)), (ob, .inl (cJ, 1, .inr (.inl ov)))] sz)))) (va_Qi (fun (r : Int32) (u : Unit) => r = 2) (fun (u : Unit) => pv_B D cI cJ (va_A [(h0, .inr (3, [.ref lg, .ref fs, .ref ps, .long fa, .long fb, .int mt, .int re])), (lg, .inr (0, [.ref lc, .ref lt, .int (nI k)])), (lc, .inl (cI, 36, .inl cs)), (lt, .inl (cI, 36, .inl ts)), (ob, .inl (cJ, 1, .inr (.inl ov)))] sz) [(h0, .inr (3, [.ref lg, .ref fs, .ref ps, .long fa, .long fb, .int mt, .int re])), (lg, .inr (0, [.ref lc, .ref lt, .int (nI k)])), (lc, .inl (cI, 36, .inl cs)), (lt, .inl (cI, 36, .inl ts)), (ob, .inl (cJ, 1, .inr (.inl ov)))]) (va_A [(h0, .inr (3, [.ref lg, .ref fs, .ref ps, .long fa, .long fb, .int mt, .int re])), (lg, .inr (0, [.ref lc, .ref lt, .int (nI k)])), (lc, .inl (cI, 36, .inl cs)), (lt, .inl (cI, 36, .inl ts)), (ob, .inl (cJ, 1, .inr (.inl ov)))] sz)) 3 18 (va_A [(h0, .inr (3, [.ref lg, .ref fs, .ref ps, .long fa, .long fb, .int mt, .int re])), (lg, .inr (0, [.ref lc, .ref lt, .int (nI k)])), (lc, .inl (cI, 36, .inl cs)), (lt, .inl (cI, 36, .inl ts)), (ob, .inl (cJ, 1, .inr (.inl ov)))] sz) := by
  refine va_MetW (cc := cL_put) (maxL := 4) (ret := (some .int)) (hh := [(0, 9, 12, 13), (0, 9, 15, 15)]) (by decide) rfl ?_
  intro p e s m args below meth c s₁ B hml hv
  obtain ⟨rfl, hNC, hEN, hEX, hZ, rfl, hP, hK, hD0⟩ := hv
  have hx := B.exec
  have hb := B.bytes
  have hr := B.returns
  have hts := atoms_spec (ws := wsL_put) B.pre
  have hown : s.vm.findClass RL = some m.cls := findClass_of_methodNamed B.named
  have hlocks := B.notSynchronized
  have htb := vx_table (x := yL_put) B (hts _ (List.mem_of_getElem? (i := 0) rfl))
  have hD := hD0.self (sz := s.heap.size)
  generalize hAe : va_A [(h0, .inr (3, [.ref lg, .ref fs, .ref ps, .long fa, .long fb, .int mt, .int re])), (lg, .inr (0, [.ref lc, .ref lt, .int (nI k)])), (lc, .inl (cI, 36, .inl cs)), (lt, .inl (cI, 36, .inl ts)), (ob, .inl (cJ, 1, .inr (.inl ov)))] s.heap.size = A at hD hZ ⊢
  have hA : ∀ q : Nat, s.heap.size ≤ q → A q := fun q h => by rw [← hAe]; exact Or.inr h
  have hS : va_S A s.heap s.heap [] := va_S.rf
  have hl := lv_entry ([.ref h0, .int v, .ref ob]) (n := 4) (Nat.le_of_ble_eq_true rfl)
  rw [lg_entry_eq]
  generalize (lg_sl ([.ref h0, .int v, .ref ob]) ++ List.replicate (4 - (lg_sl ([.ref h0, .int v, .ref ob])).length) Slot.unset).toArray = ls at hl ⊢
  have hl : lv_has ls 4 [(0, .ref h0), (1, .int v), (2, .ref ob)] := hl
  refine lv_aload_n hx hb dL_put_0 rfl (lv_at hl 2 rfl) ?_
  refine lv_iconst (v := 0) hx hb dL_put_1 (by decide) ?_
  refine lv_aload_n hx hb dL_put_2 rfl (lv_at hl 0 rfl) ?_
  refine lv_iload_n hx hb dL_put_3 rfl (lv_at hl 1 rfl) ?_
  have hPc : va_P D vwCl [(h0, .inr (3, [.ref lg, .ref fs, .ref ps, .long fa, .long fb, .int mt, .int re])), (lg, .inr (0, [.ref lc, .ref lt, .int (nI k)])), (lc, .inl (cI, 36, .inl cs)), (lt, .inl (cI, 36, .inl ts))] s.heap := hP.sub (ws' := [(h0, .inr (3, [.ref lg, .ref fs, .ref ps, .long fa, .long fb, .int mt, .int re])), (lg, .inr (0, [.ref lc, .ref lt, .int (nI k)])), (lc, .inl (cI, 36, .inl cs)), (lt, .inl (cI, 36, .inl ts))]) [0, 1, 2, 3] rfl
  have hDc : va_D A [(h0, .inr (3, [.ref lg, .ref fs, .ref ps, .long fa, .long fb, .int mt, .int re])), (lg, .inr (0, [.ref lc, .ref lt, .int (nI k)])), (lc, .inl (cI, 36, .inl cs)), (lt, .inl (cI, 36, .inl ts))] := hD.sub (ws' := [(h0, .inr (3, [.ref lg, .ref fs, .ref ps, .long fa, .long fb, .int mt, .int re])), (lg, .inr (0, [.ref lc, .ref lt, .int (nI k)])), (lc, .inl (cI, 36, .inl cs)), (lt, .inl (cI, 36, .inl ts))]) [0, 1, 2, 3] (by decide) rfl
  have hFc := va_free (wc := [(h0, .inr (3, [.ref lg, .ref fs, .ref ps, .long fa, .long fb, .int mt, .int re])), (lg, .inr (0, [.ref lc, .ref lt, .int (nI k)])), (lc, .inl (cI, 36, .inl cs)), (lt, .inl (cI, 36, .inl ts))]) hD hS hA [0, 1, 2, 3] rfl
  refine vx_calli (vx_runV (As := [.int v]) (rest := [.int 0, .ref ob]) ⟨hx, hb, hml, hown, hts⟩ (c_X6_put l hltr D cI cJ s.heap.size  h0 lg lc lt fs ps fa fb mt re cs ts k (by omega) v hk2) (cwV 1 hts gL_put_X6_put rfl rfl rfl (by decide +kernel) ⟨Nat.le_of_ble_eq_true rfl, Nat.le_of_ble_eq_true rfl⟩) ⟨(px_blindX pv_blind), va_recv hK hPc (ci := 3) (q0 := 0) rfl rfl, fun U hU hW => ⟨rfl, hEX.warm hW, by rw [hU]; exact hZ.to hS hW.alike hFc, by rw [hU], by rw [hU]; exact hPc, va_K.moved hW.alike hK, hDc.weaken (fun _ _ _ _ => trivial)⟩⟩ rfl rfl hl.1 rfl (lv_room (Nat.le_of_ble_eq_true rfl)) dL_put_4 ⟨(Nat.le_of_ble_eq_true rfl), (Nat.le_of_ble_eq_true rfl)⟩) hS (fun q _ h => hFc q h) hFc (fun q _ h => hFc q h) (fun E ce q9 u9 t9 H1 locs hth hvm hpx hB9 hz1 hk1 hS hce hcv hcl => ?_) (fun r4 u t9 H1 locs hth hvm hw4 hB9 hz1 hk1 hS => ?_)
  · obtain ⟨hb9, hP1, hK1, hD1⟩ := hB9
    rw [hth] at hP1
    obtain ⟨hP, hD⟩ := va_join (wr := [(ob, .inl (cJ, 1, .inr (.inl ov)))]) (w1 := [(h0, .inr (3, [.ref lg, .ref fs, .ref ps, .long fa, .long fb, .int mt, .int re])), (lg, .inr (0, [.ref lc, .ref lt, .int (nI k)])), (lc, .inl (cI, 36, .inl cs)), (lt, .inl (cI, 36, .inl ts))]) hP hD [0, 1, 2, 3] [4] rfl rfl (by decide) (by decide) hk1 hFc hP1 hD1
    have hP : va_P D vwCl [(h0, .inr (3, [.ref lg, .ref fs, .ref ps, .long fa, .long fb, .int mt, .int re])), (lg, .inr (0, [.ref lc, .ref lt, .int (nI k)])), (lc, .inl (cI, 36, .inl cs)), (lt, .inl (cI, 36, .inl ts)), (ob, .inl (cJ, 1, .inr (.inl ov)))] H1 := hP.sub (ws' := [(h0, .inr (3, [.ref lg, .ref fs, .ref ps, .long fa, .long fb, .int mt, .int re])), (lg, .inr (0, [.ref lc, .ref lt, .int (nI k)])), (lc, .inl (cI, 36, .inl cs)), (lt, .inl (cI, 36, .inl ts)), (ob, .inl (cJ, 1, .inr (.inl ov)))]) [1, 2, 3, 4, 0] rfl
    have hD : va_D A [(h0, .inr (3, [.ref lg, .ref fs, .ref ps, .long fa, .long fb, .int mt, .int re])), (lg, .inr (0, [.ref lc, .ref lt, .int (nI k)])), (lc, .inl (cI, 36, .inl cs)), (lt, .inl (cI, 36, .inl ts)), (ob, .inl (cJ, 1, .inr (.inl ov)))] := hD.sub (ws' := [(h0, .inr (3, [.ref lg, .ref fs, .ref ps, .long fa, .long fb, .int mt, .int re])), (lg, .inr (0, [.ref lc, .ref lt, .int (nI k)])), (lc, .inl (cI, 36, .inl cs)), (lt, .inl (cI, 36, .inl ts)), (ob, .inl (cJ, 1, .inr (.inl ov)))]) [1, 2, 3, 4, 0] (by decide) rfl
    obtain rfl : E = nISE := hb9.elim (fun h => absurd hc h.2) (fun h => h.1)
    refine vx_catch (own := RL) (name := nISE) hown [⟨0, 9, 12, 13⟩] ⟨0, 9, 15, 15⟩ [] (htb.trans rfl) (fun z hz => by { obtain rfl := List.mem_singleton.mp hz; exact Or.inr ⟨by decide, nIOB, hts (.classLink RL 13 nIOB) (by decide +kernel), hNC.1⟩ }) (by decide) (by decide) (hts (.classLink RL 15 nISE) (by decide +kernel)) (va_Nw.use rfl hEX.2.2.1) hce hcv hcl ?_
    refine lv_astore_n (lv' := [(3, .ref q9), (0, .ref h0), (1, .int v), (2, .ref ob)]) hx hb dL_put_15 rfl hl (by decide) rfl (fun ls hl => ?_)
    refine lv_iconst (v := 2) hx hb dL_put_16 (by decide) ?_
    refine W.widen (k := 3) (n := 18) (Nat.le_of_ble_eq_true rfl) (Nat.le_of_ble_eq_true rfl) ?_
    refine W.iret (v := 2) hx hb hr (fun tt ht hW => ⟨⟨2, (), rfl, ?_, by rw [ht]; exact hP, va_K.moved hW.alike hK, hD⟩, hS.F ht⟩) hS.2.2 dL_put_17
    exact rfl
  · try dsimp only at hw4
    exact absurd ⟨hw4.2.1, hw4.2.2.1, hw4.2.2.2.1⟩ hbad

set_option maxHeartbeats 400000 in
set_option maxRecDepth 100000 in
theorem c_L_turn_ok (l : Launch) (hltr : l.stackTraces = false) (D : va_G) (cI cJ : ClassId) (sz : Nat) (h0 lg lc lt fs ps : Nat) (fa fb : Int64) (mt re : Int32) (cs ts : Nat → Int32) (k : Nat) (hk : k ≤ 36) (ob : Nat) (ov : Nat → Int64) (q y : Int32) (hm : mt = 0 ∨ 0 < k) (hok : iq q ∧ iw y ∧ (re = 0 ∧ ¬ mt = 0)) : Met l yL_turn wsL_turn ({ frames := 8, cells := 3, slots := 18, locals := 133 } : Room) (va_Pc [.ref h0, .int q, .int y, .ref ob] (px_N (px_X (va_A [(h0, .inr (3, [.ref lg, .ref fs, .ref ps, .long fa, .long fb, .int mt, .int re])), (lg, .inr (0, [.ref lc, .ref lt, .int (nI k)])), (lc, .inl (cI, 36, .inl cs)), (lt, .inl (cI, 36, .inl ts)), (ob, .inl (cJ, 1, .inr (.inl ov)))] sz) (pv_C D cI cJ [(h0, .inr (3, [.ref lg, .ref fs, .ref ps, .long fa, .long fb, .int mt, .int re])), (lg, .inr (0, [.ref lc, .ref lt, .int (nI k)])), (lc, .inl (cI, 36, .inl cs)), (lt, .inl (cI, 36, .inl ts)), (ob, .inl (cJ, 1, .inr (.inl ov)))] sz)))) (va_Qi (fun (r : Int32) (u : (Nat) × (Int32)) => r = 0 ∧ (∃ q9 y9, q9 < 4 ∧ y9 < 2 ∧ q = nI q9 ∧ y = nI y9 ∧ u.1 = 2 * q9 + y9 ∧ re = 0 ∧ (¬ mt = 0) ∧ (u.2) = cjudge (cturned fa u.1) (cturned fb u.1))) (fun (u : (Nat) × (Int32)) => pv_B D cI cJ (va_A [(h0, .inr (3, [.ref lg, .ref fs, .ref ps, .long fa, .long fb, .int mt, .int re])), (lg, .inr (0, [.ref lc, .ref lt, .int (nI k)])), (lc, .inl (cI, 36, .inl cs)), (lt, .inl (cI, 36, .inl ts)), (ob, .inl (cJ, 1, .inr (.inl ov)))] sz) [(h0, .inr (3, [.ref lg, .ref fs, .ref ps, .long (cturned fa u.1), .long (cturned fb u.1), .int 0, .int (cjudge (cturned fa u.1) (cturned fb u.1))])), (lg, .inr (0, [.ref lc, .ref lt, .int (nI k)])), (lc, .inl (cI, 36, .inl cs)), (lt, .inl (cI, 36, .inl (upd ts (k - 1) (nI u.1)))), (ob, .inl (cJ, 1, .inr (.inl (vp_updL ov 0 (u.2).toInt64))))]) (va_A [(h0, .inr (3, [.ref lg, .ref fs, .ref ps, .long fa, .long fb, .int mt, .int re])), (lg, .inr (0, [.ref lc, .ref lt, .int (nI k)])), (lc, .inl (cI, 36, .inl cs)), (lt, .inl (cI, 36, .inl ts)), (ob, .inl (cJ, 1, .inr (.inl ov)))] sz)) 3 18 (va_A [(h0, .inr (3, [.ref lg, .ref fs, .ref ps, .long fa, .long fb, .int mt, .int re])), (lg, .inr (0, [.ref lc, .ref lt, .int (nI k)])), (lc, .inl (cI, 36, .inl cs)), (lt, .inl (cI, 36, .inl ts)), (ob, .inl (cJ, 1, .inr (.inl ov)))] sz) := by
  refine va_MetW (cc := cL_turn) (maxL := 5) (ret := (some .int)) (hh := [(0, 10, 13, 13), (0, 10, 17, 21), (0, 10, 21, 15)]) (by decide) rfl ?_
  intro p e s m args below meth c s₁ B hml hv
  obtain ⟨rfl, hNC, hEN, hEX, hZ, rfl, hP, hK, hD0⟩ := hv
  have hx := B.exec
  have hb := B.bytes
  have hr := B.returns
  have hts := atoms_spec (ws := wsL_turn) B.pre
  have hown : s.vm.findClass RL = some m.cls := findClass_of_methodNamed B.named
  have hlocks := B.notSynchronized
  have htb := vx_table (x := yL_turn) B (hts _ (List.mem_of_getElem? (i := 0) rfl))
  have hD := hD0.self (sz := s.heap.size)
  generalize hAe : va_A [(h0, .inr (3, [.ref lg, .ref fs, .ref ps, .long fa, .long fb, .int mt, .int re])), (lg, .inr (0, [.ref lc, .ref lt, .int (nI k)])), (lc, .inl (cI, 36, .inl cs)), (lt, .inl (cI, 36, .inl ts)), (ob, .inl (cJ, 1, .inr (.inl ov)))] s.heap.size = A at hD hZ ⊢
  have hA : ∀ q : Nat, s.heap.size ≤ q → A q := fun q h => by rw [← hAe]; exact Or.inr h
  have hS : va_S A s.heap s.heap [] := va_S.rf
  have hl := lv_entry ([.ref h0, .int q, .int y, .ref ob]) (n := 5) (Nat.le_of_ble_eq_true rfl)
  rw [lg_entry_eq]
  generalize (lg_sl ([.ref h0, .int q, .int y, .ref ob]) ++ List.replicate (5 - (lg_sl ([.ref h0, .int q, .int y, .ref ob])).length) Slot.unset).toArray = ls at hl ⊢
  have hl : lv_has ls 5 [(0, .ref h0), (1, .int q), (2, .int y), (3, .ref ob)] := hl
  refine lv_aload_n hx hb dL_turn_0 rfl (lv_at hl 3 rfl) ?_
  refine lv_iconst (v := 0) hx hb dL_turn_1 (by decide) ?_
  refine lv_aload_n hx hb dL_turn_2 rfl (lv_at hl 0 rfl) ?_
  refine lv_iload_n hx hb dL_turn_3 rfl (lv_at hl 1 rfl) ?_
  refine lv_iload_n hx hb dL_turn_4 rfl (lv_at hl 2 rfl) ?_
  have hPc : va_P D vwCl [(h0, .inr (3, [.ref lg, .ref fs, .ref ps, .long fa, .long fb, .int mt, .int re])), (lg, .inr (0, [.ref lc, .ref lt, .int (nI k)])), (lc, .inl (cI, 36, .inl cs)), (lt, .inl (cI, 36, .inl ts))] s.heap := hP.sub (ws' := [(h0, .inr (3, [.ref lg, .ref fs, .ref ps, .long fa, .long fb, .int mt, .int re])), (lg, .inr (0, [.ref lc, .ref lt, .int (nI k)])), (lc, .inl (cI, 36, .inl cs)), (lt, .inl (cI, 36, .inl ts))]) [0, 1, 2, 3] rfl
  have hDc : va_D A [(h0, .inr (3, [.ref lg, .ref fs, .ref ps, .long fa, .long fb, .int mt, .int re])), (lg, .inr (0, [.ref lc, .ref lt, .int (nI k)])), (lc, .inl (cI, 36, .inl cs)), (lt, .inl (cI, 36, .inl ts))] := hD.sub (ws' := [(h0, .inr (3, [.ref lg, .ref fs, .ref ps, .long fa, .long fb, .int mt, .int re])), (lg, .inr (0, [.ref lc, .ref lt, .int (nI k)])), (lc, .inl (cI, 36, .inl cs)), (lt, .inl (cI, 36, .inl ts))]) [0, 1, 2, 3] (by decide) rfl
  have hFc := va_free (wc := [(h0, .inr (3, [.ref lg, .ref fs, .ref ps, .long fa, .long fb, .int mt, .int re])), (lg, .inr (0, [.ref lc, .ref lt, .int (nI k)])), (lc, .inl (cI, 36, .inl cs)), (lt, .inl (cI, 36, .inl ts))]) hD hS hA [0, 1, 2, 3] rfl
  refine vx_calli (vx_runV (As := [.int q, .int y]) (rest := [.int 0, .ref ob]) ⟨hx, hb, hml, hown, hts⟩ (c_X6_turn l hltr D cI cJ s.heap.size  h0 lg lc lt fs ps fa fb mt re cs ts k (by omega) q y hm) (cwV 2 hts gL_turn_X6_turn rfl rfl rfl (by decide +kernel) ⟨Nat.le_of_ble_eq_true rfl, Nat.le_of_ble_eq_true rfl⟩) ⟨(px_blindX pv_blind), va_recv hK hPc (ci := 3) (q0 := 0) rfl rfl, fun U hU hW => ⟨rfl, hEX.warm hW, by rw [hU]; exact hZ.to hS hW.alike hFc, by rw [hU], by rw [hU]; exact hPc, va_K.moved hW.alike hK, hDc.weaken (fun _ _ _ _ => trivial)⟩⟩ rfl rfl hl.1 rfl (lv_room (Nat.le_of_ble_eq_true rfl)) dL_turn_5 ⟨(Nat.le_of_ble_eq_true rfl), (Nat.le_of_ble_eq_true rfl)⟩) hS (fun q _ h => hFc q h) hFc (fun q _ h => hFc q h) (fun E ce q9 u9 t9 H1 locs hth hvm hpx hB9 hz1 hk1 hS hce hcv hcl => ?_) (fun r5 u t9 H1 locs hth hvm hw5 hB9 hz1 hk1 hS => ?_)
  · obtain ⟨hb9, hP1, hK1, hD1⟩ := hB9
    rw [hth] at hP1
    obtain ⟨hP, hD⟩ := va_join (wr := [(ob, .inl (cJ, 1, .inr (.inl ov)))]) (w1 := [(h0, .inr (3, [.ref lg, .ref fs, .ref ps, .long fa, .long fb, .int mt, .int re])), (lg, .inr (0, [.ref lc, .ref lt, .int (nI k)])), (lc, .inl (cI, 36, .inl cs)), (lt, .inl (cI, 36, .inl ts))]) hP hD [0, 1, 2, 3] [4] rfl rfl (by decide) (by decide) hk1 hFc hP1 hD1
    have hP : va_P D vwCl [(h0, .inr (3, [.ref lg, .ref fs, .ref ps, .long fa, .long fb, .int mt, .int re])), (lg, .inr (0, [.ref lc, .ref lt, .int (nI k)])), (lc, .inl (cI, 36, .inl cs)), (lt, .inl (cI, 36, .inl ts)), (ob, .inl (cJ, 1, .inr (.inl ov)))] H1 := hP.sub (ws' := [(h0, .inr (3, [.ref lg, .ref fs, .ref ps, .long fa, .long fb, .int mt, .int re])), (lg, .inr (0, [.ref lc, .ref lt, .int (nI k)])), (lc, .inl (cI, 36, .inl cs)), (lt, .inl (cI, 36, .inl ts)), (ob, .inl (cJ, 1, .inr (.inl ov)))]) [1, 2, 3, 4, 0] rfl
    have hD : va_D A [(h0, .inr (3, [.ref lg, .ref fs, .ref ps, .long fa, .long fb, .int mt, .int re])), (lg, .inr (0, [.ref lc, .ref lt, .int (nI k)])), (lc, .inl (cI, 36, .inl cs)), (lt, .inl (cI, 36, .inl ts)), (ob, .inl (cJ, 1, .inr (.inl ov)))] := hD.sub (ws' := [(h0, .inr (3, [.ref lg, .ref fs, .ref ps, .long fa, .long fb, .int mt, .int re])), (lg, .inr (0, [.ref lc, .ref lt, .int (nI k)])), (lc, .inl (cI, 36, .inl cs)), (lt, .inl (cI, 36, .inl ts)), (ob, .inl (cJ, 1, .inr (.inl ov)))]) [1, 2, 3, 4, 0] (by decide) rfl
    rcases hb9 with h | h | h; { exact absurd hok.1 h.2 }; { exact absurd hok.2.1 h.2.2 }; exact absurd hok.2.2 h.2.2.2
  · try dsimp only at hw5
    obtain ⟨tq5, rfl⟩ : ∃ z, z = u := ⟨_, rfl⟩
    obtain ⟨hP1, hK1, hD1⟩ := hB9
    rw [hth] at hP1
    obtain ⟨hP, hD⟩ := va_join (wr := [(ob, .inl (cJ, 1, .inr (.inl ov)))]) (w1 := [(h0, .inr (3, [.ref lg, .ref fs, .ref ps, .long (cturned fa tq5), .long (cturned fb tq5), .int 0, .int (cjudge (cturned fa tq5) (cturned fb tq5))])), (lg, .inr (0, [.ref lc, .ref lt, .int (nI k)])), (lc, .inl (cI, 36, .inl cs)), (lt, .inl (cI, 36, .inl (upd ts (k - 1) (nI tq5))))]) hP hD [0, 1, 2, 3] [4] rfl rfl (by decide) (by decide) hk1 hFc hP1 hD1
    generalize H1 = H at hP hS ⊢
    have hP : va_P D vwCl [(h0, .inr (3, [.ref lg, .ref fs, .ref ps, .long (cturned fa tq5), .long (cturned fb tq5), .int 0, .int (cjudge (cturned fa tq5) (cturned fb tq5))])), (lg, .inr (0, [.ref lc, .ref lt, .int (nI k)])), (lc, .inl (cI, 36, .inl cs)), (lt, .inl (cI, 36, .inl (upd ts (k - 1) (nI tq5)))), (ob, .inl (cJ, 1, .inr (.inl ov)))] H := hP.sub (ws' := [(h0, .inr (3, [.ref lg, .ref fs, .ref ps, .long (cturned fa tq5), .long (cturned fb tq5), .int 0, .int (cjudge (cturned fa tq5) (cturned fb tq5))])), (lg, .inr (0, [.ref lc, .ref lt, .int (nI k)])), (lc, .inl (cI, 36, .inl cs)), (lt, .inl (cI, 36, .inl (upd ts (k - 1) (nI tq5)))), (ob, .inl (cJ, 1, .inr (.inl ov)))]) [1, 2, 3, 4, 0] rfl
    have hD : va_D A [(h0, .inr (3, [.ref lg, .ref fs, .ref ps, .long (cturned fa tq5), .long (cturned fb tq5), .int 0, .int (cjudge (cturned fa tq5) (cturned fb tq5))])), (lg, .inr (0, [.ref lc, .ref lt, .int (nI k)])), (lc, .inl (cI, 36, .inl cs)), (lt, .inl (cI, 36, .inl (upd ts (k - 1) (nI tq5)))), (ob, .inl (cJ, 1, .inr (.inl ov)))] := hD.sub (ws' := [(h0, .inr (3, [.ref lg, .ref fs, .ref ps, .long (cturned fa tq5), .long (cturned fb tq5), .int 0, .int (cjudge (cturned fa tq5) (cturned fb tq5))])), (lg, .inr (0, [.ref lc, .ref lt, .int (nI k)])), (lc, .inl (cI, 36, .inl cs)), (lt, .inl (cI, 36, .inl (upd ts (k - 1) (nI tq5)))), (ob, .inl (cJ, 1, .inr (.inl ov)))]) [1, 2, 3, 4, 0] (by decide) rfl
    refine lv_i2l (v := (r5 : Int32).toInt64) hx hb dL_turn_8 rfl ?_
    refine lv_topl (fun x8 ex8 => ?_)
    refine va_last hx hb hK hP hD hS 4 1 rfl rfl (vp_in_nI (n := 0) (N := 1) (by omega) (by decide)) dL_turn_9 (fun H locs hP hD hS => ?_)
    have hu9 : (0 : Int32).toNatClampNeg = 0 := pk_cl 0
    rw [hu9] at hP hD
    have hP : va_P D vwCl [(h0, .inr (3, [.ref lg, .ref fs, .ref ps, .long (cturned fa tq5), .long (cturned fb tq5), .int 0, .int (cjudge (cturned fa tq5) (cturned fb tq5))])), (lg, .inr (0, [.ref lc, .ref lt, .int (nI k)])), (lc, .inl (cI, 36, .inl cs)), (lt, .inl (cI, 36, .inl (upd ts (k - 1) (nI tq5)))), (ob, .inl (cJ, 1, .inr (.inl (vp_updL ov 0 x8))))] H := hP
    have hD : va_D A [(h0, .inr (3, [.ref lg, .ref fs, .ref ps, .long (cturned fa tq5), .long (cturned fb tq5), .int 0, .int (cjudge (cturned fa tq5) (cturned fb tq5))])), (lg, .inr (0, [.ref lc, .ref lt, .int (nI k)])), (lc, .inl (cI, 36, .inl cs)), (lt, .inl (cI, 36, .inl (upd ts (k - 1) (nI tq5)))), (ob, .inl (cJ, 1, .inr (.inl (vp_updL ov 0 x8))))] := hD
    refine lv_goto (tgt := 25) hx hb dL_turn_10 (by decide) ?_
    refine lv_iconst (v := 0) hx hb dL_turn_25 (by decide) ?_
    obtain rfl := ex8.symm
    refine W.widen (k := 3) (n := 18) (Nat.le_of_ble_eq_true rfl) (Nat.le_of_ble_eq_true rfl) ?_
    refine W.iret (v := 0) hx hb hr (fun tt ht hW => ⟨⟨0, (tq5, r5), rfl, ?_, by rw [ht]; exact hP, va_K.moved hW.alike hK, hD⟩, hS.F ht⟩) hS.2.2 dL_turn_26
    exact ⟨rfl, hw5⟩

set_option maxHeartbeats 400000 in
set_option maxRecDepth 100000 in
theorem c_L_turn_bad1 (l : Launch) (hltr : l.stackTraces = false) (D : va_G) (cI cJ : ClassId) (sz : Nat) (h0 lg lc lt fs ps : Nat) (fa fb : Int64) (mt re : Int32) (cs ts : Nat → Int32) (k : Nat) (hk : k ≤ 36) (ob : Nat) (ov : Nat → Int64) (q y : Int32) (hm : mt = 0 ∨ 0 < k) (hbad : ¬ iq q) : Met l yL_turn wsL_turn ({ frames := 8, cells := 3, slots := 18, locals := 133 } : Room) (va_Pc [.ref h0, .int q, .int y, .ref ob] (px_N (px_X (va_A [(h0, .inr (3, [.ref lg, .ref fs, .ref ps, .long fa, .long fb, .int mt, .int re])), (lg, .inr (0, [.ref lc, .ref lt, .int (nI k)])), (lc, .inl (cI, 36, .inl cs)), (lt, .inl (cI, 36, .inl ts)), (ob, .inl (cJ, 1, .inr (.inl ov)))] sz) (pv_C D cI cJ [(h0, .inr (3, [.ref lg, .ref fs, .ref ps, .long fa, .long fb, .int mt, .int re])), (lg, .inr (0, [.ref lc, .ref lt, .int (nI k)])), (lc, .inl (cI, 36, .inl cs)), (lt, .inl (cI, 36, .inl ts)), (ob, .inl (cJ, 1, .inr (.inl ov)))] sz)))) (va_Qi (fun (r : Int32) (u : Unit) => r = 1) (fun (u : Unit) => pv_B D cI cJ (va_A [(h0, .inr (3, [.ref lg, .ref fs, .ref ps, .long fa, .long fb, .int mt, .int re])), (lg, .inr (0, [.ref lc, .ref lt, .int (nI k)])), (lc, .inl (cI, 36, .inl cs)), (lt, .inl (cI, 36, .inl ts)), (ob, .inl (cJ, 1, .inr (.inl ov)))] sz) [(h0, .inr (3, [.ref lg, .ref fs, .ref ps, .long fa, .long fb, .int mt, .int re])), (lg, .inr (0, [.ref lc, .ref lt, .int (nI k)])), (lc, .inl (cI, 36, .inl cs)), (lt, .inl (cI, 36, .inl ts)), (ob, .inl (cJ, 1, .inr (.inl ov)))]) (va_A [(h0, .inr (3, [.ref lg, .ref fs, .ref ps, .long fa, .long fb, .int mt, .int re])), (lg, .inr (0, [.ref lc, .ref lt, .int (nI k)])), (lc, .inl (cI, 36, .inl cs)), (lt, .inl (cI, 36, .inl ts)), (ob, .inl (cJ, 1, .inr (.inl ov)))] sz)) 3 18 (va_A [(h0, .inr (3, [.ref lg, .ref fs, .ref ps, .long fa, .long fb, .int mt, .int re])), (lg, .inr (0, [.ref lc, .ref lt, .int (nI k)])), (lc, .inl (cI, 36, .inl cs)), (lt, .inl (cI, 36, .inl ts)), (ob, .inl (cJ, 1, .inr (.inl ov)))] sz) := by
  refine va_MetW (cc := cL_turn) (maxL := 5) (ret := (some .int)) (hh := [(0, 10, 13, 13), (0, 10, 17, 21), (0, 10, 21, 15)]) (by decide) rfl ?_
  intro p e s m args below meth c s₁ B hml hv
  obtain ⟨rfl, hNC, hEN, hEX, hZ, rfl, hP, hK, hD0⟩ := hv
  have hx := B.exec
  have hb := B.bytes
  have hr := B.returns
  have hts := atoms_spec (ws := wsL_turn) B.pre
  have hown : s.vm.findClass RL = some m.cls := findClass_of_methodNamed B.named
  have hlocks := B.notSynchronized
  have htb := vx_table (x := yL_turn) B (hts _ (List.mem_of_getElem? (i := 0) rfl))
  have hD := hD0.self (sz := s.heap.size)
  generalize hAe : va_A [(h0, .inr (3, [.ref lg, .ref fs, .ref ps, .long fa, .long fb, .int mt, .int re])), (lg, .inr (0, [.ref lc, .ref lt, .int (nI k)])), (lc, .inl (cI, 36, .inl cs)), (lt, .inl (cI, 36, .inl ts)), (ob, .inl (cJ, 1, .inr (.inl ov)))] s.heap.size = A at hD hZ ⊢
  have hA : ∀ q : Nat, s.heap.size ≤ q → A q := fun q h => by rw [← hAe]; exact Or.inr h
  have hS : va_S A s.heap s.heap [] := va_S.rf
  have hl := lv_entry ([.ref h0, .int q, .int y, .ref ob]) (n := 5) (Nat.le_of_ble_eq_true rfl)
  rw [lg_entry_eq]
  generalize (lg_sl ([.ref h0, .int q, .int y, .ref ob]) ++ List.replicate (5 - (lg_sl ([.ref h0, .int q, .int y, .ref ob])).length) Slot.unset).toArray = ls at hl ⊢
  have hl : lv_has ls 5 [(0, .ref h0), (1, .int q), (2, .int y), (3, .ref ob)] := hl
  refine lv_aload_n hx hb dL_turn_0 rfl (lv_at hl 3 rfl) ?_
  refine lv_iconst (v := 0) hx hb dL_turn_1 (by decide) ?_
  refine lv_aload_n hx hb dL_turn_2 rfl (lv_at hl 0 rfl) ?_
  refine lv_iload_n hx hb dL_turn_3 rfl (lv_at hl 1 rfl) ?_
  refine lv_iload_n hx hb dL_turn_4 rfl (lv_at hl 2 rfl) ?_
  have hPc : va_P D vwCl [(h0, .inr (3, [.ref lg, .ref fs, .ref ps, .long fa, .long fb, .int mt, .int re])), (lg, .inr (0, [.ref lc, .ref lt, .int (nI k)])), (lc, .inl (cI, 36, .inl cs)), (lt, .inl (cI, 36, .inl ts))] s.heap := hP.sub (ws' := [(h0, .inr (3, [.ref lg, .ref fs, .ref ps, .long fa, .long fb, .int mt, .int re])), (lg, .inr (0, [.ref lc, .ref lt, .int (nI k)])), (lc, .inl (cI, 36, .inl cs)), (lt, .inl (cI, 36, .inl ts))]) [0, 1, 2, 3] rfl
  have hDc : va_D A [(h0, .inr (3, [.ref lg, .ref fs, .ref ps, .long fa, .long fb, .int mt, .int re])), (lg, .inr (0, [.ref lc, .ref lt, .int (nI k)])), (lc, .inl (cI, 36, .inl cs)), (lt, .inl (cI, 36, .inl ts))] := hD.sub (ws' := [(h0, .inr (3, [.ref lg, .ref fs, .ref ps, .long fa, .long fb, .int mt, .int re])), (lg, .inr (0, [.ref lc, .ref lt, .int (nI k)])), (lc, .inl (cI, 36, .inl cs)), (lt, .inl (cI, 36, .inl ts))]) [0, 1, 2, 3] (by decide) rfl
  have hFc := va_free (wc := [(h0, .inr (3, [.ref lg, .ref fs, .ref ps, .long fa, .long fb, .int mt, .int re])), (lg, .inr (0, [.ref lc, .ref lt, .int (nI k)])), (lc, .inl (cI, 36, .inl cs)), (lt, .inl (cI, 36, .inl ts))]) hD hS hA [0, 1, 2, 3] rfl
  refine vx_calli (vx_runV (As := [.int q, .int y]) (rest := [.int 0, .ref ob]) ⟨hx, hb, hml, hown, hts⟩ (c_X6_turn l hltr D cI cJ s.heap.size  h0 lg lc lt fs ps fa fb mt re cs ts k (by omega) q y hm) (cwV 2 hts gL_turn_X6_turn rfl rfl rfl (by decide +kernel) ⟨Nat.le_of_ble_eq_true rfl, Nat.le_of_ble_eq_true rfl⟩) ⟨(px_blindX pv_blind), va_recv hK hPc (ci := 3) (q0 := 0) rfl rfl, fun U hU hW => ⟨rfl, hEX.warm hW, by rw [hU]; exact hZ.to hS hW.alike hFc, by rw [hU], by rw [hU]; exact hPc, va_K.moved hW.alike hK, hDc.weaken (fun _ _ _ _ => trivial)⟩⟩ rfl rfl hl.1 rfl (lv_room (Nat.le_of_ble_eq_true rfl)) dL_turn_5 ⟨(Nat.le_of_ble_eq_true rfl), (Nat.le_of_ble_eq_true rfl)⟩) hS (fun q _ h => hFc q h) hFc (fun q _ h => hFc q h) (fun E ce q9 u9 t9 H1 locs hth hvm hpx hB9 hz1 hk1 hS hce hcv hcl => ?_) (fun r5 u t9 H1 locs hth hvm hw5 hB9 hz1 hk1 hS => ?_)
  · obtain ⟨hb9, hP1, hK1, hD1⟩ := hB9
    rw [hth] at hP1
    obtain ⟨hP, hD⟩ := va_join (wr := [(ob, .inl (cJ, 1, .inr (.inl ov)))]) (w1 := [(h0, .inr (3, [.ref lg, .ref fs, .ref ps, .long fa, .long fb, .int mt, .int re])), (lg, .inr (0, [.ref lc, .ref lt, .int (nI k)])), (lc, .inl (cI, 36, .inl cs)), (lt, .inl (cI, 36, .inl ts))]) hP hD [0, 1, 2, 3] [4] rfl rfl (by decide) (by decide) hk1 hFc hP1 hD1
    have hP : va_P D vwCl [(h0, .inr (3, [.ref lg, .ref fs, .ref ps, .long fa, .long fb, .int mt, .int re])), (lg, .inr (0, [.ref lc, .ref lt, .int (nI k)])), (lc, .inl (cI, 36, .inl cs)), (lt, .inl (cI, 36, .inl ts)), (ob, .inl (cJ, 1, .inr (.inl ov)))] H1 := hP.sub (ws' := [(h0, .inr (3, [.ref lg, .ref fs, .ref ps, .long fa, .long fb, .int mt, .int re])), (lg, .inr (0, [.ref lc, .ref lt, .int (nI k)])), (lc, .inl (cI, 36, .inl cs)), (lt, .inl (cI, 36, .inl ts)), (ob, .inl (cJ, 1, .inr (.inl ov)))]) [1, 2, 3, 4, 0] rfl
    have hD : va_D A [(h0, .inr (3, [.ref lg, .ref fs, .ref ps, .long fa, .long fb, .int mt, .int re])), (lg, .inr (0, [.ref lc, .ref lt, .int (nI k)])), (lc, .inl (cI, 36, .inl cs)), (lt, .inl (cI, 36, .inl ts)), (ob, .inl (cJ, 1, .inr (.inl ov)))] := hD.sub (ws' := [(h0, .inr (3, [.ref lg, .ref fs, .ref ps, .long fa, .long fb, .int mt, .int re])), (lg, .inr (0, [.ref lc, .ref lt, .int (nI k)])), (lc, .inl (cI, 36, .inl cs)), (lt, .inl (cI, 36, .inl ts)), (ob, .inl (cJ, 1, .inr (.inl ov)))]) [1, 2, 3, 4, 0] (by decide) rfl
    obtain rfl : E = nIOB := (by { rcases hb9 with h | h | h; { exact h.1 }; { exact absurd h.2.1 hbad }; exact absurd h.2.1 hbad })
    refine vx_catch (own := RL) (name := nIOB) hown [] ⟨0, 10, 13, 13⟩ [⟨0, 10, 17, 21⟩, ⟨0, 10, 21, 15⟩] (htb.trans rfl) (fun z hz => nomatch hz) (by decide) (by decide) (hts (.classLink RL 13 nIOB) (by decide +kernel)) (va_Nw.use rfl hEX.2.1) hce hcv hcl ?_
    refine lv_astore (lv' := [(4, .ref q9), (0, .ref h0), (1, .int q), (2, .int y), (3, .ref ob)]) hx hb dL_turn_13 hl (by decide) rfl (fun ls hl => ?_)
    refine lv_iconst (v := 1) hx hb dL_turn_15 (by decide) ?_
    refine W.widen (k := 3) (n := 18) (Nat.le_of_ble_eq_true rfl) (Nat.le_of_ble_eq_true rfl) ?_
    refine W.iret (v := 1) hx hb hr (fun tt ht hW => ⟨⟨1, (), rfl, ?_, by rw [ht]; exact hP, va_K.moved hW.alike hK, hD⟩, hS.F ht⟩) hS.2.2 dL_turn_16
    exact rfl
  · try dsimp only at hw5
    obtain ⟨q9, y9, h1, h2, h3, _⟩ := hw5; exact absurd (show iq q from by rw [h3]; exact q_ok h1) hbad

set_option maxHeartbeats 400000 in
set_option maxRecDepth 100000 in
theorem c_L_turn_bad2 (l : Launch) (hltr : l.stackTraces = false) (D : va_G) (cI cJ : ClassId) (sz : Nat) (h0 lg lc lt fs ps : Nat) (fa fb : Int64) (mt re : Int32) (cs ts : Nat → Int32) (k : Nat) (hk : k ≤ 36) (ob : Nat) (ov : Nat → Int64) (q y : Int32) (hm : mt = 0 ∨ 0 < k) (hc : iq q) (hbad : ¬ iw y) : Met l yL_turn wsL_turn ({ frames := 8, cells := 3, slots := 18, locals := 133 } : Room) (va_Pc [.ref h0, .int q, .int y, .ref ob] (px_N (px_X (va_A [(h0, .inr (3, [.ref lg, .ref fs, .ref ps, .long fa, .long fb, .int mt, .int re])), (lg, .inr (0, [.ref lc, .ref lt, .int (nI k)])), (lc, .inl (cI, 36, .inl cs)), (lt, .inl (cI, 36, .inl ts)), (ob, .inl (cJ, 1, .inr (.inl ov)))] sz) (pv_C D cI cJ [(h0, .inr (3, [.ref lg, .ref fs, .ref ps, .long fa, .long fb, .int mt, .int re])), (lg, .inr (0, [.ref lc, .ref lt, .int (nI k)])), (lc, .inl (cI, 36, .inl cs)), (lt, .inl (cI, 36, .inl ts)), (ob, .inl (cJ, 1, .inr (.inl ov)))] sz)))) (va_Qi (fun (r : Int32) (u : Unit) => r = 2) (fun (u : Unit) => pv_B D cI cJ (va_A [(h0, .inr (3, [.ref lg, .ref fs, .ref ps, .long fa, .long fb, .int mt, .int re])), (lg, .inr (0, [.ref lc, .ref lt, .int (nI k)])), (lc, .inl (cI, 36, .inl cs)), (lt, .inl (cI, 36, .inl ts)), (ob, .inl (cJ, 1, .inr (.inl ov)))] sz) [(h0, .inr (3, [.ref lg, .ref fs, .ref ps, .long fa, .long fb, .int mt, .int re])), (lg, .inr (0, [.ref lc, .ref lt, .int (nI k)])), (lc, .inl (cI, 36, .inl cs)), (lt, .inl (cI, 36, .inl ts)), (ob, .inl (cJ, 1, .inr (.inl ov)))]) (va_A [(h0, .inr (3, [.ref lg, .ref fs, .ref ps, .long fa, .long fb, .int mt, .int re])), (lg, .inr (0, [.ref lc, .ref lt, .int (nI k)])), (lc, .inl (cI, 36, .inl cs)), (lt, .inl (cI, 36, .inl ts)), (ob, .inl (cJ, 1, .inr (.inl ov)))] sz)) 3 18 (va_A [(h0, .inr (3, [.ref lg, .ref fs, .ref ps, .long fa, .long fb, .int mt, .int re])), (lg, .inr (0, [.ref lc, .ref lt, .int (nI k)])), (lc, .inl (cI, 36, .inl cs)), (lt, .inl (cI, 36, .inl ts)), (ob, .inl (cJ, 1, .inr (.inl ov)))] sz) := by
  refine va_MetW (cc := cL_turn) (maxL := 5) (ret := (some .int)) (hh := [(0, 10, 13, 13), (0, 10, 17, 21), (0, 10, 21, 15)]) (by decide) rfl ?_
  intro p e s m args below meth c s₁ B hml hv
  obtain ⟨rfl, hNC, hEN, hEX, hZ, rfl, hP, hK, hD0⟩ := hv
  have hx := B.exec
  have hb := B.bytes
  have hr := B.returns
  have hts := atoms_spec (ws := wsL_turn) B.pre
  have hown : s.vm.findClass RL = some m.cls := findClass_of_methodNamed B.named
  have hlocks := B.notSynchronized
  have htb := vx_table (x := yL_turn) B (hts _ (List.mem_of_getElem? (i := 0) rfl))
  have hD := hD0.self (sz := s.heap.size)
  generalize hAe : va_A [(h0, .inr (3, [.ref lg, .ref fs, .ref ps, .long fa, .long fb, .int mt, .int re])), (lg, .inr (0, [.ref lc, .ref lt, .int (nI k)])), (lc, .inl (cI, 36, .inl cs)), (lt, .inl (cI, 36, .inl ts)), (ob, .inl (cJ, 1, .inr (.inl ov)))] s.heap.size = A at hD hZ ⊢
  have hA : ∀ q : Nat, s.heap.size ≤ q → A q := fun q h => by rw [← hAe]; exact Or.inr h
  have hS : va_S A s.heap s.heap [] := va_S.rf
  have hl := lv_entry ([.ref h0, .int q, .int y, .ref ob]) (n := 5) (Nat.le_of_ble_eq_true rfl)
  rw [lg_entry_eq]
  generalize (lg_sl ([.ref h0, .int q, .int y, .ref ob]) ++ List.replicate (5 - (lg_sl ([.ref h0, .int q, .int y, .ref ob])).length) Slot.unset).toArray = ls at hl ⊢
  have hl : lv_has ls 5 [(0, .ref h0), (1, .int q), (2, .int y), (3, .ref ob)] := hl
  refine lv_aload_n hx hb dL_turn_0 rfl (lv_at hl 3 rfl) ?_
  refine lv_iconst (v := 0) hx hb dL_turn_1 (by decide) ?_
  refine lv_aload_n hx hb dL_turn_2 rfl (lv_at hl 0 rfl) ?_
  refine lv_iload_n hx hb dL_turn_3 rfl (lv_at hl 1 rfl) ?_
  refine lv_iload_n hx hb dL_turn_4 rfl (lv_at hl 2 rfl) ?_
  have hPc : va_P D vwCl [(h0, .inr (3, [.ref lg, .ref fs, .ref ps, .long fa, .long fb, .int mt, .int re])), (lg, .inr (0, [.ref lc, .ref lt, .int (nI k)])), (lc, .inl (cI, 36, .inl cs)), (lt, .inl (cI, 36, .inl ts))] s.heap := hP.sub (ws' := [(h0, .inr (3, [.ref lg, .ref fs, .ref ps, .long fa, .long fb, .int mt, .int re])), (lg, .inr (0, [.ref lc, .ref lt, .int (nI k)])), (lc, .inl (cI, 36, .inl cs)), (lt, .inl (cI, 36, .inl ts))]) [0, 1, 2, 3] rfl
  have hDc : va_D A [(h0, .inr (3, [.ref lg, .ref fs, .ref ps, .long fa, .long fb, .int mt, .int re])), (lg, .inr (0, [.ref lc, .ref lt, .int (nI k)])), (lc, .inl (cI, 36, .inl cs)), (lt, .inl (cI, 36, .inl ts))] := hD.sub (ws' := [(h0, .inr (3, [.ref lg, .ref fs, .ref ps, .long fa, .long fb, .int mt, .int re])), (lg, .inr (0, [.ref lc, .ref lt, .int (nI k)])), (lc, .inl (cI, 36, .inl cs)), (lt, .inl (cI, 36, .inl ts))]) [0, 1, 2, 3] (by decide) rfl
  have hFc := va_free (wc := [(h0, .inr (3, [.ref lg, .ref fs, .ref ps, .long fa, .long fb, .int mt, .int re])), (lg, .inr (0, [.ref lc, .ref lt, .int (nI k)])), (lc, .inl (cI, 36, .inl cs)), (lt, .inl (cI, 36, .inl ts))]) hD hS hA [0, 1, 2, 3] rfl
  refine vx_calli (vx_runV (As := [.int q, .int y]) (rest := [.int 0, .ref ob]) ⟨hx, hb, hml, hown, hts⟩ (c_X6_turn l hltr D cI cJ s.heap.size  h0 lg lc lt fs ps fa fb mt re cs ts k (by omega) q y hm) (cwV 2 hts gL_turn_X6_turn rfl rfl rfl (by decide +kernel) ⟨Nat.le_of_ble_eq_true rfl, Nat.le_of_ble_eq_true rfl⟩) ⟨(px_blindX pv_blind), va_recv hK hPc (ci := 3) (q0 := 0) rfl rfl, fun U hU hW => ⟨rfl, hEX.warm hW, by rw [hU]; exact hZ.to hS hW.alike hFc, by rw [hU], by rw [hU]; exact hPc, va_K.moved hW.alike hK, hDc.weaken (fun _ _ _ _ => trivial)⟩⟩ rfl rfl hl.1 rfl (lv_room (Nat.le_of_ble_eq_true rfl)) dL_turn_5 ⟨(Nat.le_of_ble_eq_true rfl), (Nat.le_of_ble_eq_true rfl)⟩) hS (fun q _ h => hFc q h) hFc (fun q _ h => hFc q h) (fun E ce q9 u9 t9 H1 locs hth hvm hpx hB9 hz1 hk1 hS hce hcv hcl => ?_) (fun r5 u t9 H1 locs hth hvm hw5 hB9 hz1 hk1 hS => ?_)
  · obtain ⟨hb9, hP1, hK1, hD1⟩ := hB9
    rw [hth] at hP1
    obtain ⟨hP, hD⟩ := va_join (wr := [(ob, .inl (cJ, 1, .inr (.inl ov)))]) (w1 := [(h0, .inr (3, [.ref lg, .ref fs, .ref ps, .long fa, .long fb, .int mt, .int re])), (lg, .inr (0, [.ref lc, .ref lt, .int (nI k)])), (lc, .inl (cI, 36, .inl cs)), (lt, .inl (cI, 36, .inl ts))]) hP hD [0, 1, 2, 3] [4] rfl rfl (by decide) (by decide) hk1 hFc hP1 hD1
    have hP : va_P D vwCl [(h0, .inr (3, [.ref lg, .ref fs, .ref ps, .long fa, .long fb, .int mt, .int re])), (lg, .inr (0, [.ref lc, .ref lt, .int (nI k)])), (lc, .inl (cI, 36, .inl cs)), (lt, .inl (cI, 36, .inl ts)), (ob, .inl (cJ, 1, .inr (.inl ov)))] H1 := hP.sub (ws' := [(h0, .inr (3, [.ref lg, .ref fs, .ref ps, .long fa, .long fb, .int mt, .int re])), (lg, .inr (0, [.ref lc, .ref lt, .int (nI k)])), (lc, .inl (cI, 36, .inl cs)), (lt, .inl (cI, 36, .inl ts)), (ob, .inl (cJ, 1, .inr (.inl ov)))]) [1, 2, 3, 4, 0] rfl
    have hD : va_D A [(h0, .inr (3, [.ref lg, .ref fs, .ref ps, .long fa, .long fb, .int mt, .int re])), (lg, .inr (0, [.ref lc, .ref lt, .int (nI k)])), (lc, .inl (cI, 36, .inl cs)), (lt, .inl (cI, 36, .inl ts)), (ob, .inl (cJ, 1, .inr (.inl ov)))] := hD.sub (ws' := [(h0, .inr (3, [.ref lg, .ref fs, .ref ps, .long fa, .long fb, .int mt, .int re])), (lg, .inr (0, [.ref lc, .ref lt, .int (nI k)])), (lc, .inl (cI, 36, .inl cs)), (lt, .inl (cI, 36, .inl ts)), (ob, .inl (cJ, 1, .inr (.inl ov)))]) [1, 2, 3, 4, 0] (by decide) rfl
    obtain rfl : E = nIAE := (by { rcases hb9 with h | h | h; { exact absurd hc h.2 }; { exact h.1 }; exact absurd h.2.2.1 hbad })
    refine vx_catch (own := RL) (name := nIAE) hown [⟨0, 10, 13, 13⟩] ⟨0, 10, 17, 21⟩ [⟨0, 10, 21, 15⟩] (htb.trans rfl) (fun z hz => by { obtain rfl := List.mem_singleton.mp hz; exact Or.inr ⟨by decide, nIOB, hts (.classLink RL 13 nIOB) (by decide +kernel), hNC.2.1⟩ }) (by decide) (by decide) (hts (.classLink RL 21 nIAE) (by decide +kernel)) (va_Nw.use rfl hEX.2.2.2.1) hce hcv hcl ?_
    refine lv_astore (lv' := [(4, .ref q9), (0, .ref h0), (1, .int q), (2, .int y), (3, .ref ob)]) hx hb dL_turn_17 hl (by decide) rfl (fun ls hl => ?_)
    refine lv_iconst (v := 2) hx hb dL_turn_19 (by decide) ?_
    refine W.widen (k := 3) (n := 18) (Nat.le_of_ble_eq_true rfl) (Nat.le_of_ble_eq_true rfl) ?_
    refine W.iret (v := 2) hx hb hr (fun tt ht hW => ⟨⟨2, (), rfl, ?_, by rw [ht]; exact hP, va_K.moved hW.alike hK, hD⟩, hS.F ht⟩) hS.2.2 dL_turn_20
    exact rfl
  · try dsimp only at hw5
    obtain ⟨q9, y9, h1, h2, h3, h4, _⟩ := hw5; exact absurd (show iw y from by rw [h4]; exact w_ok h2) hbad

set_option maxHeartbeats 400000 in
set_option maxRecDepth 100000 in
theorem c_L_turn_bad3 (l : Launch) (hltr : l.stackTraces = false) (D : va_G) (cI cJ : ClassId) (sz : Nat) (h0 lg lc lt fs ps : Nat) (fa fb : Int64) (mt re : Int32) (cs ts : Nat → Int32) (k : Nat) (hk : k ≤ 36) (ob : Nat) (ov : Nat → Int64) (q y : Int32) (hm : mt = 0 ∨ 0 < k) (hc : iq q ∧ iw y) (hbad : ¬ (re = 0 ∧ ¬ mt = 0)) : Met l yL_turn wsL_turn ({ frames := 8, cells := 3, slots := 18, locals := 133 } : Room) (va_Pc [.ref h0, .int q, .int y, .ref ob] (px_N (px_X (va_A [(h0, .inr (3, [.ref lg, .ref fs, .ref ps, .long fa, .long fb, .int mt, .int re])), (lg, .inr (0, [.ref lc, .ref lt, .int (nI k)])), (lc, .inl (cI, 36, .inl cs)), (lt, .inl (cI, 36, .inl ts)), (ob, .inl (cJ, 1, .inr (.inl ov)))] sz) (pv_C D cI cJ [(h0, .inr (3, [.ref lg, .ref fs, .ref ps, .long fa, .long fb, .int mt, .int re])), (lg, .inr (0, [.ref lc, .ref lt, .int (nI k)])), (lc, .inl (cI, 36, .inl cs)), (lt, .inl (cI, 36, .inl ts)), (ob, .inl (cJ, 1, .inr (.inl ov)))] sz)))) (va_Qi (fun (r : Int32) (u : Unit) => r = 3) (fun (u : Unit) => pv_B D cI cJ (va_A [(h0, .inr (3, [.ref lg, .ref fs, .ref ps, .long fa, .long fb, .int mt, .int re])), (lg, .inr (0, [.ref lc, .ref lt, .int (nI k)])), (lc, .inl (cI, 36, .inl cs)), (lt, .inl (cI, 36, .inl ts)), (ob, .inl (cJ, 1, .inr (.inl ov)))] sz) [(h0, .inr (3, [.ref lg, .ref fs, .ref ps, .long fa, .long fb, .int mt, .int re])), (lg, .inr (0, [.ref lc, .ref lt, .int (nI k)])), (lc, .inl (cI, 36, .inl cs)), (lt, .inl (cI, 36, .inl ts)), (ob, .inl (cJ, 1, .inr (.inl ov)))]) (va_A [(h0, .inr (3, [.ref lg, .ref fs, .ref ps, .long fa, .long fb, .int mt, .int re])), (lg, .inr (0, [.ref lc, .ref lt, .int (nI k)])), (lc, .inl (cI, 36, .inl cs)), (lt, .inl (cI, 36, .inl ts)), (ob, .inl (cJ, 1, .inr (.inl ov)))] sz)) 3 18 (va_A [(h0, .inr (3, [.ref lg, .ref fs, .ref ps, .long fa, .long fb, .int mt, .int re])), (lg, .inr (0, [.ref lc, .ref lt, .int (nI k)])), (lc, .inl (cI, 36, .inl cs)), (lt, .inl (cI, 36, .inl ts)), (ob, .inl (cJ, 1, .inr (.inl ov)))] sz) := by
  refine va_MetW (cc := cL_turn) (maxL := 5) (ret := (some .int)) (hh := [(0, 10, 13, 13), (0, 10, 17, 21), (0, 10, 21, 15)]) (by decide) rfl ?_
  intro p e s m args below meth c s₁ B hml hv
  obtain ⟨rfl, hNC, hEN, hEX, hZ, rfl, hP, hK, hD0⟩ := hv
  have hx := B.exec
  have hb := B.bytes
  have hr := B.returns
  have hts := atoms_spec (ws := wsL_turn) B.pre
  have hown : s.vm.findClass RL = some m.cls := findClass_of_methodNamed B.named
  have hlocks := B.notSynchronized
  have htb := vx_table (x := yL_turn) B (hts _ (List.mem_of_getElem? (i := 0) rfl))
  have hD := hD0.self (sz := s.heap.size)
  generalize hAe : va_A [(h0, .inr (3, [.ref lg, .ref fs, .ref ps, .long fa, .long fb, .int mt, .int re])), (lg, .inr (0, [.ref lc, .ref lt, .int (nI k)])), (lc, .inl (cI, 36, .inl cs)), (lt, .inl (cI, 36, .inl ts)), (ob, .inl (cJ, 1, .inr (.inl ov)))] s.heap.size = A at hD hZ ⊢
  have hA : ∀ q : Nat, s.heap.size ≤ q → A q := fun q h => by rw [← hAe]; exact Or.inr h
  have hS : va_S A s.heap s.heap [] := va_S.rf
  have hl := lv_entry ([.ref h0, .int q, .int y, .ref ob]) (n := 5) (Nat.le_of_ble_eq_true rfl)
  rw [lg_entry_eq]
  generalize (lg_sl ([.ref h0, .int q, .int y, .ref ob]) ++ List.replicate (5 - (lg_sl ([.ref h0, .int q, .int y, .ref ob])).length) Slot.unset).toArray = ls at hl ⊢
  have hl : lv_has ls 5 [(0, .ref h0), (1, .int q), (2, .int y), (3, .ref ob)] := hl
  refine lv_aload_n hx hb dL_turn_0 rfl (lv_at hl 3 rfl) ?_
  refine lv_iconst (v := 0) hx hb dL_turn_1 (by decide) ?_
  refine lv_aload_n hx hb dL_turn_2 rfl (lv_at hl 0 rfl) ?_
  refine lv_iload_n hx hb dL_turn_3 rfl (lv_at hl 1 rfl) ?_
  refine lv_iload_n hx hb dL_turn_4 rfl (lv_at hl 2 rfl) ?_
  have hPc : va_P D vwCl [(h0, .inr (3, [.ref lg, .ref fs, .ref ps, .long fa, .long fb, .int mt, .int re])), (lg, .inr (0, [.ref lc, .ref lt, .int (nI k)])), (lc, .inl (cI, 36, .inl cs)), (lt, .inl (cI, 36, .inl ts))] s.heap := hP.sub (ws' := [(h0, .inr (3, [.ref lg, .ref fs, .ref ps, .long fa, .long fb, .int mt, .int re])), (lg, .inr (0, [.ref lc, .ref lt, .int (nI k)])), (lc, .inl (cI, 36, .inl cs)), (lt, .inl (cI, 36, .inl ts))]) [0, 1, 2, 3] rfl
  have hDc : va_D A [(h0, .inr (3, [.ref lg, .ref fs, .ref ps, .long fa, .long fb, .int mt, .int re])), (lg, .inr (0, [.ref lc, .ref lt, .int (nI k)])), (lc, .inl (cI, 36, .inl cs)), (lt, .inl (cI, 36, .inl ts))] := hD.sub (ws' := [(h0, .inr (3, [.ref lg, .ref fs, .ref ps, .long fa, .long fb, .int mt, .int re])), (lg, .inr (0, [.ref lc, .ref lt, .int (nI k)])), (lc, .inl (cI, 36, .inl cs)), (lt, .inl (cI, 36, .inl ts))]) [0, 1, 2, 3] (by decide) rfl
  have hFc := va_free (wc := [(h0, .inr (3, [.ref lg, .ref fs, .ref ps, .long fa, .long fb, .int mt, .int re])), (lg, .inr (0, [.ref lc, .ref lt, .int (nI k)])), (lc, .inl (cI, 36, .inl cs)), (lt, .inl (cI, 36, .inl ts))]) hD hS hA [0, 1, 2, 3] rfl
  refine vx_calli (vx_runV (As := [.int q, .int y]) (rest := [.int 0, .ref ob]) ⟨hx, hb, hml, hown, hts⟩ (c_X6_turn l hltr D cI cJ s.heap.size  h0 lg lc lt fs ps fa fb mt re cs ts k (by omega) q y hm) (cwV 2 hts gL_turn_X6_turn rfl rfl rfl (by decide +kernel) ⟨Nat.le_of_ble_eq_true rfl, Nat.le_of_ble_eq_true rfl⟩) ⟨(px_blindX pv_blind), va_recv hK hPc (ci := 3) (q0 := 0) rfl rfl, fun U hU hW => ⟨rfl, hEX.warm hW, by rw [hU]; exact hZ.to hS hW.alike hFc, by rw [hU], by rw [hU]; exact hPc, va_K.moved hW.alike hK, hDc.weaken (fun _ _ _ _ => trivial)⟩⟩ rfl rfl hl.1 rfl (lv_room (Nat.le_of_ble_eq_true rfl)) dL_turn_5 ⟨(Nat.le_of_ble_eq_true rfl), (Nat.le_of_ble_eq_true rfl)⟩) hS (fun q _ h => hFc q h) hFc (fun q _ h => hFc q h) (fun E ce q9 u9 t9 H1 locs hth hvm hpx hB9 hz1 hk1 hS hce hcv hcl => ?_) (fun r5 u t9 H1 locs hth hvm hw5 hB9 hz1 hk1 hS => ?_)
  · obtain ⟨hb9, hP1, hK1, hD1⟩ := hB9
    rw [hth] at hP1
    obtain ⟨hP, hD⟩ := va_join (wr := [(ob, .inl (cJ, 1, .inr (.inl ov)))]) (w1 := [(h0, .inr (3, [.ref lg, .ref fs, .ref ps, .long fa, .long fb, .int mt, .int re])), (lg, .inr (0, [.ref lc, .ref lt, .int (nI k)])), (lc, .inl (cI, 36, .inl cs)), (lt, .inl (cI, 36, .inl ts))]) hP hD [0, 1, 2, 3] [4] rfl rfl (by decide) (by decide) hk1 hFc hP1 hD1
    have hP : va_P D vwCl [(h0, .inr (3, [.ref lg, .ref fs, .ref ps, .long fa, .long fb, .int mt, .int re])), (lg, .inr (0, [.ref lc, .ref lt, .int (nI k)])), (lc, .inl (cI, 36, .inl cs)), (lt, .inl (cI, 36, .inl ts)), (ob, .inl (cJ, 1, .inr (.inl ov)))] H1 := hP.sub (ws' := [(h0, .inr (3, [.ref lg, .ref fs, .ref ps, .long fa, .long fb, .int mt, .int re])), (lg, .inr (0, [.ref lc, .ref lt, .int (nI k)])), (lc, .inl (cI, 36, .inl cs)), (lt, .inl (cI, 36, .inl ts)), (ob, .inl (cJ, 1, .inr (.inl ov)))]) [1, 2, 3, 4, 0] rfl
    have hD : va_D A [(h0, .inr (3, [.ref lg, .ref fs, .ref ps, .long fa, .long fb, .int mt, .int re])), (lg, .inr (0, [.ref lc, .ref lt, .int (nI k)])), (lc, .inl (cI, 36, .inl cs)), (lt, .inl (cI, 36, .inl ts)), (ob, .inl (cJ, 1, .inr (.inl ov)))] := hD.sub (ws' := [(h0, .inr (3, [.ref lg, .ref fs, .ref ps, .long fa, .long fb, .int mt, .int re])), (lg, .inr (0, [.ref lc, .ref lt, .int (nI k)])), (lc, .inl (cI, 36, .inl cs)), (lt, .inl (cI, 36, .inl ts)), (ob, .inl (cJ, 1, .inr (.inl ov)))]) [1, 2, 3, 4, 0] (by decide) rfl
    obtain rfl : E = nISE := (by { rcases hb9 with h | h | h; { exact absurd hc.1 h.2 }; { exact absurd hc.2 h.2.2 }; exact h.1 })
    refine vx_catch (own := RL) (name := nISE) hown [⟨0, 10, 13, 13⟩, ⟨0, 10, 17, 21⟩] ⟨0, 10, 21, 15⟩ [] (htb.trans rfl) (fun z hz => by { rcases List.mem_cons.mp hz with rfl | hz; · { exact Or.inr ⟨by decide, nIOB, hts (.classLink RL 13 nIOB) (by decide +kernel), hNC.1⟩ }; · { obtain rfl := List.mem_singleton.mp hz; exact Or.inr ⟨by decide, nIAE, hts (.classLink RL 21 nIAE) (by decide +kernel), hNC.2.2⟩ } }) (by decide) (by decide) (hts (.classLink RL 15 nISE) (by decide +kernel)) (va_Nw.use rfl hEX.2.2.1) hce hcv hcl ?_
    refine lv_astore (lv' := [(4, .ref q9), (0, .ref h0), (1, .int q), (2, .int y), (3, .ref ob)]) hx hb dL_turn_21 hl (by decide) rfl (fun ls hl => ?_)
    refine lv_iconst (v := 3) hx hb dL_turn_23 (by decide) ?_
    refine W.widen (k := 3) (n := 18) (Nat.le_of_ble_eq_true rfl) (Nat.le_of_ble_eq_true rfl) ?_
    refine W.iret (v := 3) hx hb hr (fun tt ht hW => ⟨⟨3, (), rfl, ?_, by rw [ht]; exact hP, va_K.moved hW.alike hK, hD⟩, hS.F ht⟩) hS.2.2 dL_turn_24
    exact rfl
  · try dsimp only at hw5
    obtain ⟨q9, y9, h1, h2, h3, h4, h5, h6, h7, _⟩ := hw5; exact absurd ⟨h6, h7⟩ hbad

set_option maxHeartbeats 400000 in
set_option maxRecDepth 100000 in
theorem c_L_undo_bad (l : Launch) (hltr : l.stackTraces = false) (D : va_G) (cI cJ : ClassId) (sz : Nat) (h0 lg lc lt fs ps : Nat) (fa fb : Int64) (mt re : Int32) (cs ts : Nat → Int32) (ob : Nat) (ov : Nat → Int64)  : Met l yL_undo wsL_undo ({ frames := 7, cells := 1, slots := 6, locals := 114 } : Room) (va_Pc [.ref h0, .ref ob] (px_N (px_X (va_A [(h0, .inr (3, [.ref lg, .ref fs, .ref ps, .long fa, .long fb, .int mt, .int re])), (lg, .inr (0, [.ref lc, .ref lt, .int 0])), (lc, .inl (cI, 36, .inl cs)), (lt, .inl (cI, 36, .inl ts)), (ob, .inl (cJ, 1, .inr (.inl ov)))] sz) (pv_C D cI cJ [(h0, .inr (3, [.ref lg, .ref fs, .ref ps, .long fa, .long fb, .int mt, .int re])), (lg, .inr (0, [.ref lc, .ref lt, .int 0])), (lc, .inl (cI, 36, .inl cs)), (lt, .inl (cI, 36, .inl ts)), (ob, .inl (cJ, 1, .inr (.inl ov)))] sz)))) (va_Qi (fun (r : Int32) (u : Unit) => r = 1) (fun (u : Unit) => pv_B D cI cJ (va_A [(h0, .inr (3, [.ref lg, .ref fs, .ref ps, .long fa, .long fb, .int mt, .int re])), (lg, .inr (0, [.ref lc, .ref lt, .int 0])), (lc, .inl (cI, 36, .inl cs)), (lt, .inl (cI, 36, .inl ts)), (ob, .inl (cJ, 1, .inr (.inl ov)))] sz) [(h0, .inr (3, [.ref lg, .ref fs, .ref ps, .long fa, .long fb, .int mt, .int re])), (lg, .inr (0, [.ref lc, .ref lt, .int 0])), (lc, .inl (cI, 36, .inl cs)), (lt, .inl (cI, 36, .inl ts)), (ob, .inl (cJ, 1, .inr (.inl ov)))]) (va_A [(h0, .inr (3, [.ref lg, .ref fs, .ref ps, .long fa, .long fb, .int mt, .int re])), (lg, .inr (0, [.ref lc, .ref lt, .int 0])), (lc, .inl (cI, 36, .inl cs)), (lt, .inl (cI, 36, .inl ts)), (ob, .inl (cJ, 1, .inr (.inl ov)))] sz)) 1 6 (va_A [(h0, .inr (3, [.ref lg, .ref fs, .ref ps, .long fa, .long fb, .int mt, .int re])), (lg, .inr (0, [.ref lc, .ref lt, .int 0])), (lc, .inl (cI, 36, .inl cs)), (lt, .inl (cI, 36, .inl ts)), (ob, .inl (cJ, 1, .inr (.inl ov)))] sz) := by
  refine va_MetW (cc := cL_undo) (maxL := 3) (ret := (some .int)) (hh := [(0, 15, 18, 15)]) (by decide) rfl ?_
  intro p e s m args below meth c s₁ B hml hv
  obtain ⟨rfl, hNC, hEN, hEX, hZ, rfl, hP, hK, hD0⟩ := hv
  have hx := B.exec
  have hb := B.bytes
  have hr := B.returns
  have hts := atoms_spec (ws := wsL_undo) B.pre
  have hown : s.vm.findClass RL = some m.cls := findClass_of_methodNamed B.named
  have hlocks := B.notSynchronized
  have htb := vx_table (x := yL_undo) B (hts _ (List.mem_of_getElem? (i := 0) rfl))
  have hD := hD0.self (sz := s.heap.size)
  generalize hAe : va_A [(h0, .inr (3, [.ref lg, .ref fs, .ref ps, .long fa, .long fb, .int mt, .int re])), (lg, .inr (0, [.ref lc, .ref lt, .int 0])), (lc, .inl (cI, 36, .inl cs)), (lt, .inl (cI, 36, .inl ts)), (ob, .inl (cJ, 1, .inr (.inl ov)))] s.heap.size = A at hD hZ ⊢
  have hA : ∀ q : Nat, s.heap.size ≤ q → A q := fun q h => by rw [← hAe]; exact Or.inr h
  have hS : va_S A s.heap s.heap [] := va_S.rf
  have hl := lv_entry ([.ref h0, .ref ob]) (n := 3) (Nat.le_of_ble_eq_true rfl)
  rw [lg_entry_eq]
  generalize (lg_sl ([.ref h0, .ref ob]) ++ List.replicate (3 - (lg_sl ([.ref h0, .ref ob])).length) Slot.unset).toArray = ls at hl ⊢
  have hl : lv_has ls 3 [(0, .ref h0), (1, .ref ob)] := hl
  refine lv_aload_n hx hb dL_undo_0 rfl (lv_at hl 1 rfl) ?_
  refine lv_iconst (v := 0) hx hb dL_undo_1 (by decide) ?_
  refine lv_aload_n hx hb dL_undo_2 rfl (lv_at hl 0 rfl) ?_
  have hPc : va_P D vwCl [(h0, .inr (3, [.ref lg, .ref fs, .ref ps, .long fa, .long fb, .int mt, .int re])), (lg, .inr (0, [.ref lc, .ref lt, .int 0])), (lc, .inl (cI, 36, .inl cs)), (lt, .inl (cI, 36, .inl ts))] s.heap := hP.sub (ws' := [(h0, .inr (3, [.ref lg, .ref fs, .ref ps, .long fa, .long fb, .int mt, .int re])), (lg, .inr (0, [.ref lc, .ref lt, .int 0])), (lc, .inl (cI, 36, .inl cs)), (lt, .inl (cI, 36, .inl ts))]) [0, 1, 2, 3] rfl
  have hDc : va_D A [(h0, .inr (3, [.ref lg, .ref fs, .ref ps, .long fa, .long fb, .int mt, .int re])), (lg, .inr (0, [.ref lc, .ref lt, .int 0])), (lc, .inl (cI, 36, .inl cs)), (lt, .inl (cI, 36, .inl ts))] := hD.sub (ws' := [(h0, .inr (3, [.ref lg, .ref fs, .ref ps, .long fa, .long fb, .int mt, .int re])), (lg, .inr (0, [.ref lc, .ref lt, .int 0])), (lc, .inl (cI, 36, .inl cs)), (lt, .inl (cI, 36, .inl ts))]) [0, 1, 2, 3] (by decide) rfl
  have hFc := va_free (wc := [(h0, .inr (3, [.ref lg, .ref fs, .ref ps, .long fa, .long fb, .int mt, .int re])), (lg, .inr (0, [.ref lc, .ref lt, .int 0])), (lc, .inl (cI, 36, .inl cs)), (lt, .inl (cI, 36, .inl ts))]) hD hS hA [0, 1, 2, 3] rfl
  refine vx_calli (vx_runV (As := []) (rest := [.int 0, .ref ob]) ⟨hx, hb, hml, hown, hts⟩ (c_X6_undo_bad l hltr D cI cJ s.heap.size  h0 lg lc lt fs ps fa fb mt re cs ts) (cwV 0 hts gL_undo_X6_undo rfl rfl rfl (by decide +kernel) ⟨Nat.le_of_ble_eq_true rfl, Nat.le_of_ble_eq_true rfl⟩) ⟨(px_blindX pv_blind), va_recv hK hPc (ci := 3) (q0 := 0) rfl rfl, fun U hU hW => ⟨rfl, hEX.warm hW, by rw [hU]; exact hZ.to hS hW.alike hFc, by rw [hU], by rw [hU]; exact hPc, va_K.moved hW.alike hK, hDc.weaken (fun _ _ _ _ => trivial)⟩⟩ rfl rfl hl.1 rfl (lv_room (Nat.le_of_ble_eq_true rfl)) dL_undo_3 ⟨(Nat.le_of_ble_eq_true rfl), (Nat.le_of_ble_eq_true rfl)⟩) hS (fun q _ h => hFc q h) hFc (fun q _ h => hFc q h) (fun E ce q9 u9 t9 H1 locs hth hvm hpx hB9 hz1 hk1 hS hce hcv hcl => ?_) (fun r3 u t9 H1 locs hth hvm hw3 hB9 hz1 hk1 hS => ?_)
  · obtain ⟨hb9, hP1, hK1, hD1⟩ := hB9
    rw [hth] at hP1
    obtain ⟨hP, hD⟩ := va_join (wr := [(ob, .inl (cJ, 1, .inr (.inl ov)))]) (w1 := [(h0, .inr (3, [.ref lg, .ref fs, .ref ps, .long fa, .long fb, .int mt, .int re])), (lg, .inr (0, [.ref lc, .ref lt, .int 0])), (lc, .inl (cI, 36, .inl cs)), (lt, .inl (cI, 36, .inl ts))]) hP hD [0, 1, 2, 3] [4] rfl rfl (by decide) (by decide) hk1 hFc hP1 hD1
    have hP : va_P D vwCl [(h0, .inr (3, [.ref lg, .ref fs, .ref ps, .long fa, .long fb, .int mt, .int re])), (lg, .inr (0, [.ref lc, .ref lt, .int 0])), (lc, .inl (cI, 36, .inl cs)), (lt, .inl (cI, 36, .inl ts)), (ob, .inl (cJ, 1, .inr (.inl ov)))] H1 := hP.sub (ws' := [(h0, .inr (3, [.ref lg, .ref fs, .ref ps, .long fa, .long fb, .int mt, .int re])), (lg, .inr (0, [.ref lc, .ref lt, .int 0])), (lc, .inl (cI, 36, .inl cs)), (lt, .inl (cI, 36, .inl ts)), (ob, .inl (cJ, 1, .inr (.inl ov)))]) [1, 2, 3, 4, 0] rfl
    have hD : va_D A [(h0, .inr (3, [.ref lg, .ref fs, .ref ps, .long fa, .long fb, .int mt, .int re])), (lg, .inr (0, [.ref lc, .ref lt, .int 0])), (lc, .inl (cI, 36, .inl cs)), (lt, .inl (cI, 36, .inl ts)), (ob, .inl (cJ, 1, .inr (.inl ov)))] := hD.sub (ws' := [(h0, .inr (3, [.ref lg, .ref fs, .ref ps, .long fa, .long fb, .int mt, .int re])), (lg, .inr (0, [.ref lc, .ref lt, .int 0])), (lc, .inl (cI, 36, .inl cs)), (lt, .inl (cI, 36, .inl ts)), (ob, .inl (cJ, 1, .inr (.inl ov)))]) [1, 2, 3, 4, 0] (by decide) rfl
    obtain rfl : E = nISE := hb9
    refine vx_catch (own := RL) (name := nISE) hown [] ⟨0, 15, 18, 15⟩ [] (htb.trans rfl) (fun z hz => nomatch hz) (by decide) (by decide) (hts (.classLink RL 15 nISE) (by decide +kernel)) (va_Nw.use rfl hEX.2.2.1) hce hcv hcl ?_
    refine lv_astore_n (lv' := [(2, .ref q9), (0, .ref h0), (1, .ref ob)]) hx hb dL_undo_18 rfl hl (by decide) rfl (fun ls hl => ?_)
    refine lv_iconst (v := 1) hx hb dL_undo_19 (by decide) ?_
    refine W.widen (k := 1) (n := 6) (Nat.le_of_ble_eq_true rfl) (Nat.le_of_ble_eq_true rfl) ?_
    refine W.iret (v := 1) hx hb hr (fun tt ht hW => ⟨⟨1, (), rfl, ?_, by rw [ht]; exact hP, va_K.moved hW.alike hK, hD⟩, hS.F ht⟩) hS.2.2 dL_undo_20
    exact rfl
  · try dsimp only at hw3
    all_goals exact hw3.elim

set_option maxHeartbeats 400000 in
set_option maxRecDepth 100000 in
theorem c_L_undo_turn (l : Launch) (hltr : l.stackTraces = false) (D : va_G) (cI cJ : ClassId) (sz : Nat) (h0 lg lc lt fs ps : Nat) (fa fb : Int64) (mt re : Int32) (cs ts : Nat → Int32) (k : Nat) (hk : k ≤ 36) (ob : Nat) (ov : Nat → Int64) (tn : Nat) (htn : tn < 8) (hk0 : 0 < k) (ht9 : ts (k - 1) = nI tn) : Met l yL_undo wsL_undo ({ frames := 6, cells := 0, slots := 0, locals := 98 } : Room) (va_Pc [.ref h0, .ref ob] (px_N (px_X (va_A [(h0, .inr (3, [.ref lg, .ref fs, .ref ps, .long fa, .long fb, .int mt, .int re])), (lg, .inr (0, [.ref lc, .ref lt, .int (nI k)])), (lc, .inl (cI, 36, .inl cs)), (lt, .inl (cI, 36, .inl ts)), (ob, .inl (cJ, 1, .inr (.inl ov)))] sz) (pv_C D cI cJ [(h0, .inr (3, [.ref lg, .ref fs, .ref ps, .long fa, .long fb, .int mt, .int re])), (lg, .inr (0, [.ref lc, .ref lt, .int (nI k)])), (lc, .inl (cI, 36, .inl cs)), (lt, .inl (cI, 36, .inl ts)), (ob, .inl (cJ, 1, .inr (.inl ov)))] sz)))) (va_Qi (fun (r : Int32) (u : Unit) => r = 0) (fun (u : Unit) => pv_B D cI cJ (va_A [(h0, .inr (3, [.ref lg, .ref fs, .ref ps, .long fa, .long fb, .int mt, .int re])), (lg, .inr (0, [.ref lc, .ref lt, .int (nI k)])), (lc, .inl (cI, 36, .inl cs)), (lt, .inl (cI, 36, .inl ts)), (ob, .inl (cJ, 1, .inr (.inl ov)))] sz) [(h0, .inr (3, [.ref lg, .ref fs, .ref ps, .long (cturned fa (2 * (tn / 2) + (1 - tn % 2))), .long (cturned fb (2 * (tn / 2) + (1 - tn % 2))), .int 1, .int 0])), (lg, .inr (0, [.ref lc, .ref lt, .int (nI k)])), (lc, .inl (cI, 36, .inl cs)), (lt, .inl (cI, 36, .inl (upd ts (k - 1) (-1)))), (ob, .inl (cJ, 1, .inr (.inl (vp_updL ov 0 1))))]) (va_A [(h0, .inr (3, [.ref lg, .ref fs, .ref ps, .long fa, .long fb, .int mt, .int re])), (lg, .inr (0, [.ref lc, .ref lt, .int (nI k)])), (lc, .inl (cI, 36, .inl cs)), (lt, .inl (cI, 36, .inl ts)), (ob, .inl (cJ, 1, .inr (.inl ov)))] sz)) 0 0 (va_A [(h0, .inr (3, [.ref lg, .ref fs, .ref ps, .long fa, .long fb, .int mt, .int re])), (lg, .inr (0, [.ref lc, .ref lt, .int (nI k)])), (lc, .inl (cI, 36, .inl cs)), (lt, .inl (cI, 36, .inl ts)), (ob, .inl (cJ, 1, .inr (.inl ov)))] sz) := by
  refine va_MetW (cc := cL_undo) (maxL := 3) (ret := (some .int)) (hh := [(0, 15, 18, 15)]) (by decide) rfl ?_
  intro p e s m args below meth c s₁ B hml hv
  obtain ⟨rfl, hNC, hEN, hEX, hZ, rfl, hP, hK, hD0⟩ := hv
  have hx := B.exec
  have hb := B.bytes
  have hr := B.returns
  have hts := atoms_spec (ws := wsL_undo) B.pre
  have hown : s.vm.findClass RL = some m.cls := findClass_of_methodNamed B.named
  have hlocks := B.notSynchronized
  have htb := vx_table (x := yL_undo) B (hts _ (List.mem_of_getElem? (i := 0) rfl))
  have hD := hD0.self (sz := s.heap.size)
  generalize hAe : va_A [(h0, .inr (3, [.ref lg, .ref fs, .ref ps, .long fa, .long fb, .int mt, .int re])), (lg, .inr (0, [.ref lc, .ref lt, .int (nI k)])), (lc, .inl (cI, 36, .inl cs)), (lt, .inl (cI, 36, .inl ts)), (ob, .inl (cJ, 1, .inr (.inl ov)))] s.heap.size = A at hD hZ ⊢
  have hA : ∀ q : Nat, s.heap.size ≤ q → A q := fun q h => by rw [← hAe]; exact Or.inr h
  have hS : va_S A s.heap s.heap [] := va_S.rf
  have hl := lv_entry ([.ref h0, .ref ob]) (n := 3) (Nat.le_of_ble_eq_true rfl)
  rw [lg_entry_eq]
  generalize (lg_sl ([.ref h0, .ref ob]) ++ List.replicate (3 - (lg_sl ([.ref h0, .ref ob])).length) Slot.unset).toArray = ls at hl ⊢
  have hl : lv_has ls 3 [(0, .ref h0), (1, .ref ob)] := hl
  refine lv_aload_n hx hb dL_undo_0 rfl (lv_at hl 1 rfl) ?_
  refine lv_iconst (v := 0) hx hb dL_undo_1 (by decide) ?_
  refine lv_aload_n hx hb dL_undo_2 rfl (lv_at hl 0 rfl) ?_
  have hPc := hP.sub (ws' := [(h0, .inr (3, [.ref lg, .ref fs, .ref ps, .long fa, .long fb, .int mt, .int re])), (lg, .inr (0, [.ref lc, .ref lt, .int (nI k)])), (lc, .inl (cI, 36, .inl cs)), (lt, .inl (cI, 36, .inl ts))]) [0, 1, 2, 3] rfl
  have hDc := hD.sub (ws' := [(h0, .inr (3, [.ref lg, .ref fs, .ref ps, .long fa, .long fb, .int mt, .int re])), (lg, .inr (0, [.ref lc, .ref lt, .int (nI k)])), (lc, .inl (cI, 36, .inl cs)), (lt, .inl (cI, 36, .inl ts))]) [0, 1, 2, 3] (by decide) rfl
  have hFc := va_free (wc := [(h0, .inr (3, [.ref lg, .ref fs, .ref ps, .long fa, .long fb, .int mt, .int re])), (lg, .inr (0, [.ref lc, .ref lt, .int (nI k)])), (lc, .inl (cI, 36, .inl cs)), (lt, .inl (cI, 36, .inl ts))]) hD hS hA [0, 1, 2, 3] rfl
  refine va_calli (va_runV (As := []) (rest := [.int 0, .ref ob]) ⟨hx, hb, hml, hown, hts⟩ (c_X6_undo_turn l D cI cJ s.heap.size  h0 lg lc lt fs ps fa fb mt re cs ts k (by omega) tn (by omega) (by omega) ht9) (cwV 0 hts gL_undo_X6_undo rfl rfl rfl (by decide +kernel) ⟨Nat.le_of_ble_eq_true rfl, Nat.le_of_ble_eq_true rfl⟩) ⟨(px_blindE pv_blind), va_recv hK hPc (ci := 3) (q0 := 0) rfl rfl, fun U hU hW => ⟨rfl, hEN.warm hW, by rw [hU], by rw [hU]; exact hPc, va_K.moved hW.alike hK, hDc.weaken (fun _ _ _ _ => trivial)⟩⟩ rfl rfl hl.1 rfl (lv_room (Nat.le_of_ble_eq_true rfl)) dL_undo_3 ⟨(Nat.le_of_ble_eq_true rfl), (Nat.le_of_ble_eq_true rfl)⟩) hS (fun q _ h => hFc q h) hFc (fun r3 u t9 H1 locs hth hvm hw3 hB hz1 hk1 hS => ?_)
  try dsimp only at hw3
  obtain ⟨hP1, hK1, hD1⟩ := hB
  rw [hth] at hP1
  obtain ⟨hP, hD⟩ := va_join (wr := [(ob, .inl (cJ, 1, .inr (.inl ov)))]) (w1 := [(h0, .inr (3, [.ref lg, .ref fs, .ref ps, .long (cturned fa (2 * (tn / 2) + (1 - tn % 2))), .long (cturned fb (2 * (tn / 2) + (1 - tn % 2))), .int 1, .int 0])), (lg, .inr (0, [.ref lc, .ref lt, .int (nI k)])), (lc, .inl (cI, 36, .inl cs)), (lt, .inl (cI, 36, .inl (upd ts (k - 1) (-1))))]) hP hD [0, 1, 2, 3] [4] rfl rfl (by decide) (by decide) hk1 hFc hP1 hD1
  generalize H1 = H at hP hS ⊢
  have hP : va_P D vwCl [(h0, .inr (3, [.ref lg, .ref fs, .ref ps, .long (cturned fa (2 * (tn / 2) + (1 - tn % 2))), .long (cturned fb (2 * (tn / 2) + (1 - tn % 2))), .int 1, .int 0])), (lg, .inr (0, [.ref lc, .ref lt, .int (nI k)])), (lc, .inl (cI, 36, .inl cs)), (lt, .inl (cI, 36, .inl (upd ts (k - 1) (-1)))), (ob, .inl (cJ, 1, .inr (.inl ov)))] H := hP.sub (ws' := [(h0, .inr (3, [.ref lg, .ref fs, .ref ps, .long (cturned fa (2 * (tn / 2) + (1 - tn % 2))), .long (cturned fb (2 * (tn / 2) + (1 - tn % 2))), .int 1, .int 0])), (lg, .inr (0, [.ref lc, .ref lt, .int (nI k)])), (lc, .inl (cI, 36, .inl cs)), (lt, .inl (cI, 36, .inl (upd ts (k - 1) (-1)))), (ob, .inl (cJ, 1, .inr (.inl ov)))]) [1, 2, 3, 4, 0] rfl
  have hD : va_D A [(h0, .inr (3, [.ref lg, .ref fs, .ref ps, .long (cturned fa (2 * (tn / 2) + (1 - tn % 2))), .long (cturned fb (2 * (tn / 2) + (1 - tn % 2))), .int 1, .int 0])), (lg, .inr (0, [.ref lc, .ref lt, .int (nI k)])), (lc, .inl (cI, 36, .inl cs)), (lt, .inl (cI, 36, .inl (upd ts (k - 1) (-1)))), (ob, .inl (cJ, 1, .inr (.inl ov)))] := hD.sub (ws' := [(h0, .inr (3, [.ref lg, .ref fs, .ref ps, .long (cturned fa (2 * (tn / 2) + (1 - tn % 2))), .long (cturned fb (2 * (tn / 2) + (1 - tn % 2))), .int 1, .int 0])), (lg, .inr (0, [.ref lc, .ref lt, .int (nI k)])), (lc, .inl (cI, 36, .inl cs)), (lt, .inl (cI, 36, .inl (upd ts (k - 1) (-1)))), (ob, .inl (cJ, 1, .inr (.inl ov)))]) [1, 2, 3, 4, 0] (by decide) rfl
  obtain rfl := hw3.symm
  refine lv_if_eq (tgt := 13) hx hb dL_undo_6 (by decide) (fun c6 => ?_) (fun c6 => ?_)
  · exact absurd c6 (by decide)
  · refine lv_lconst (v := 1) hx hb dL_undo_9 (by decide) ?_
    refine lv_goto (tgt := 14) hx hb dL_undo_10 (by decide) ?_
    refine va_last hx hb hK hP hD hS 4 1 rfl rfl (vp_in_nI (n := 0) (N := 1) (by omega) (by decide)) dL_undo_14 (fun H locs hP hD hS => ?_)
    have hu14 : (0 : Int32).toNatClampNeg = 0 := pk_cl 0
    rw [hu14] at hP hD
    have hP : va_P D vwCl [(h0, .inr (3, [.ref lg, .ref fs, .ref ps, .long (cturned fa (2 * (tn / 2) + (1 - tn % 2))), .long (cturned fb (2 * (tn / 2) + (1 - tn % 2))), .int 1, .int 0])), (lg, .inr (0, [.ref lc, .ref lt, .int (nI k)])), (lc, .inl (cI, 36, .inl cs)), (lt, .inl (cI, 36, .inl (upd ts (k - 1) (-1)))), (ob, .inl (cJ, 1, .inr (.inl (vp_updL ov 0 1))))] H := hP
    have hD : va_D A [(h0, .inr (3, [.ref lg, .ref fs, .ref ps, .long (cturned fa (2 * (tn / 2) + (1 - tn % 2))), .long (cturned fb (2 * (tn / 2) + (1 - tn % 2))), .int 1, .int 0])), (lg, .inr (0, [.ref lc, .ref lt, .int (nI k)])), (lc, .inl (cI, 36, .inl cs)), (lt, .inl (cI, 36, .inl (upd ts (k - 1) (-1)))), (ob, .inl (cJ, 1, .inr (.inl (vp_updL ov 0 1))))] := hD
    refine lv_goto (tgt := 21) hx hb dL_undo_15 (by decide) ?_
    refine lv_iconst (v := 0) hx hb dL_undo_21 (by decide) ?_
    refine W.iret (v := 0) hx hb hr (fun tt ht hW => ⟨⟨0, (), rfl, ?_, by rw [ht]; exact hP, va_K.moved hW.alike hK, hD⟩, hS.F ht⟩) hS.2.2 dL_undo_22
    exact rfl

