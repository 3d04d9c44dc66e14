set_option maxHeartbeats 400000 in
set_option maxRecDepth 100000 in
theorem c_L_textLength_ok (l : Launch) (hltr : l.stackTraces = false) (D : va_G) (cI cJ : ClassId) (sz : Nat) (h0 lg lc lt fs ps : Nat) (fa fb : Int64) (mt re : Int32) (cs ts : Nat → Int32) (k : Nat) (hk : k ≤ 36) (ob : Nat) (ov : Nat → Int64) (v : Int32) (hok : imove k v) : Met l yL_textLength wsL_textLength ({ frames := 8, cells := 1, slots := 6, locals := 132 } : Room) (va_Pc [.ref h0, .int v, .ref ob] (px_N (px_X (va_A [(h0, .inr (3, [.ref lg, .ref fs, .ref ps, .long fa, .long fb, .int mt, .int re])), (lg, .inr (0, [.ref lc, .ref lt, .int (nI k)])), (lc, .inl (cI, 36, .inl cs)), (lt, .inl (cI, 36, .inl ts)), (ob, .inl (cJ, 1, .inr (.inl ov)))] sz) (pv_C D cI cJ [(h0, .inr (3, [.ref lg, .ref fs, .ref ps, .long fa, .long fb, .int mt, .int re])), (lg, .inr (0, [.ref lc, .ref lt, .int (nI k)])), (lc, .inl (cI, 36, .inl cs)), (lt, .inl (cI, 36, .inl ts)), (ob, .inl (cJ, 1, .inr (.inl ov)))] sz)))) (va_Qi (fun (r : Int32) (u : (Int32)) => r = 0 ∧ (∃ j, j < k ∧ v = nI j ∧ u = (if ts j = (-1) then 2 else 4))) (fun (u : (Int32)) => pv_B D cI cJ (va_A [(h0, .inr (3, [.ref lg, .ref fs, .ref ps, .long fa, .long fb, .int mt, .int re])), (lg, .inr (0, [.ref lc, .ref lt, .int (nI k)])), (lc, .inl (cI, 36, .inl cs)), (lt, .inl (cI, 36, .inl ts)), (ob, .inl (cJ, 1, .inr (.inl ov)))] sz) [(h0, .inr (3, [.ref lg, .ref fs, .ref ps, .long fa, .long fb, .int mt, .int re])), (lg, .inr (0, [.ref lc, .ref lt, .int (nI k)])), (lc, .inl (cI, 36, .inl cs)), (lt, .inl (cI, 36, .inl ts)), (ob, .inl (cJ, 1, .inr (.inl (vp_updL ov 0 (u).toInt64))))]) (va_A [(h0, .inr (3, [.ref lg, .ref fs, .ref ps, .long fa, .long fb, .int mt, .int re])), (lg, .inr (0, [.ref lc, .ref lt, .int (nI k)])), (lc, .inl (cI, 36, .inl cs)), (lt, .inl (cI, 36, .inl ts)), (ob, .inl (cJ, 1, .inr (.inl ov)))] sz)) 1 6 (va_A [(h0, .inr (3, [.ref lg, .ref fs, .ref ps, .long fa, .long fb, .int mt, .int re])), (lg, .inr (0, [.ref lc, .ref lt, .int (nI k)])), (lc, .inl (cI, 36, .inl cs)), (lt, .inl (cI, 36, .inl ts)), (ob, .inl (cJ, 1, .inr (.inl ov)))] sz) := by
  refine va_MetW (cc := cL_textLength) (maxL := 4) (ret := (some .int)) (hh := [(0, 9, 12, 13)]) (by decide) rfl ?_
  intro p e s m args below meth c s₁ B hml hv
  obtain ⟨rfl, hNC, hEN, hEX, hZ, rfl, hP, hK, hD0⟩ := hv
  have hx := B.exec
  have hb := B.bytes
  have hr := B.returns
  have hts := atoms_spec (ws := wsL_textLength) B.pre
  have hown : s.vm.findClass RL = some m.cls := findClass_of_methodNamed B.named
  have hlocks := B.notSynchronized
  have htb := vx_table (x := yL_textLength) B (hts _ (List.mem_of_getElem? (i := 0) rfl))
  have hD := hD0.self (sz := s.heap.size)
  generalize hAe : va_A [(h0, .inr (3, [.ref lg, .ref fs, .ref ps, .long fa, .long fb, .int mt, .int re])), (lg, .inr (0, [.ref lc, .ref lt, .int (nI k)])), (lc, .inl (cI, 36, .inl cs)), (lt, .inl (cI, 36, .inl ts)), (ob, .inl (cJ, 1, .inr (.inl ov)))] s.heap.size = A at hD hZ ⊢
  have hA : ∀ q : Nat, s.heap.size ≤ q → A q := fun q h => by rw [← hAe]; exact Or.inr h
  have hS : va_S A s.heap s.heap [] := va_S.rf
  have hl := lv_entry ([.ref h0, .int v, .ref ob]) (n := 4) (Nat.le_of_ble_eq_true rfl)
  rw [lg_entry_eq]
  generalize (lg_sl ([.ref h0, .int v, .ref ob]) ++ List.replicate (4 - (lg_sl ([.ref h0, .int v, .ref ob])).length) Slot.unset).toArray = ls at hl ⊢
  have hl : lv_has ls 4 [(0, .ref h0), (1, .int v), (2, .ref ob)] := hl
  refine lv_aload_n hx hb dL_textLength_0 rfl (lv_at hl 2 rfl) ?_
  refine lv_iconst (v := 0) hx hb dL_textLength_1 (by decide) ?_
  refine lv_aload_n hx hb dL_textLength_2 rfl (lv_at hl 0 rfl) ?_
  refine lv_iload_n hx hb dL_textLength_3 rfl (lv_at hl 1 rfl) ?_
  have hPc : va_P D vwCl [(h0, .inr (3, [.ref lg, .ref fs, .ref ps, .long fa, .long fb, .int mt, .int re])), (lg, .inr (0, [.ref lc, .ref lt, .int (nI k)])), (lc, .inl (cI, 36, .inl cs)), (lt, .inl (cI, 36, .inl ts))] s.heap := hP.sub (ws' := [(h0, .inr (3, [.ref lg, .ref fs, .ref ps, .long fa, .long fb, .int mt, .int re])), (lg, .inr (0, [.ref lc, .ref lt, .int (nI k)])), (lc, .inl (cI, 36, .inl cs)), (lt, .inl (cI, 36, .inl ts))]) [0, 1, 2, 3] rfl
  have hDc : va_D A [(h0, .inr (3, [.ref lg, .ref fs, .ref ps, .long fa, .long fb, .int mt, .int re])), (lg, .inr (0, [.ref lc, .ref lt, .int (nI k)])), (lc, .inl (cI, 36, .inl cs)), (lt, .inl (cI, 36, .inl ts))] := hD.sub (ws' := [(h0, .inr (3, [.ref lg, .ref fs, .ref ps, .long fa, .long fb, .int mt, .int re])), (lg, .inr (0, [.ref lc, .ref lt, .int (nI k)])), (lc, .inl (cI, 36, .inl cs)), (lt, .inl (cI, 36, .inl ts))]) [0, 1, 2, 3] (by decide) rfl
  have hFc := va_free (wc := [(h0, .inr (3, [.ref lg, .ref fs, .ref ps, .long fa, .long fb, .int mt, .int re])), (lg, .inr (0, [.ref lc, .ref lt, .int (nI k)])), (lc, .inl (cI, 36, .inl cs)), (lt, .inl (cI, 36, .inl ts))]) hD hS hA [0, 1, 2, 3] rfl
  refine vx_calli (vx_runV (As := [.int v]) (rest := [.int 0, .ref ob]) ⟨hx, hb, hml, hown, hts⟩ (c_X6_textLength l hltr D cI cJ s.heap.size  h0 lg lc lt fs ps fa fb mt re cs ts k (by omega) v) (cwV 1 hts gL_textLength_X6_textLength rfl rfl rfl (by decide +kernel) ⟨Nat.le_of_ble_eq_true rfl, Nat.le_of_ble_eq_true rfl⟩) ⟨(px_blindX pv_blind), va_recv hK hPc (ci := 3) (q0 := 0) rfl rfl, fun U hU hW => ⟨rfl, hEX.warm hW, by rw [hU]; exact hZ.to hS hW.alike hFc, by rw [hU], by rw [hU]; exact hPc, va_K.moved hW.alike hK, hDc.weaken (fun _ _ _ _ => trivial)⟩⟩ rfl rfl hl.1 rfl (lv_room (Nat.le_of_ble_eq_true rfl)) dL_textLength_4 ⟨(Nat.le_of_ble_eq_true rfl), (Nat.le_of_ble_eq_true rfl)⟩) hS (fun q _ h => hFc q h) hFc (fun q _ h => hFc q h) (fun E ce q9 u9 t9 H1 locs hth hvm hpx hB9 hz1 hk1 hS hce hcv hcl => ?_) (fun r4 u t9 H1 locs hth hvm hw4 hB9 hz1 hk1 hS => ?_)
  · obtain ⟨hb9, hP1, hK1, hD1⟩ := hB9
    rw [hth] at hP1
    obtain ⟨hP, hD⟩ := va_join (wr := [(ob, .inl (cJ, 1, .inr (.inl ov)))]) (w1 := [(h0, .inr (3, [.ref lg, .ref fs, .ref ps, .long fa, .long fb, .int mt, .int re])), (lg, .inr (0, [.ref lc, .ref lt, .int (nI k)])), (lc, .inl (cI, 36, .inl cs)), (lt, .inl (cI, 36, .inl ts))]) hP hD [0, 1, 2, 3] [4] rfl rfl (by decide) (by decide) hk1 hFc hP1 hD1
    have hP : va_P D vwCl [(h0, .inr (3, [.ref lg, .ref fs, .ref ps, .long fa, .long fb, .int mt, .int re])), (lg, .inr (0, [.ref lc, .ref lt, .int (nI k)])), (lc, .inl (cI, 36, .inl cs)), (lt, .inl (cI, 36, .inl ts)), (ob, .inl (cJ, 1, .inr (.inl ov)))] H1 := hP.sub (ws' := [(h0, .inr (3, [.ref lg, .ref fs, .ref ps, .long fa, .long fb, .int mt, .int re])), (lg, .inr (0, [.ref lc, .ref lt, .int (nI k)])), (lc, .inl (cI, 36, .inl cs)), (lt, .inl (cI, 36, .inl ts)), (ob, .inl (cJ, 1, .inr (.inl ov)))]) [1, 2, 3, 4, 0] rfl
    have hD : va_D A [(h0, .inr (3, [.ref lg, .ref fs, .ref ps, .long fa, .long fb, .int mt, .int re])), (lg, .inr (0, [.ref lc, .ref lt, .int (nI k)])), (lc, .inl (cI, 36, .inl cs)), (lt, .inl (cI, 36, .inl ts)), (ob, .inl (cJ, 1, .inr (.inl ov)))] := hD.sub (ws' := [(h0, .inr (3, [.ref lg, .ref fs, .ref ps, .long fa, .long fb, .int mt, .int re])), (lg, .inr (0, [.ref lc, .ref lt, .int (nI k)])), (lc, .inl (cI, 36, .inl cs)), (lt, .inl (cI, 36, .inl ts)), (ob, .inl (cJ, 1, .inr (.inl ov)))]) [1, 2, 3, 4, 0] (by decide) rfl
    exact (absurd hok hb9.2)
  · try dsimp only at hw4
    obtain ⟨hP1, hK1, hD1⟩ := hB9
    rw [hth] at hP1
    obtain ⟨hP, hD⟩ := va_join (wr := [(ob, .inl (cJ, 1, .inr (.inl ov)))]) (w1 := [(h0, .inr (3, [.ref lg, .ref fs, .ref ps, .long fa, .long fb, .int mt, .int re])), (lg, .inr (0, [.ref lc, .ref lt, .int (nI k)])), (lc, .inl (cI, 36, .inl cs)), (lt, .inl (cI, 36, .inl ts))]) hP hD [0, 1, 2, 3] [4] rfl rfl (by decide) (by decide) hk1 hFc hP1 hD1
    generalize H1 = H at hP hS ⊢
    have hP : va_P D vwCl [(h0, .inr (3, [.ref lg, .ref fs, .ref ps, .long fa, .long fb, .int mt, .int re])), (lg, .inr (0, [.ref lc, .ref lt, .int (nI k)])), (lc, .inl (cI, 36, .inl cs)), (lt, .inl (cI, 36, .inl ts)), (ob, .inl (cJ, 1, .inr (.inl ov)))] H := hP.sub (ws' := [(h0, .inr (3, [.ref lg, .ref fs, .ref ps, .long fa, .long fb, .int mt, .int re])), (lg, .inr (0, [.ref lc, .ref lt, .int (nI k)])), (lc, .inl (cI, 36, .inl cs)), (lt, .inl (cI, 36, .inl ts)), (ob, .inl (cJ, 1, .inr (.inl ov)))]) [1, 2, 3, 4, 0] rfl
    have hD : va_D A [(h0, .inr (3, [.ref lg, .ref fs, .ref ps, .long fa, .long fb, .int mt, .int re])), (lg, .inr (0, [.ref lc, .ref lt, .int (nI k)])), (lc, .inl (cI, 36, .inl cs)), (lt, .inl (cI, 36, .inl ts)), (ob, .inl (cJ, 1, .inr (.inl ov)))] := hD.sub (ws' := [(h0, .inr (3, [.ref lg, .ref fs, .ref ps, .long fa, .long fb, .int mt, .int re])), (lg, .inr (0, [.ref lc, .ref lt, .int (nI k)])), (lc, .inl (cI, 36, .inl cs)), (lt, .inl (cI, 36, .inl ts)), (ob, .inl (cJ, 1, .inr (.inl ov)))]) [1, 2, 3, 4, 0] (by decide) rfl
    refine lv_i2l (v := (r4 : Int32).toInt64) hx hb dL_textLength_7 rfl ?_
    refine lv_topl (fun x7 ex7 => ?_)
    refine va_last hx hb hK hP hD hS 4 1 rfl rfl (vp_in_nI (n := 0) (N := 1) (by omega) (by decide)) dL_textLength_8 (fun H locs hP hD hS => ?_)
    have hu8 : (0 : Int32).toNatClampNeg = 0 := pk_cl 0
    rw [hu8] at hP hD
    have hP : va_P D vwCl [(h0, .inr (3, [.ref lg, .ref fs, .ref ps, .long fa, .long fb, .int mt, .int re])), (lg, .inr (0, [.ref lc, .ref lt, .int (nI k)])), (lc, .inl (cI, 36, .inl cs)), (lt, .inl (cI, 36, .inl ts)), (ob, .inl (cJ, 1, .inr (.inl (vp_updL ov 0 x7))))] H := hP
    have hD : va_D A [(h0, .inr (3, [.ref lg, .ref fs, .ref ps, .long fa, .long fb, .int mt, .int re])), (lg, .inr (0, [.ref lc, .ref lt, .int (nI k)])), (lc, .inl (cI, 36, .inl cs)), (lt, .inl (cI, 36, .inl ts)), (ob, .inl (cJ, 1, .inr (.inl (vp_updL ov 0 x7))))] := hD
    refine lv_goto (tgt := 15) hx hb dL_textLength_9 (by decide) ?_
    refine lv_iconst (v := 0) hx hb dL_textLength_15 (by decide) ?_
    obtain rfl := ex7.symm
    refine W.widen (k := 1) (n := 6) (Nat.le_of_ble_eq_true rfl) (Nat.le_of_ble_eq_true rfl) ?_
    refine W.iret (v := 0) hx hb hr (fun tt ht hW => ⟨⟨0, r4, rfl, ?_, by rw [ht]; exact hP, va_K.moved hW.alike hK, hD⟩, hS.F ht⟩) hS.2.2 dL_textLength_16
    exact ⟨rfl, hw4⟩

set_option maxHeartbeats 400000 in
set_option maxRecDepth 100000 in
theorem c_L_textLength_bad (l : Launch) (hltr : l.stackTraces = false) (D : va_G) (cI cJ : ClassId) (sz : Nat) (h0 lg lc lt fs ps : Nat) (fa fb : Int64) (mt re : Int32) (cs ts : Nat → Int32) (k : Nat) (hk : k ≤ 36) (ob : Nat) (ov : Nat → Int64) (v : Int32) (hbad : ¬ (imove k v)) : Met l yL_textLength wsL_textLength ({ frames := 8, cells := 1, slots := 6, locals := 132 } : Room) (va_Pc [.ref h0, .int v, .ref ob] (px_N (px_X (va_A [(h0, .inr (3, [.ref lg, .ref fs, .ref ps, .long fa, .long fb, .int mt, .int re])), (lg, .inr (0, [.ref lc, .ref lt, .int (nI k)])), (lc, .inl (cI, 36, .inl cs)), (lt, .inl (cI, 36, .inl ts)), (ob, .inl (cJ, 1, .inr (.inl ov)))] sz) (pv_C D cI cJ [(h0, .inr (3, [.ref lg, .ref fs, .ref ps, .long fa, .long fb, .int mt, .int re])), (lg, .inr (0, [.ref lc, .ref lt, .int (nI k)])), (lc, .inl (cI, 36, .inl cs)), (lt, .inl (cI, 36, .inl ts)), (ob, .inl (cJ, 1, .inr (.inl ov)))] sz)))) (va_Qi (fun (r : Int32) (u : Unit) => r = 1) (fun (u : Unit) => pv_B D cI cJ (va_A [(h0, .inr (3, [.ref lg, .ref fs, .ref ps, .long fa, .long fb, .int mt, .int re])), (lg, .inr (0, [.ref lc, .ref lt, .int (nI k)])), (lc, .inl (cI, 36, .inl cs)), (lt, .inl (cI, 36, .inl ts)), (ob, .inl (cJ, 1, .inr (.inl ov)))] sz) [(h0, .inr (3, [.ref lg, .ref fs, .ref ps, .long fa, .long fb, .int mt, .int re])), (lg, .inr (0, [.ref lc, .ref lt, .int (nI k)])), (lc, .inl (cI, 36, .inl cs)), (lt, .inl (cI, 36, .inl ts)), (ob, .inl (cJ, 1, .inr (.inl ov)))]) (va_A [(h0, .inr (3, [.ref lg, .ref fs, .ref ps, .long fa, .long fb, .int mt, .int re])), (lg, .inr (0, [.ref lc, .ref lt, .int (nI k)])), (lc, .inl (cI, 36, .inl cs)), (lt, .inl (cI, 36, .inl ts)), (ob, .inl (cJ, 1, .inr (.inl ov)))] sz)) 1 6 (va_A [(h0, .inr (3, [.ref lg, .ref fs, .ref ps, .long fa, .long fb, .int mt, .int re])), (lg, .inr (0, [.ref lc, .ref lt, .int (nI k)])), (lc, .inl (cI, 36, .inl cs)), (lt, .inl (cI, 36, .inl ts)), (ob, .inl (cJ, 1, .inr (.inl ov)))] sz) := by
  refine va_MetW (cc := cL_textLength) (maxL := 4) (ret := (some .int)) (hh := [(0, 9, 12, 13)]) (by decide) rfl ?_
  intro p e s m args below meth c s₁ B hml hv
  obtain ⟨rfl, hNC, hEN, hEX, hZ, rfl, hP, hK, hD0⟩ := hv
  have hx := B.exec
  have hb := B.bytes
  have hr := B.returns
  have hts := atoms_spec (ws := wsL_textLength) B.pre
  have hown : s.vm.findClass RL = some m.cls := findClass_of_methodNamed B.named
  have hlocks := B.notSynchronized
  have htb := vx_table (x := yL_textLength) B (hts _ (List.mem_of_getElem? (i := 0) rfl))
  have hD := hD0.self (sz := s.heap.size)
  generalize hAe : va_A [(h0, .inr (3, [.ref lg, .ref fs, .ref ps, .long fa, .long fb, .int mt, .int re])), (lg, .inr (0, [.ref lc, .ref lt, .int (nI k)])), (lc, .inl (cI, 36, .inl cs)), (lt, .inl (cI, 36, .inl ts)), (ob, .inl (cJ, 1, .inr (.inl ov)))] s.heap.size = A at hD hZ ⊢
  have hA : ∀ q : Nat, s.heap.size ≤ q → A q := fun q h => by rw [← hAe]; exact Or.inr h
  have hS : va_S A s.heap s.heap [] := va_S.rf
  have hl := lv_entry ([.ref h0, .int v, .ref ob]) (n := 4) (Nat.le_of_ble_eq_true rfl)
  rw [lg_entry_eq]
  generalize (lg_sl ([.ref h0, .int v, .ref ob]) ++ List.replicate (4 - (lg_sl ([.ref h0, .int v, .ref ob])).length) Slot.unset).toArray = ls at hl ⊢
  have hl : lv_has ls 4 [(0, .ref h0), (1, .int v), (2, .ref ob)] := hl
  refine lv_aload_n hx hb dL_textLength_0 rfl (lv_at hl 2 rfl) ?_
  refine lv_iconst (v := 0) hx hb dL_textLength_1 (by decide) ?_
  refine lv_aload_n hx hb dL_textLength_2 rfl (lv_at hl 0 rfl) ?_
  refine lv_iload_n hx hb dL_textLength_3 rfl (lv_at hl 1 rfl) ?_
  have hPc : va_P D vwCl [(h0, .inr (3, [.ref lg, .ref fs, .ref ps, .long fa, .long fb, .int mt, .int re])), (lg, .inr (0, [.ref lc, .ref lt, .int (nI k)])), (lc, .inl (cI, 36, .inl cs)), (lt, .inl (cI, 36, .inl ts))] s.heap := hP.sub (ws' := [(h0, .inr (3, [.ref lg, .ref fs, .ref ps, .long fa, .long fb, .int mt, .int re])), (lg, .inr (0, [.ref lc, .ref lt, .int (nI k)])), (lc, .inl (cI, 36, .inl cs)), (lt, .inl (cI, 36, .inl ts))]) [0, 1, 2, 3] rfl
  have hDc : va_D A [(h0, .inr (3, [.ref lg, .ref fs, .ref ps, .long fa, .long fb, .int mt, .int re])), (lg, .inr (0, [.ref lc, .ref lt, .int (nI k)])), (lc, .inl (cI, 36, .inl cs)), (lt, .inl (cI, 36, .inl ts))] := hD.sub (ws' := [(h0, .inr (3, [.ref lg, .ref fs, .ref ps, .long fa, .long fb, .int mt, .int re])), (lg, .inr (0, [.ref lc, .ref lt, .int (nI k)])), (lc, .inl (cI, 36, .inl cs)), (lt, .inl (cI, 36, .inl ts))]) [0, 1, 2, 3] (by decide) rfl
  have hFc := va_free (wc := [(h0, .inr (3, [.ref lg, .ref fs, .ref ps, .long fa, .long fb, .int mt, .int re])), (lg, .inr (0, [.ref lc, .ref lt, .int (nI k)])), (lc, .inl (cI, 36, .inl cs)), (lt, .inl (cI, 36, .inl ts))]) hD hS hA [0, 1, 2, 3] rfl
  refine vx_calli (vx_runV (As := [.int v]) (rest := [.int 0, .ref ob]) ⟨hx, hb, hml, hown, hts⟩ (c_X6_textLength l hltr D cI cJ s.heap.size  h0 lg lc lt fs ps fa fb mt re cs ts k (by omega) v) (cwV 1 hts gL_textLength_X6_textLength rfl rfl rfl (by decide +kernel) ⟨Nat.le_of_ble_eq_true rfl, Nat.le_of_ble_eq_true rfl⟩) ⟨(px_blindX pv_blind), va_recv hK hPc (ci := 3) (q0 := 0) rfl rfl, fun U hU hW => ⟨rfl, hEX.warm hW, by rw [hU]; exact hZ.to hS hW.alike hFc, by rw [hU], by rw [hU]; exact hPc, va_K.moved hW.alike hK, hDc.weaken (fun _ _ _ _ => trivial)⟩⟩ rfl rfl hl.1 rfl (lv_room (Nat.le_of_ble_eq_true rfl)) dL_textLength_4 ⟨(Nat.le_of_ble_eq_true rfl), (Nat.le_of_ble_eq_true rfl)⟩) hS (fun q _ h => hFc q h) hFc (fun q _ h => hFc q h) (fun E ce q9 u9 t9 H1 locs hth hvm hpx hB9 hz1 hk1 hS hce hcv hcl => ?_) (fun r4 u t9 H1 locs hth hvm hw4 hB9 hz1 hk1 hS => ?_)
  · obtain ⟨hb9, hP1, hK1, hD1⟩ := hB9
    rw [hth] at hP1
    obtain ⟨hP, hD⟩ := va_join (wr := [(ob, .inl (cJ, 1, .inr (.inl ov)))]) (w1 := [(h0, .inr (3, [.ref lg, .ref fs, .ref ps, .long fa, .long fb, .int mt, .int re])), (lg, .inr (0, [.ref lc, .ref lt, .int (nI k)])), (lc, .inl (cI, 36, .inl cs)), (lt, .inl (cI, 36, .inl ts))]) hP hD [0, 1, 2, 3] [4] rfl rfl (by decide) (by decide) hk1 hFc hP1 hD1
    have hP : va_P D vwCl [(h0, .inr (3, [.ref lg, .ref fs, .ref ps, .long fa, .long fb, .int mt, .int re])), (lg, .inr (0, [.ref lc, .ref lt, .int (nI k)])), (lc, .inl (cI, 36, .inl cs)), (lt, .inl (cI, 36, .inl ts)), (ob, .inl (cJ, 1, .inr (.inl ov)))] H1 := hP.sub (ws' := [(h0, .inr (3, [.ref lg, .ref fs, .ref ps, .long fa, .long fb, .int mt, .int re])), (lg, .inr (0, [.ref lc, .ref lt, .int (nI k)])), (lc, .inl (cI, 36, .inl cs)), (lt, .inl (cI, 36, .inl ts)), (ob, .inl (cJ, 1, .inr (.inl ov)))]) [1, 2, 3, 4, 0] rfl
    have hD : va_D A [(h0, .inr (3, [.ref lg, .ref fs, .ref ps, .long fa, .long fb, .int mt, .int re])), (lg, .inr (0, [.ref lc, .ref lt, .int (nI k)])), (lc, .inl (cI, 36, .inl cs)), (lt, .inl (cI, 36, .inl ts)), (ob, .inl (cJ, 1, .inr (.inl ov)))] := hD.sub (ws' := [(h0, .inr (3, [.ref lg, .ref fs, .ref ps, .long fa, .long fb, .int mt, .int re])), (lg, .inr (0, [.ref lc, .ref lt, .int (nI k)])), (lc, .inl (cI, 36, .inl cs)), (lt, .inl (cI, 36, .inl ts)), (ob, .inl (cJ, 1, .inr (.inl ov)))]) [1, 2, 3, 4, 0] (by decide) rfl
    obtain rfl : E = nIOB := hb9.1
    refine vx_catch (own := RL) (name := nIOB) hown [] ⟨0, 9, 12, 13⟩ [] (htb.trans rfl) (fun z hz => nomatch hz) (by decide) (by decide) (hts (.classLink RL 13 nIOB) (by decide +kernel)) (va_Nw.use rfl hEX.2.1) hce hcv hcl ?_
    refine lv_astore_n (lv' := [(3, .ref q9), (0, .ref h0), (1, .int v), (2, .ref ob)]) hx hb dL_textLength_12 rfl hl (by decide) rfl (fun ls hl => ?_)
    refine lv_iconst (v := 1) hx hb dL_textLength_13 (by decide) ?_
    refine W.widen (k := 1) (n := 6) (Nat.le_of_ble_eq_true rfl) (Nat.le_of_ble_eq_true rfl) ?_
    refine W.iret (v := 1) hx hb hr (fun tt ht hW => ⟨⟨1, (), rfl, ?_, by rw [ht]; exact hP, va_K.moved hW.alike hK, hD⟩, hS.F ht⟩) hS.2.2 dL_textLength_14
    exact rfl
  · try dsimp only at hw4
    obtain ⟨j, h1, h2, _⟩ := hw4; exact absurd (show imove k v from by rw [h2]; exact mv_in h1 hk) hbad

set_option maxHeartbeats 400000 in
set_option maxRecDepth 100000 in
theorem c_L_textAt_ok0 (l : Launch) (hltr : l.stackTraces = false) (D : va_G) (cI cJ : ClassId) (sz : Nat) (h0 lg lc lt fs ps : Nat) (fa fb : Int64) (mt re : Int32) (cs ts : Nat → Int32) (k : Nat) (hk : k ≤ 36) (ob : Nat) (ov : Nat → Int64) (v : Int32) (hok : imove k v) : Met l yL_textAt wsL_textAt ({ frames := 8, cells := 2, slots := 12, locals := 133 } : Room) (va_Pc [.ref h0, .int v, .int 0, .ref ob] (px_N (px_X (va_A [(h0, .inr (3, [.ref lg, .ref fs, .ref ps, .long fa, .long fb, .int mt, .int re])), (lg, .inr (0, [.ref lc, .ref lt, .int (nI k)])), (lc, .inl (cI, 36, .inl cs)), (lt, .inl (cI, 36, .inl ts)), (ob, .inl (cJ, 1, .inr (.inl ov)))] sz) (pv_C D cI cJ [(h0, .inr (3, [.ref lg, .ref fs, .ref ps, .long fa, .long fb, .int mt, .int re])), (lg, .inr (0, [.ref lc, .ref lt, .int (nI k)])), (lc, .inl (cI, 36, .inl cs)), (lt, .inl (cI, 36, .inl ts)), (ob, .inl (cJ, 1, .inr (.inl ov)))] sz)))) (va_Qi (fun (r : Int32) (u : (Int32)) => r = 0 ∧ (∃ j, j < k ∧ v = nI j ∧ u = ji2c (97 + (cs j - cs j / 6 * 6)))) (fun (u : (Int32)) => pv_B D cI cJ (va_A [(h0, .inr (3, [.ref lg, .ref fs, .ref ps, .long fa, .long fb, .int mt, .int re])), (lg, .inr (0, [.ref lc, .ref lt, .int (nI k)])), (lc, .inl (cI, 36, .inl cs)), (lt, .inl (cI, 36, .inl ts)), (ob, .inl (cJ, 1, .inr (.inl ov)))] sz) [(h0, .inr (3, [.ref lg, .ref fs, .ref ps, .long fa, .long fb, .int mt, .int re])), (lg, .inr (0, [.ref lc, .ref lt, .int (nI k)])), (lc, .inl (cI, 36, .inl cs)), (lt, .inl (cI, 36, .inl ts)), (ob, .inl (cJ, 1, .inr (.inl (vp_updL ov 0 (u).toInt64))))]) (va_A [(h0, .inr (3, [.ref lg, .ref fs, .ref ps, .long fa, .long fb, .int mt, .int re])), (lg, .inr (0, [.ref lc, .ref lt, .int (nI k)])), (lc, .inl (cI, 36, .inl cs)), (lt, .inl (cI, 36, .inl ts)), (ob, .inl (cJ, 1, .inr (.inl ov)))] sz)) 2 12 (va_A [(h0, .inr (3, [.ref lg, .ref fs, .ref ps, .long fa, .long fb, .int mt, .int re])), (lg, .inr (0, [.ref lc, .ref lt, .int (nI k)])), (lc, .inl (cI, 36, .inl cs)), (lt, .inl (cI, 36, .inl ts)), (ob, .inl (cJ, 1, .inr (.inl ov)))] sz) := by
  refine va_MetW (cc := cL_textAt) (maxL := 5) (ret := (some .int)) (hh := [(0, 10, 13, 13)]) (by decide) rfl ?_
  intro p e s m args below meth c s₁ B hml hv
  obtain ⟨rfl, hNC, hEN, hEX, hZ, rfl, hP, hK, hD0⟩ := hv
  have hx := B.exec
  have hb := B.bytes
  have hr := B.returns
  have hts := atoms_spec (ws := wsL_textAt) B.pre
  have hown : s.vm.findClass RL = some m.cls := findClass_of_methodNamed B.named
  have hlocks := B.notSynchronized
  have htb := vx_table (x := yL_textAt) B (hts _ (List.mem_of_getElem? (i := 0) rfl))
  have hD := hD0.self (sz := s.heap.size)
  generalize hAe : va_A [(h0, .inr (3, [.ref lg, .ref fs, .ref ps, .long fa, .long fb, .int mt, .int re])), (lg, .inr (0, [.ref lc, .ref lt, .int (nI k)])), (lc, .inl (cI, 36, .inl cs)), (lt, .inl (cI, 36, .inl ts)), (ob, .inl (cJ, 1, .inr (.inl ov)))] s.heap.size = A at hD hZ ⊢
  have hA : ∀ q : Nat, s.heap.size ≤ q → A q := fun q h => by rw [← hAe]; exact Or.inr h
  have hS : va_S A s.heap s.heap [] := va_S.rf
  have hl := lv_entry ([.ref h0, .int v, .int 0, .ref ob]) (n := 5) (Nat.le_of_ble_eq_true rfl)
  rw [lg_entry_eq]
  generalize (lg_sl ([.ref h0, .int v, .int 0, .ref ob]) ++ List.replicate (5 - (lg_sl ([.ref h0, .int v, .int 0, .ref ob])).length) Slot.unset).toArray = ls at hl ⊢
  have hl : lv_has ls 5 [(0, .ref h0), (1, .int v), (2, .int 0), (3, .ref ob)] := hl
  refine lv_aload_n hx hb dL_textAt_0 rfl (lv_at hl 3 rfl) ?_
  refine lv_iconst (v := 0) hx hb dL_textAt_1 (by decide) ?_
  refine lv_aload_n hx hb dL_textAt_2 rfl (lv_at hl 0 rfl) ?_
  refine lv_iload_n hx hb dL_textAt_3 rfl (lv_at hl 1 rfl) ?_
  refine lv_iload_n hx hb dL_textAt_4 rfl (lv_at hl 2 rfl) ?_
  have hPc : va_P D vwCl [(h0, .inr (3, [.ref lg, .ref fs, .ref ps, .long fa, .long fb, .int mt, .int re])), (lg, .inr (0, [.ref lc, .ref lt, .int (nI k)])), (lc, .inl (cI, 36, .inl cs)), (lt, .inl (cI, 36, .inl ts))] s.heap := hP.sub (ws' := [(h0, .inr (3, [.ref lg, .ref fs, .ref ps, .long fa, .long fb, .int mt, .int re])), (lg, .inr (0, [.ref lc, .ref lt, .int (nI k)])), (lc, .inl (cI, 36, .inl cs)), (lt, .inl (cI, 36, .inl ts))]) [0, 1, 2, 3] rfl
  have hDc : va_D A [(h0, .inr (3, [.ref lg, .ref fs, .ref ps, .long fa, .long fb, .int mt, .int re])), (lg, .inr (0, [.ref lc, .ref lt, .int (nI k)])), (lc, .inl (cI, 36, .inl cs)), (lt, .inl (cI, 36, .inl ts))] := hD.sub (ws' := [(h0, .inr (3, [.ref lg, .ref fs, .ref ps, .long fa, .long fb, .int mt, .int re])), (lg, .inr (0, [.ref lc, .ref lt, .int (nI k)])), (lc, .inl (cI, 36, .inl cs)), (lt, .inl (cI, 36, .inl ts))]) [0, 1, 2, 3] (by decide) rfl
  have hFc := va_free (wc := [(h0, .inr (3, [.ref lg, .ref fs, .ref ps, .long fa, .long fb, .int mt, .int re])), (lg, .inr (0, [.ref lc, .ref lt, .int (nI k)])), (lc, .inl (cI, 36, .inl cs)), (lt, .inl (cI, 36, .inl ts))]) hD hS hA [0, 1, 2, 3] rfl
  refine vx_calli (vx_runV (As := [.int v, .int 0]) (rest := [.int 0, .ref ob]) ⟨hx, hb, hml, hown, hts⟩ (c_X6_textAt_0 l hltr D cI cJ s.heap.size  h0 lg lc lt fs ps fa fb mt re cs ts k (by omega) v) (cwV 2 hts gL_textAt_X6_textAt rfl rfl rfl (by decide +kernel) ⟨Nat.le_of_ble_eq_true rfl, Nat.le_of_ble_eq_true rfl⟩) ⟨(px_blindX pv_blind), va_recv hK hPc (ci := 3) (q0 := 0) rfl rfl, fun U hU hW => ⟨rfl, hEX.warm hW, by rw [hU]; exact hZ.to hS hW.alike hFc, by rw [hU], by rw [hU]; exact hPc, va_K.moved hW.alike hK, hDc.weaken (fun _ _ _ _ => trivial)⟩⟩ rfl rfl hl.1 rfl (lv_room (Nat.le_of_ble_eq_true rfl)) dL_textAt_5 ⟨(Nat.le_of_ble_eq_true rfl), (Nat.le_of_ble_eq_true rfl)⟩) hS (fun q _ h => hFc q h) hFc (fun q _ h => hFc q h) (fun E ce q9 u9 t9 H1 locs hth hvm hpx hB9 hz1 hk1 hS hce hcv hcl => ?_) (fun r5 u t9 H1 locs hth hvm hw5 hB9 hz1 hk1 hS => ?_)
  · obtain ⟨hb9, hP1, hK1, hD1⟩ := hB9
    rw [hth] at hP1
    obtain ⟨hP, hD⟩ := va_join (wr := [(ob, .inl (cJ, 1, .inr (.inl ov)))]) (w1 := [(h0, .inr (3, [.ref lg, .ref fs, .ref ps, .long fa, .long fb, .int mt, .int re])), (lg, .inr (0, [.ref lc, .ref lt, .int (nI k)])), (lc, .inl (cI, 36, .inl cs)), (lt, .inl (cI, 36, .inl ts))]) hP hD [0, 1, 2, 3] [4] rfl rfl (by decide) (by decide) hk1 hFc hP1 hD1
    have hP : va_P D vwCl [(h0, .inr (3, [.ref lg, .ref fs, .ref ps, .long fa, .long fb, .int mt, .int re])), (lg, .inr (0, [.ref lc, .ref lt, .int (nI k)])), (lc, .inl (cI, 36, .inl cs)), (lt, .inl (cI, 36, .inl ts)), (ob, .inl (cJ, 1, .inr (.inl ov)))] H1 := hP.sub (ws' := [(h0, .inr (3, [.ref lg, .ref fs, .ref ps, .long fa, .long fb, .int mt, .int re])), (lg, .inr (0, [.ref lc, .ref lt, .int (nI k)])), (lc, .inl (cI, 36, .inl cs)), (lt, .inl (cI, 36, .inl ts)), (ob, .inl (cJ, 1, .inr (.inl ov)))]) [1, 2, 3, 4, 0] rfl
    have hD : va_D A [(h0, .inr (3, [.ref lg, .ref fs, .ref ps, .long fa, .long fb, .int mt, .int re])), (lg, .inr (0, [.ref lc, .ref lt, .int (nI k)])), (lc, .inl (cI, 36, .inl cs)), (lt, .inl (cI, 36, .inl ts)), (ob, .inl (cJ, 1, .inr (.inl ov)))] := hD.sub (ws' := [(h0, .inr (3, [.ref lg, .ref fs, .ref ps, .long fa, .long fb, .int mt, .int re])), (lg, .inr (0, [.ref lc, .ref lt, .int (nI k)])), (lc, .inl (cI, 36, .inl cs)), (lt, .inl (cI, 36, .inl ts)), (ob, .inl (cJ, 1, .inr (.inl ov)))]) [1, 2, 3, 4, 0] (by decide) rfl
    exact (absurd hok hb9.2)
  · try dsimp only at hw5
    obtain ⟨hP1, hK1, hD1⟩ := hB9
    rw [hth] at hP1
    obtain ⟨hP, hD⟩ := va_join (wr := [(ob, .inl (cJ, 1, .inr (.inl ov)))]) (w1 := [(h0, .inr (3, [.ref lg, .ref fs, .ref ps, .long fa, .long fb, .int mt, .int re])), (lg, .inr (0, [.ref lc, .ref lt, .int (nI k)])), (lc, .inl (cI, 36, .inl cs)), (lt, .inl (cI, 36, .inl ts))]) hP hD [0, 1, 2, 3] [4] rfl rfl (by decide) (by decide) hk1 hFc hP1 hD1
    generalize H1 = H at hP hS ⊢
    have hP : va_P D vwCl [(h0, .inr (3, [.ref lg, .ref fs, .ref ps, .long fa, .long fb, .int mt, .int re])), (lg, .inr (0, [.ref lc, .ref lt, .int (nI k)])), (lc, .inl (cI, 36, .inl cs)), (lt, .inl (cI, 36, .inl ts)), (ob, .inl (cJ, 1, .inr (.inl ov)))] H := hP.sub (ws' := [(h0, .inr (3, [.ref lg, .ref fs, .ref ps, .long fa, .long fb, .int mt, .int re])), (lg, .inr (0, [.ref lc, .ref lt, .int (nI k)])), (lc, .inl (cI, 36, .inl cs)), (lt, .inl (cI, 36, .inl ts)), (ob, .inl (cJ, 1, .inr (.inl ov)))]) [1, 2, 3, 4, 0] rfl
    have hD : va_D A [(h0, .inr (3, [.ref lg, .ref fs, .ref ps, .long fa, .long fb, .int mt, .int re])), (lg, .inr (0, [.ref lc, .ref lt, .int (nI k)])), (lc, .inl (cI, 36, .inl cs)), (lt, .inl (cI, 36, .inl ts)), (ob, .inl (cJ, 1, .inr (.inl ov)))] := hD.sub (ws' := [(h0, .inr (3, [.ref lg, .ref fs, .ref ps, .long fa, .long fb, .int mt, .int re])), (lg, .inr (0, [.ref lc, .ref lt, .int (nI k)])), (lc, .inl (cI, 36, .inl cs)), (lt, .inl (cI, 36, .inl ts)), (ob, .inl (cJ, 1, .inr (.inl ov)))]) [1, 2, 3, 4, 0] (by decide) rfl
    refine lv_i2l (v := (r5 : Int32).toInt64) hx hb dL_textAt_8 rfl ?_
    refine lv_topl (fun x8 ex8 => ?_)
    refine va_last hx hb hK hP hD hS 4 1 rfl rfl (vp_in_nI (n := 0) (N := 1) (by omega) (by decide)) dL_textAt_9 (fun H locs hP hD hS => ?_)
    have hu9 : (0 : Int32).toNatClampNeg = 0 := pk_cl 0
    rw [hu9] at hP hD
    have hP : va_P D vwCl [(h0, .inr (3, [.ref lg, .ref fs, .ref ps, .long fa, .long fb, .int mt, .int re])), (lg, .inr (0, [.ref lc, .ref lt, .int (nI k)])), (lc, .inl (cI, 36, .inl cs)), (lt, .inl (cI, 36, .inl ts)), (ob, .inl (cJ, 1, .inr (.inl (vp_updL ov 0 x8))))] H := hP
    have hD : va_D A [(h0, .inr (3, [.ref lg, .ref fs, .ref ps, .long fa, .long fb, .int mt, .int re])), (lg, .inr (0, [.ref lc, .ref lt, .int (nI k)])), (lc, .inl (cI, 36, .inl cs)), (lt, .inl (cI, 36, .inl ts)), (ob, .inl (cJ, 1, .inr (.inl (vp_updL ov 0 x8))))] := hD
    refine lv_goto (tgt := 17) hx hb dL_textAt_10 (by decide) ?_
    refine lv_iconst (v := 0) hx hb dL_textAt_17 (by decide) ?_
    obtain rfl := ex8.symm
    refine W.widen (k := 2) (n := 12) (Nat.le_of_ble_eq_true rfl) (Nat.le_of_ble_eq_true rfl) ?_
    refine W.iret (v := 0) hx hb hr (fun tt ht hW => ⟨⟨0, r5, rfl, ?_, by rw [ht]; exact hP, va_K.moved hW.alike hK, hD⟩, hS.F ht⟩) hS.2.2 dL_textAt_18
    exact ⟨rfl, hw5⟩

set_option maxHeartbeats 400000 in
set_option maxRecDepth 100000 in
theorem c_L_textAt_no0 (l : Launch) (hltr : l.stackTraces = false) (D : va_G) (cI cJ : ClassId) (sz : Nat) (h0 lg lc lt fs ps : Nat) (fa fb : Int64) (mt re : Int32) (cs ts : Nat → Int32) (k : Nat) (hk : k ≤ 36) (ob : Nat) (ov : Nat → Int64) (v : Int32) (hbad : ¬ imove k v) : Met l yL_textAt wsL_textAt ({ frames := 8, cells := 2, slots := 12, locals := 133 } : Room) (va_Pc [.ref h0, .int v, .int 0, .ref ob] (px_N (px_X (va_A [(h0, .inr (3, [.ref lg, .ref fs, .ref ps, .long fa, .long fb, .int mt, .int re])), (lg, .inr (0, [.ref lc, .ref lt, .int (nI k)])), (lc, .inl (cI, 36, .inl cs)), (lt, .inl (cI, 36, .inl ts)), (ob, .inl (cJ, 1, .inr (.inl ov)))] sz) (pv_C D cI cJ [(h0, .inr (3, [.ref lg, .ref fs, .ref ps, .long fa, .long fb, .int mt, .int re])), (lg, .inr (0, [.ref lc, .ref lt, .int (nI k)])), (lc, .inl (cI, 36, .inl cs)), (lt, .inl (cI, 36, .inl ts)), (ob, .inl (cJ, 1, .inr (.inl ov)))] sz)))) (va_Qi (fun (r : Int32) (u : Unit) => r = 1) (fun (u : Unit) => pv_B D cI cJ (va_A [(h0, .inr (3, [.ref lg, .ref fs, .ref ps, .long fa, .long fb, .int mt, .int re])), (lg, .inr (0, [.ref lc, .ref lt, .int (nI k)])), (lc, .inl (cI, 36, .inl cs)), (lt, .inl (cI, 36, .inl ts)), (ob, .inl (cJ, 1, .inr (.inl ov)))] sz) [(h0, .inr (3, [.ref lg, .ref fs, .ref ps, .long fa, .long fb, .int mt, .int re])), (lg, .inr (0, [.ref lc, .ref lt, .int (nI k)])), (lc, .inl (cI, 36, .inl cs)), (lt, .inl (cI, 36, .inl ts)), (ob, .inl (cJ, 1, .inr (.inl ov)))]) (va_A [(h0, .inr (3, [.ref lg, .ref fs, .ref ps, .long fa, .long fb, .int mt, .int re])), (lg, .inr (0, [.ref lc, .ref lt, .int (nI k)])), (lc, .inl (cI, 36, .inl cs)), (lt, .inl (cI, 36, .inl ts)), (ob, .inl (cJ, 1, .inr (.inl ov)))] sz)) 2 12 (va_A [(h0, .inr (3, [.ref lg, .ref fs, .ref ps, .long fa, .long fb, .int mt, .int re])), (lg, .inr (0, [.ref lc, .ref lt, .int (nI k)])), (lc, .inl (cI, 36, .inl cs)), (lt, .inl (cI, 36, .inl ts)), (ob, .inl (cJ, 1, .inr (.inl ov)))] sz) := by
  refine va_MetW (cc := cL_textAt) (maxL := 5) (ret := (some .int)) (hh := [(0, 10, 13, 13)]) (by decide) rfl ?_
  intro p e s m args below meth c s₁ B hml hv
  obtain ⟨rfl, hNC, hEN, hEX, hZ, rfl, hP, hK, hD0⟩ := hv
  have hx := B.exec
  have hb := B.bytes
  have hr := B.returns
  have hts := atoms_spec (ws := wsL_textAt) B.pre
  have hown : s.vm.findClass RL = some m.cls := findClass_of_methodNamed B.named
  have hlocks := B.notSynchronized
  have htb := vx_table (x := yL_textAt) B (hts _ (List.mem_of_getElem? (i := 0) rfl))
  have hD := hD0.self (sz := s.heap.size)
  generalize hAe : va_A [(h0, .inr (3, [.ref lg, .ref fs, .ref ps, .long fa, .long fb, .int mt, .int re])), (lg, .inr (0, [.ref lc, .ref lt, .int (nI k)])), (lc, .inl (cI, 36, .inl cs)), (lt, .inl (cI, 36, .inl ts)), (ob, .inl (cJ, 1, .inr (.inl ov)))] s.heap.size = A at hD hZ ⊢
  have hA : ∀ q : Nat, s.heap.size ≤ q → A q := fun q h => by rw [← hAe]; exact Or.inr h
  have hS : va_S A s.heap s.heap [] := va_S.rf
  have hl := lv_entry ([.ref h0, .int v, .int 0, .ref ob]) (n := 5) (Nat.le_of_ble_eq_true rfl)
  rw [lg_entry_eq]
  generalize (lg_sl ([.ref h0, .int v, .int 0, .ref ob]) ++ List.replicate (5 - (lg_sl ([.ref h0, .int v, .int 0, .ref ob])).length) Slot.unset).toArray = ls at hl ⊢
  have hl : lv_has ls 5 [(0, .ref h0), (1, .int v), (2, .int 0), (3, .ref ob)] := hl
  refine lv_aload_n hx hb dL_textAt_0 rfl (lv_at hl 3 rfl) ?_
  refine lv_iconst (v := 0) hx hb dL_textAt_1 (by decide) ?_
  refine lv_aload_n hx hb dL_textAt_2 rfl (lv_at hl 0 rfl) ?_
  refine lv_iload_n hx hb dL_textAt_3 rfl (lv_at hl 1 rfl) ?_
  refine lv_iload_n hx hb dL_textAt_4 rfl (lv_at hl 2 rfl) ?_
  have hPc : va_P D vwCl [(h0, .inr (3, [.ref lg, .ref fs, .ref ps, .long fa, .long fb, .int mt, .int re])), (lg, .inr (0, [.ref lc, .ref lt, .int (nI k)])), (lc, .inl (cI, 36, .inl cs)), (lt, .inl (cI, 36, .inl ts))] s.heap := hP.sub (ws' := [(h0, .inr (3, [.ref lg, .ref fs, .ref ps, .long fa, .long fb, .int mt, .int re])), (lg, .inr (0, [.ref lc, .ref lt, .int (nI k)])), (lc, .inl (cI, 36, .inl cs)), (lt, .inl (cI, 36, .inl ts))]) [0, 1, 2, 3] rfl
  have hDc : va_D A [(h0, .inr (3, [.ref lg, .ref fs, .ref ps, .long fa, .long fb, .int mt, .int re])), (lg, .inr (0, [.ref lc, .ref lt, .int (nI k)])), (lc, .inl (cI, 36, .inl cs)), (lt, .inl (cI, 36, .inl ts))] := hD.sub (ws' := [(h0, .inr (3, [.ref lg, .ref fs, .ref ps, .long fa, .long fb, .int mt, .int re])), (lg, .inr (0, [.ref lc, .ref lt, .int (nI k)])), (lc, .inl (cI, 36, .inl cs)), (lt, .inl (cI, 36, .inl ts))]) [0, 1, 2, 3] (by decide) rfl
  have hFc := va_free (wc := [(h0, .inr (3, [.ref lg, .ref fs, .ref ps, .long fa, .long fb, .int mt, .int re])), (lg, .inr (0, [.ref lc, .ref lt, .int (nI k)])), (lc, .inl (cI, 36, .inl cs)), (lt, .inl (cI, 36, .inl ts))]) hD hS hA [0, 1, 2, 3] rfl
  refine vx_calli (vx_runV (As := [.int v, .int 0]) (rest := [.int 0, .ref ob]) ⟨hx, hb, hml, hown, hts⟩ (c_X6_textAt_0 l hltr D cI cJ s.heap.size  h0 lg lc lt fs ps fa fb mt re cs ts k (by omega) v) (cwV 2 hts gL_textAt_X6_textAt rfl rfl rfl (by decide +kernel) ⟨Nat.le_of_ble_eq_true rfl, Nat.le_of_ble_eq_true rfl⟩) ⟨(px_blindX pv_blind), va_recv hK hPc (ci := 3) (q0 := 0) rfl rfl, fun U hU hW => ⟨rfl, hEX.warm hW, by rw [hU]; exact hZ.to hS hW.alike hFc, by rw [hU], by rw [hU]; exact hPc, va_K.moved hW.alike hK, hDc.weaken (fun _ _ _ _ => trivial)⟩⟩ rfl rfl hl.1 rfl (lv_room (Nat.le_of_ble_eq_true rfl)) dL_textAt_5 ⟨(Nat.le_of_ble_eq_true rfl), (Nat.le_of_ble_eq_true rfl)⟩) hS (fun q _ h => hFc q h) hFc (fun q _ h => hFc q h) (fun E ce q9 u9 t9 H1 locs hth hvm hpx hB9 hz1 hk1 hS hce hcv hcl => ?_) (fun r5 u t9 H1 locs hth hvm hw5 hB9 hz1 hk1 hS => ?_)
  · obtain ⟨hb9, hP1, hK1, hD1⟩ := hB9
    rw [hth] at hP1
    obtain ⟨hP, hD⟩ := va_join (wr := [(ob, .inl (cJ, 1, .inr (.inl ov)))]) (w1 := [(h0, .inr (3, [.ref lg, .ref fs, .ref ps, .long fa, .long fb, .int mt, .int re])), (lg, .inr (0, [.ref lc, .ref lt, .int (nI k)])), (lc, .inl (cI, 36, .inl cs)), (lt, .inl (cI, 36, .inl ts))]) hP hD [0, 1, 2, 3] [4] rfl rfl (by decide) (by decide) hk1 hFc hP1 hD1
    have hP : va_P D vwCl [(h0, .inr (3, [.ref lg, .ref fs, .ref ps, .long fa, .long fb, .int mt, .int re])), (lg, .inr (0, [.ref lc, .ref lt, .int (nI k)])), (lc, .inl (cI, 36, .inl cs)), (lt, .inl (cI, 36, .inl ts)), (ob, .inl (cJ, 1, .inr (.inl ov)))] H1 := hP.sub (ws' := [(h0, .inr (3, [.ref lg, .ref fs, .ref ps, .long fa, .long fb, .int mt, .int re])), (lg, .inr (0, [.ref lc, .ref lt, .int (nI k)])), (lc, .inl (cI, 36, .inl cs)), (lt, .inl (cI, 36, .inl ts)), (ob, .inl (cJ, 1, .inr (.inl ov)))]) [1, 2, 3, 4, 0] rfl
    have hD : va_D A [(h0, .inr (3, [.ref lg, .ref fs, .ref ps, .long fa, .long fb, .int mt, .int re])), (lg, .inr (0, [.ref lc, .ref lt, .int (nI k)])), (lc, .inl (cI, 36, .inl cs)), (lt, .inl (cI, 36, .inl ts)), (ob, .inl (cJ, 1, .inr (.inl ov)))] := hD.sub (ws' := [(h0, .inr (3, [.ref lg, .ref fs, .ref ps, .long fa, .long fb, .int mt, .int re])), (lg, .inr (0, [.ref lc, .ref lt, .int (nI k)])), (lc, .inl (cI, 36, .inl cs)), (lt, .inl (cI, 36, .inl ts)), (ob, .inl (cJ, 1, .inr (.inl ov)))]) [1, 2, 3, 4, 0] (by decide) rfl
    obtain rfl : E = nIOB := hb9.1
    refine vx_catch (own := RL) (name := nIOB) hown [] ⟨0, 10, 13, 13⟩ [] (htb.trans rfl) (fun z hz => nomatch hz) (by decide) (by decide) (hts (.classLink RL 13 nIOB) (by decide +kernel)) (va_Nw.use rfl hEX.2.1) hce hcv hcl ?_
    refine lv_astore (lv' := [(4, .ref q9), (0, .ref h0), (1, .int v), (2, .int 0), (3, .ref ob)]) hx hb dL_textAt_13 hl (by decide) rfl (fun ls hl => ?_)
    refine lv_iconst (v := 1) hx hb dL_textAt_15 (by decide) ?_
    refine W.widen (k := 2) (n := 12) (Nat.le_of_ble_eq_true rfl) (Nat.le_of_ble_eq_true rfl) ?_
    refine W.iret (v := 1) hx hb hr (fun tt ht hW => ⟨⟨1, (), rfl, ?_, by rw [ht]; exact hP, va_K.moved hW.alike hK, hD⟩, hS.F ht⟩) hS.2.2 dL_textAt_16
    exact rfl
  · try dsimp only at hw5
    obtain ⟨j, h1, h2, _⟩ := hw5; exact absurd (show imove k v from by rw [h2]; exact mv_in h1 hk) hbad

set_option maxHeartbeats 400000 in
set_option maxRecDepth 100000 in
theorem c_L_textAt_ok1 (l : Launch) (hltr : l.stackTraces = false) (D : va_G) (cI cJ : ClassId) (sz : Nat) (h0 lg lc lt fs ps : Nat) (fa fb : Int64) (mt re : Int32) (cs ts : Nat → Int32) (k : Nat) (hk : k ≤ 36) (ob : Nat) (ov : Nat → Int64) (v : Int32) (hok : imove k v) : Met l yL_textAt wsL_textAt ({ frames := 8, cells := 2, slots := 12, locals := 133 } : Room) (va_Pc [.ref h0, .int v, .int 1, .ref ob] (px_N (px_X (va_A [(h0, .inr (3, [.ref lg, .ref fs, .ref ps, .long fa, .long fb, .int mt, .int re])), (lg, .inr (0, [.ref lc, .ref lt, .int (nI k)])), (lc, .inl (cI, 36, .inl cs)), (lt, .inl (cI, 36, .inl ts)), (ob, .inl (cJ, 1, .inr (.inl ov)))] sz) (pv_C D cI cJ [(h0, .inr (3, [.ref lg, .ref fs, .ref ps, .long fa, .long fb, .int mt, .int re])), (lg, .inr (0, [.ref lc, .ref lt, .int (nI k)])), (lc, .inl (cI, 36, .inl cs)), (lt, .inl (cI, 36, .inl ts)), (ob, .inl (cJ, 1, .inr (.inl ov)))] sz)))) (va_Qi (fun (r : Int32) (u : (Int32)) => r = 0 ∧ (∃ j, j < k ∧ v = nI j ∧ u = ji2c (49 + cs j / 6))) (fun (u : (Int32)) => pv_B D cI cJ (va_A [(h0, .inr (3, [.ref lg, .ref fs, .ref ps, .long fa, .long fb, .int mt, .int re])), (lg, .inr (0, [.ref lc, .ref lt, .int (nI k)])), (lc, .inl (cI, 36, .inl cs)), (lt, .inl (cI, 36, .inl ts)), (ob, .inl (cJ, 1, .inr (.inl ov)))] sz) [(h0, .inr (3, [.ref lg, .ref fs, .ref ps, .long fa, .long fb, .int mt, .int re])), (lg, .inr (0, [.ref lc, .ref lt, .int (nI k)])), (lc, .inl (cI, 36, .inl cs)), (lt, .inl (cI, 36, .inl ts)), (ob, .inl (cJ, 1, .inr (.inl (vp_updL ov 0 (u).toInt64))))]) (va_A [(h0, .inr (3, [.ref lg, .ref fs, .ref ps, .long fa, .long fb, .int mt, .int re])), (lg, .inr (0, [.ref lc, .ref lt, .int (nI k)])), (lc, .inl (cI, 36, .inl cs)), (lt, .inl (cI, 36, .inl ts)), (ob, .inl (cJ, 1, .inr (.inl ov)))] sz)) 2 12 (va_A [(h0, .inr (3, [.ref lg, .ref fs, .ref ps, .long fa, .long fb, .int mt, .int re])), (lg, .inr (0, [.ref lc, .ref lt, .int (nI k)])), (lc, .inl (cI, 36, .inl cs)), (lt, .inl (cI, 36, .inl ts)), (ob, .inl (cJ, 1, .inr (.inl ov)))] sz) := by
  refine va_MetW (cc := cL_textAt) (maxL := 5) (ret := (some .int)) (hh := [(0, 10, 13, 13)]) (by decide) rfl ?_
  intro p e s m args below meth c s₁ B hml hv
  obtain ⟨rfl, hNC, hEN, hEX, hZ, rfl, hP, hK, hD0⟩ := hv
  have hx := B.exec
  have hb := B.bytes
  have hr := B.returns
  have hts := atoms_spec (ws := wsL_textAt) B.pre
  have hown : s.vm.findClass RL = some m.cls := findClass_of_methodNamed B.named
  have hlocks := B.notSynchronized
  have htb := vx_table (x := yL_textAt) B (hts _ (List.mem_of_getElem? (i := 0) rfl))
  have hD := hD0.self (sz := s.heap.size)
  generalize hAe : va_A [(h0, .inr (3, [.ref lg, .ref fs, .ref ps, .long fa, .long fb, .int mt, .int re])), (lg, .inr (0, [.ref lc, .ref lt, .int (nI k)])), (lc, .inl (cI, 36, .inl cs)), (lt, .inl (cI, 36, .inl ts)), (ob, .inl (cJ, 1, .inr (.inl ov)))] s.heap.size = A at hD hZ ⊢
  have hA : ∀ q : Nat, s.heap.size ≤ q → A q := fun q h => by rw [← hAe]; exact Or.inr h
  have hS : va_S A s.heap s.heap [] := va_S.rf
  have hl := lv_entry ([.ref h0, .int v, .int 1, .ref ob]) (n := 5) (Nat.le_of_ble_eq_true rfl)
  rw [lg_entry_eq]
  generalize (lg_sl ([.ref h0, .int v, .int 1, .ref ob]) ++ List.replicate (5 - (lg_sl ([.ref h0, .int v, .int 1, .ref ob])).length) Slot.unset).toArray = ls at hl ⊢
  have hl : lv_has ls 5 [(0, .ref h0), (1, .int v), (2, .int 1), (3, .ref ob)] := hl
  refine lv_aload_n hx hb dL_textAt_0 rfl (lv_at hl 3 rfl) ?_
  refine lv_iconst (v := 0) hx hb dL_textAt_1 (by decide) ?_
  refine lv_aload_n hx hb dL_textAt_2 rfl (lv_at hl 0 rfl) ?_
  refine lv_iload_n hx hb dL_textAt_3 rfl (lv_at hl 1 rfl) ?_
  refine lv_iload_n hx hb dL_textAt_4 rfl (lv_at hl 2 rfl) ?_
  have hPc : va_P D vwCl [(h0, .inr (3, [.ref lg, .ref fs, .ref ps, .long fa, .long fb, .int mt, .int re])), (lg, .inr (0, [.ref lc, .ref lt, .int (nI k)])), (lc, .inl (cI, 36, .inl cs)), (lt, .inl (cI, 36, .inl ts))] s.heap := hP.sub (ws' := [(h0, .inr (3, [.ref lg, .ref fs, .ref ps, .long fa, .long fb, .int mt, .int re])), (lg, .inr (0, [.ref lc, .ref lt, .int (nI k)])), (lc, .inl (cI, 36, .inl cs)), (lt, .inl (cI, 36, .inl ts))]) [0, 1, 2, 3] rfl
  have hDc : va_D A [(h0, .inr (3, [.ref lg, .ref fs, .ref ps, .long fa, .long fb, .int mt, .int re])), (lg, .inr (0, [.ref lc, .ref lt, .int (nI k)])), (lc, .inl (cI, 36, .inl cs)), (lt, .inl (cI, 36, .inl ts))] := hD.sub (ws' := [(h0, .inr (3, [.ref lg, .ref fs, .ref ps, .long fa, .long fb, .int mt, .int re])), (lg, .inr (0, [.ref lc, .ref lt, .int (nI k)])), (lc, .inl (cI, 36, .inl cs)), (lt, .inl (cI, 36, .inl ts))]) [0, 1, 2, 3] (by decide) rfl
  have hFc := va_free (wc := [(h0, .inr (3, [.ref lg, .ref fs, .ref ps, .long fa, .long fb, .int mt, .int re])), (lg, .inr (0, [.ref lc, .ref lt, .int (nI k)])), (lc, .inl (cI, 36, .inl cs)), (lt, .inl (cI, 36, .inl ts))]) hD hS hA [0, 1, 2, 3] rfl
  refine vx_calli (vx_runV (As := [.int v, .int 1]) (rest := [.int 0, .ref ob]) ⟨hx, hb, hml, hown, hts⟩ (c_X6_textAt_1 l hltr D cI cJ s.heap.size  h0 lg lc lt fs ps fa fb mt re cs ts k (by omega) v) (cwV 2 hts gL_textAt_X6_textAt rfl rfl rfl (by decide +kernel) ⟨Nat.le_of_ble_eq_true rfl, Nat.le_of_ble_eq_true rfl⟩) ⟨(px_blindX pv_blind), va_recv hK hPc (ci := 3) (q0 := 0) rfl rfl, fun U hU hW => ⟨rfl, hEX.warm hW, by rw [hU]; exact hZ.to hS hW.alike hFc, by rw [hU], by rw [hU]; exact hPc, va_K.moved hW.alike hK, hDc.weaken (fun _ _ _ _ => trivial)⟩⟩ rfl rfl hl.1 rfl (lv_room (Nat.le_of_ble_eq_true rfl)) dL_textAt_5 ⟨(Nat.le_of_ble_eq_true rfl), (Nat.le_of_ble_eq_true rfl)⟩) hS (fun q _ h => hFc q h) hFc (fun q _ h => hFc q h) (fun E ce q9 u9 t9 H1 locs hth hvm hpx hB9 hz1 hk1 hS hce hcv hcl => ?_) (fun r5 u t9 H1 locs hth hvm hw5 hB9 hz1 hk1 hS => ?_)
  · obtain ⟨hb9, hP1, hK1, hD1⟩ := hB9
    rw [hth] at hP1
    obtain ⟨hP, hD⟩ := va_join (wr := [(ob, .inl (cJ, 1, .inr (.inl ov)))]) (w1 := [(h0, .inr (3, [.ref lg, .ref fs, .ref ps, .long fa, .long fb, .int mt, .int re])), (lg, .inr (0, [.ref lc, .ref lt, .int (nI k)])), (lc, .inl (cI, 36, .inl cs)), (lt, .inl (cI, 36, .inl ts))]) hP hD [0, 1, 2, 3] [4] rfl rfl (by decide) (by decide) hk1 hFc hP1 hD1
    have hP : va_P D vwCl [(h0, .inr (3, [.ref lg, .ref fs, .ref ps, .long fa, .long fb, .int mt, .int re])), (lg, .inr (0, [.ref lc, .ref lt, .int (nI k)])), (lc, .inl (cI, 36, .inl cs)), (lt, .inl (cI, 36, .inl ts)), (ob, .inl (cJ, 1, .inr (.inl ov)))] H1 := hP.sub (ws' := [(h0, .inr (3, [.ref lg, .ref fs, .ref ps, .long fa, .long fb, .int mt, .int re])), (lg, .inr (0, [.ref lc, .ref lt, .int (nI k)])), (lc, .inl (cI, 36, .inl cs)), (lt, .inl (cI, 36, .inl ts)), (ob, .inl (cJ, 1, .inr (.inl ov)))]) [1, 2, 3, 4, 0] rfl
    have hD : va_D A [(h0, .inr (3, [.ref lg, .ref fs, .ref ps, .long fa, .long fb, .int mt, .int re])), (lg, .inr (0, [.ref lc, .ref lt, .int (nI k)])), (lc, .inl (cI, 36, .inl cs)), (lt, .inl (cI, 36, .inl ts)), (ob, .inl (cJ, 1, .inr (.inl ov)))] := hD.sub (ws' := [(h0, .inr (3, [.ref lg, .ref fs, .ref ps, .long fa, .long fb, .int mt, .int re])), (lg, .inr (0, [.ref lc, .ref lt, .int (nI k)])), (lc, .inl (cI, 36, .inl cs)), (lt, .inl (cI, 36, .inl ts)), (ob, .inl (cJ, 1, .inr (.inl ov)))]) [1, 2, 3, 4, 0] (by decide) rfl
    exact (absurd hok hb9.2)
  · try dsimp only at hw5
    obtain ⟨hP1, hK1, hD1⟩ := hB9
    rw [hth] at hP1
    obtain ⟨hP, hD⟩ := va_join (wr := [(ob, .inl (cJ, 1, .inr (.inl ov)))]) (w1 := [(h0, .inr (3, [.ref lg, .ref fs, .ref ps, .long fa, .long fb, .int mt, .int re])), (lg, .inr (0, [.ref lc, .ref lt, .int (nI k)])), (lc, .inl (cI, 36, .inl cs)), (lt, .inl (cI, 36, .inl ts))]) hP hD [0, 1, 2, 3] [4] rfl rfl (by decide) (by decide) hk1 hFc hP1 hD1
    generalize H1 = H at hP hS ⊢
    have hP : va_P D vwCl [(h0, .inr (3, [.ref lg, .ref fs, .ref ps, .long fa, .long fb, .int mt, .int re])), (lg, .inr (0, [.ref lc, .ref lt, .int (nI k)])), (lc, .inl (cI, 36, .inl cs)), (lt, .inl (cI, 36, .inl ts)), (ob, .inl (cJ, 1, .inr (.inl ov)))] H := hP.sub (ws' := [(h0, .inr (3, [.ref lg, .ref fs, .ref ps, .long fa, .long fb, .int mt, .int re])), (lg, .inr (0, [.ref lc, .ref lt, .int (nI k)])), (lc, .inl (cI, 36, .inl cs)), (lt, .inl (cI, 36, .inl ts)), (ob, .inl (cJ, 1, .inr (.inl ov)))]) [1, 2, 3, 4, 0] rfl
    have hD : va_D A [(h0, .inr (3, [.ref lg, .ref fs, .ref ps, .long fa, .long fb, .int mt, .int re])), (lg, .inr (0, [.ref lc, .ref lt, .int (nI k)])), (lc, .inl (cI, 36, .inl cs)), (lt, .inl (cI, 36, .inl ts)), (ob, .inl (cJ, 1, .inr (.inl ov)))] := hD.sub (ws' := [(h0, .inr (3, [.ref lg, .ref fs, .ref ps, .long fa, .long fb, .int mt, .int re])), (lg, .inr (0, [.ref lc, .ref lt, .int (nI k)])), (lc, .inl (cI, 36, .inl cs)), (lt, .inl (cI, 36, .inl ts)), (ob, .inl (cJ, 1, .inr (.inl ov)))]) [1, 2, 3, 4, 0] (by decide) rfl
    refine lv_i2l (v := (r5 : Int32).toInt64) hx hb dL_textAt_8 rfl ?_
    refine lv_topl (fun x8 ex8 => ?_)
    refine va_last hx hb hK hP hD hS 4 1 rfl rfl (vp_in_nI (n := 0) (N := 1) (by omega) (by decide)) dL_textAt_9 (fun H locs hP hD hS => ?_)
    have hu9 : (0 : Int32).toNatClampNeg = 0 := pk_cl 0
    rw [hu9] at hP hD
    have hP : va_P D vwCl [(h0, .inr (3, [.ref lg, .ref fs, .ref ps, .long fa, .long fb, .int mt, .int re])), (lg, .inr (0, [.ref lc, .ref lt, .int (nI k)])), (lc, .inl (cI, 36, .inl cs)), (lt, .inl (cI, 36, .inl ts)), (ob, .inl (cJ, 1, .inr (.inl (vp_updL ov 0 x8))))] H := hP
    have hD : va_D A [(h0, .inr (3, [.ref lg, .ref fs, .ref ps, .long fa, .long fb, .int mt, .int re])), (lg, .inr (0, [.ref lc, .ref lt, .int (nI k)])), (lc, .inl (cI, 36, .inl cs)), (lt, .inl (cI, 36, .inl ts)), (ob, .inl (cJ, 1, .inr (.inl (vp_updL ov 0 x8))))] := hD
    refine lv_goto (tgt := 17) hx hb dL_textAt_10 (by decide) ?_
    refine lv_iconst (v := 0) hx hb dL_textAt_17 (by decide) ?_
    obtain rfl := ex8.symm
    refine W.widen (k := 2) (n := 12) (Nat.le_of_ble_eq_true rfl) (Nat.le_of_ble_eq_true rfl) ?_
    refine W.iret (v := 0) hx hb hr (fun tt ht hW => ⟨⟨0, r5, rfl, ?_, by rw [ht]; exact hP, va_K.moved hW.alike hK, hD⟩, hS.F ht⟩) hS.2.2 dL_textAt_18
    exact ⟨rfl, hw5⟩

set_option maxHeartbeats 400000 in
set_option maxRecDepth 100000 in
theorem c_L_textAt_no1 (l : Launch) (hltr : l.stackTraces = false) (D : va_G) (cI cJ : ClassId) (sz : Nat) (h0 lg lc lt fs ps : Nat) (fa fb : Int64) (mt re : Int32) (cs ts : Nat → Int32) (k : Nat) (hk : k ≤ 36) (ob : Nat) (ov : Nat → Int64) (v : Int32) (hbad : ¬ imove k v) : Met l yL_textAt wsL_textAt ({ frames := 8, cells := 2, slots := 12, locals := 133 } : Room) (va_Pc [.ref h0, .int v, .int 1, .ref ob] (px_N (px_X (va_A [(h0, .inr (3, [.ref lg, .ref fs, .ref ps, .long fa, .long fb, .int mt, .int re])), (lg, .inr (0, [.ref lc, .ref lt, .int (nI k)])), (lc, .inl (cI, 36, .inl cs)), (lt, .inl (cI, 36, .inl ts)), (ob, .inl (cJ, 1, .inr (.inl ov)))] sz) (pv_C D cI cJ [(h0, .inr (3, [.ref lg, .ref fs, .ref ps, .long fa, .long fb, .int mt, .int re])), (lg, .inr (0, [.ref lc, .ref lt, .int (nI k)])), (lc, .inl (cI, 36, .inl cs)), (lt, .inl (cI, 36, .inl ts)), (ob, .inl (cJ, 1, .inr (.inl ov)))] sz)))) (va_Qi (fun (r : Int32) (u : Unit) => r = 1) (fun (u : Unit) => pv_B D cI cJ (va_A [(h0, .inr (3, [.ref lg, .ref fs, .ref ps, .long fa, .long fb, .int mt, .int re])), (lg, .inr (0, [.ref lc, .ref lt, .int (nI k)])), (lc, .inl (cI, 36, .inl cs)), (lt, .inl (cI, 36, .inl ts)), (ob, .inl (cJ, 1, .inr (.inl ov)))] sz) [(h0, .inr (3, [.ref lg, .ref fs, .ref ps, .long fa, .long fb, .int mt, .int re])), (lg, .inr (0, [.ref lc, .ref lt, .int (nI k)])), (lc, .inl (cI, 36, .inl cs)), (lt, .inl (cI, 36, .inl ts)), (ob, .inl (cJ, 1, .inr (.inl ov)))]) (va_A [(h0, .inr (3, [.ref lg, .ref fs, .ref ps, .long fa, .long fb, .int mt, .int re])), (lg, .inr (0, [.ref lc, .ref lt, .int (nI k)])), (lc, .inl (cI, 36, .inl cs)), (lt, .inl (cI, 36, .inl ts)), (ob, .inl (cJ, 1, .inr (.inl ov)))] sz)) 2 12 (va_A [(h0, .inr (3, [.ref lg, .ref fs, .ref ps, .long fa, .long fb, .int mt, .int re])), (lg, .inr (0, [.ref lc, .ref lt, .int (nI k)])), (lc, .inl (cI, 36, .inl cs)), (lt, .inl (cI, 36, .inl ts)), (ob, .inl (cJ, 1, .inr (.inl ov)))] sz) := by
  refine va_MetW (cc := cL_textAt) (maxL := 5) (ret := (some .int)) (hh := [(0, 10, 13, 13)]) (by decide) rfl ?_
  intro p e s m args below meth c s₁ B hml hv
  obtain ⟨rfl, hNC, hEN, hEX, hZ, rfl, hP, hK, hD0⟩ := hv
  have hx := B.exec
  have hb := B.bytes
  have hr := B.returns
  have hts := atoms_spec (ws := wsL_textAt) B.pre
  have hown : s.vm.findClass RL = some m.cls := findClass_of_methodNamed B.named
  have hlocks := B.notSynchronized
  have htb := vx_table (x := yL_textAt) B (hts _ (List.mem_of_getElem? (i := 0) rfl))
  have hD := hD0.self (sz := s.heap.size)
  generalize hAe : va_A [(h0, .inr (3, [.ref lg, .ref fs, .ref ps, .long fa, .long fb, .int mt, .int re])), (lg, .inr (0, [.ref lc, .ref lt, .int (nI k)])), (lc, .inl (cI, 36, .inl cs)), (lt, .inl (cI, 36, .inl ts)), (ob, .inl (cJ, 1, .inr (.inl ov)))] s.heap.size = A at hD hZ ⊢
  have hA : ∀ q : Nat, s.heap.size ≤ q → A q := fun q h => by rw [← hAe]; exact Or.inr h
  have hS : va_S A s.heap s.heap [] := va_S.rf
  have hl := lv_entry ([.ref h0, .int v, .int 1, .ref ob]) (n := 5) (Nat.le_of_ble_eq_true rfl)
  rw [lg_entry_eq]
  generalize (lg_sl ([.ref h0, .int v, .int 1, .ref ob]) ++ List.replicate (5 - (lg_sl ([.ref h0, .int v, .int 1, .ref ob])).length) Slot.unset).toArray = ls at hl ⊢
  have hl : lv_has ls 5 [(0, .ref h0), (1, .int v), (2, .int 1), (3, .ref ob)] := hl
  refine lv_aload_n hx hb dL_textAt_0 rfl (lv_at hl 3 rfl) ?_
  refine lv_iconst (v := 0) hx hb dL_textAt_1 (by decide) ?_
  refine lv_aload_n hx hb dL_textAt_2 rfl (lv_at hl 0 rfl) ?_
  refine lv_iload_n hx hb dL_textAt_3 rfl (lv_at hl 1 rfl) ?_
  refine lv_iload_n hx hb dL_textAt_4 rfl (lv_at hl 2 rfl) ?_
  have hPc : va_P D vwCl [(h0, .inr (3, [.ref lg, .ref fs, .ref ps, .long fa, .long fb, .int mt, .int re])), (lg, .inr (0, [.ref lc, .ref lt, .int (nI k)])), (lc, .inl (cI, 36, .inl cs)), (lt, .inl (cI, 36, .inl ts))] s.heap := hP.sub (ws' := [(h0, .inr (3, [.ref lg, .ref fs, .ref ps, .long fa, .long fb, .int mt, .int re])), (lg, .inr (0, [.ref lc, .ref lt, .int (nI k)])), (lc, .inl (cI, 36, .inl cs)), (lt, .inl (cI, 36, .inl ts))]) [0, 1, 2, 3] rfl
  have hDc : va_D A [(h0, .inr (3, [.ref lg, .ref fs, .ref ps, .long fa, .long fb, .int mt, .int re])), (lg, .inr (0, [.ref lc, .ref lt, .int (nI k)])), (lc, .inl (cI, 36, .inl cs)), (lt, .inl (cI, 36, .inl ts))] := hD.sub (ws' := [(h0, .inr (3, [.ref lg, .ref fs, .ref ps, .long fa, .long fb, .int mt, .int re])), (lg, .inr (0, [.ref lc, .ref lt, .int (nI k)])), (lc, .inl (cI, 36, .inl cs)), (lt, .inl (cI, 36, .inl ts))]) [0, 1, 2, 3] (by decide) rfl
  have hFc := va_free (wc := [(h0, .inr (3, [.ref lg, .ref fs, .ref ps, .long fa, .long fb, .int mt, .int re])), (lg, .inr (0, [.ref lc, .ref lt, .int (nI k)])), (lc, .inl (cI, 36, .inl cs)), (lt, .inl (cI, 36, .inl ts))]) hD hS hA [0, 1, 2, 3] rfl
  refine vx_calli (vx_runV (As := [.int v, .int 1]) (rest := [.int 0, .ref ob]) ⟨hx, hb, hml, hown, hts⟩ (c_X6_textAt_1 l hltr D cI cJ s.heap.size  h0 lg lc lt fs ps fa fb mt re cs ts k (by omega) v) (cwV 2 hts gL_textAt_X6_textAt rfl rfl rfl (by decide +kernel) ⟨Nat.le_of_ble_eq_true rfl, Nat.le_of_ble_eq_true rfl⟩) ⟨(px_blindX pv_blind), va_recv hK hPc (ci := 3) (q0 := 0) rfl rfl, fun U hU hW => ⟨rfl, hEX.warm hW, by rw [hU]; exact hZ.to hS hW.alike hFc, by rw [hU], by rw [hU]; exact hPc, va_K.moved hW.alike hK, hDc.weaken (fun _ _ _ _ => trivial)⟩⟩ rfl rfl hl.1 rfl (lv_room (Nat.le_of_ble_eq_true rfl)) dL_textAt_5 ⟨(Nat.le_of_ble_eq_true rfl), (Nat.le_of_ble_eq_true rfl)⟩) hS (fun q _ h => hFc q h) hFc (fun q _ h => hFc q h) (fun E ce q9 u9 t9 H1 locs hth hvm hpx hB9 hz1 hk1 hS hce hcv hcl => ?_) (fun r5 u t9 H1 locs hth hvm hw5 hB9 hz1 hk1 hS => ?_)
  · obtain ⟨hb9, hP1, hK1, hD1⟩ := hB9
    rw [hth] at hP1
    obtain ⟨hP, hD⟩ := va_join (wr := [(ob, .inl (cJ, 1, .inr (.inl ov)))]) (w1 := [(h0, .inr (3, [.ref lg, .ref fs, .ref ps, .long fa, .long fb, .int mt, .int re])), (lg, .inr (0, [.ref lc, .ref lt, .int (nI k)])), (lc, .inl (cI, 36, .inl cs)), (lt, .inl (cI, 36, .inl ts))]) hP hD [0, 1, 2, 3] [4] rfl rfl (by decide) (by decide) hk1 hFc hP1 hD1
    have hP : va_P D vwCl [(h0, .inr (3, [.ref lg, .ref fs, .ref ps, .long fa, .long fb, .int mt, .int re])), (lg, .inr (0, [.ref lc, .ref lt, .int (nI k)])), (lc, .inl (cI, 36, .inl cs)), (lt, .inl (cI, 36, .inl ts)), (ob, .inl (cJ, 1, .inr (.inl ov)))] H1 := hP.sub (ws' := [(h0, .inr (3, [.ref lg, .ref fs, .ref ps, .long fa, .long fb, .int mt, .int re])), (lg, .inr (0, [.ref lc, .ref lt, .int (nI k)])), (lc, .inl (cI, 36, .inl cs)), (lt, .inl (cI, 36, .inl ts)), (ob, .inl (cJ, 1, .inr (.inl ov)))]) [1, 2, 3, 4, 0] rfl
    have hD : va_D A [(h0, .inr (3, [.ref lg, .ref fs, .ref ps, .long fa, .long fb, .int mt, .int re])), (lg, .inr (0, [.ref lc, .ref lt, .int (nI k)])), (lc, .inl (cI, 36, .inl cs)), (lt, .inl (cI, 36, .inl ts)), (ob, .inl (cJ, 1, .inr (.inl ov)))] := hD.sub (ws' := [(h0, .inr (3, [.ref lg, .ref fs, .ref ps, .long fa, .long fb, .int mt, .int re])), (lg, .inr (0, [.ref lc, .ref lt, .int (nI k)])), (lc, .inl (cI, 36, .inl cs)), (lt, .inl (cI, 36, .inl ts)), (ob, .inl (cJ, 1, .inr (.inl ov)))]) [1, 2, 3, 4, 0] (by decide) rfl
    obtain rfl : E = nIOB := hb9.1
    refine vx_catch (own := RL) (name := nIOB) hown [] ⟨0, 10, 13, 13⟩ [] (htb.trans rfl) (fun z hz => nomatch hz) (by decide) (by decide) (hts (.classLink RL 13 nIOB) (by decide +kernel)) (va_Nw.use rfl hEX.2.1) hce hcv hcl ?_
    refine lv_astore (lv' := [(4, .ref q9), (0, .ref h0), (1, .int v), (2, .int 1), (3, .ref ob)]) hx hb dL_textAt_13 hl (by decide) rfl (fun ls hl => ?_)
    refine lv_iconst (v := 1) hx hb dL_textAt_15 (by decide) ?_
    refine W.widen (k := 2) (n := 12) (Nat.le_of_ble_eq_true rfl) (Nat.le_of_ble_eq_true rfl) ?_
    refine W.iret (v := 1) hx hb hr (fun tt ht hW => ⟨⟨1, (), rfl, ?_, by rw [ht]; exact hP, va_K.moved hW.alike hK, hD⟩, hS.F ht⟩) hS.2.2 dL_textAt_16
    exact rfl
  · try dsimp only at hw5
    obtain ⟨j, h1, h2, _⟩ := hw5; exact absurd (show imove k v from by rw [h2]; exact mv_in h1 hk) hbad

set_option maxHeartbeats 400000 in
set_option maxRecDepth 100000 in
theorem c_L_textAt_ok2 (l : Launch) (hltr : l.stackTraces = false) (D : va_G) (cI cJ : ClassId) (sz : Nat) (h0 lg lc lt fs ps : Nat) (fa fb : Int64) (mt re : Int32) (cs ts : Nat → Int32) (k : Nat) (hk : k ≤ 36) (ob : Nat) (ov : Nat → Int64) (v : Int32) (htx : ∀ j, j < k → ¬ ts j = (-1) → ∃ tn, tn < 8 ∧ ts j = nI tn) (hok : ∃ j, j < k ∧ v = nI j ∧ ¬ ts j = (-1)) : Met l yL_textAt wsL_textAt ({ frames := 8, cells := 2, slots := 12, locals := 133 } : Room) (va_Pc [.ref h0, .int v, .int 2, .ref ob] (px_N (px_X (va_A [(h0, .inr (3, [.ref lg, .ref fs, .ref ps, .long fa, .long fb, .int mt, .int re])), (lg, .inr (0, [.ref lc, .ref lt, .int (nI k)])), (lc, .inl (cI, 36, .inl cs)), (lt, .inl (cI, 36, .inl ts)), (ob, .inl (cJ, 1, .inr (.inl ov)))] sz) (pv_C D cI cJ [(h0, .inr (3, [.ref lg, .ref fs, .ref ps, .long fa, .long fb, .int mt, .int re])), (lg, .inr (0, [.ref lc, .ref lt, .int (nI k)])), (lc, .inl (cI, 36, .inl cs)), (lt, .inl (cI, 36, .inl ts)), (ob, .inl (cJ, 1, .inr (.inl ov)))] sz)))) (va_Qi (fun (r : Int32) (u : (Int32)) => r = 0 ∧ (∃ j tn, j < k ∧ v = nI j ∧ tn < 8 ∧ ts j = nI tn ∧ u = ji2c (nI (48 + tn / 2)))) (fun (u : (Int32)) => pv_B D cI cJ (va_A [(h0, .inr (3, [.ref lg, .ref fs, .ref ps, .long fa, .long fb, .int mt, .int re])), (lg, .inr (0, [.ref lc, .ref lt, .int (nI k)])), (lc, .inl (cI, 36, .inl cs)), (lt, .inl (cI, 36, .inl ts)), (ob, .inl (cJ, 1, .inr (.inl ov)))] sz) [(h0, .inr (3, [.ref lg, .ref fs, .ref ps, .long fa, .long fb, .int mt, .int re])), (lg, .inr (0, [.ref lc, .ref lt, .int (nI k)])), (lc, .inl (cI, 36, .inl cs)), (lt, .inl (cI, 36, .inl ts)), (ob, .inl (cJ, 1, .inr (.inl (vp_updL ov 0 (u).toInt64))))]) (va_A [(h0, .inr (3, [.ref lg, .ref fs, .ref ps, .long fa, .long fb, .int mt, .int re])), (lg, .inr (0, [.ref lc, .ref lt, .int (nI k)])), (lc, .inl (cI, 36, .inl cs)), (lt, .inl (cI, 36, .inl ts)), (ob, .inl (cJ, 1, .inr (.inl ov)))] sz)) 2 12 (va_A [(h0, .inr (3, [.ref lg, .ref fs, .ref ps, .long fa, .long fb, .int mt, .int re])), (lg, .inr (0, [.ref lc, .ref lt, .int (nI k)])), (lc, .inl (cI, 36, .inl cs)), (lt, .inl (cI, 36, .inl ts)), (ob, .inl (cJ, 1, .inr (.inl ov)))] sz) := by
  refine va_MetW (cc := cL_textAt) (maxL := 5) (ret := (some .int)) (hh := [(0, 10, 13, 13)]) (by decide) rfl ?_
  intro p e s m args below meth c s₁ B hml hv
  obtain ⟨rfl, hNC, hEN, hEX, hZ, rfl, hP, hK, hD0⟩ := hv
  have hx := B.exec
  have hb := B.bytes
  have hr := B.returns
  have hts := atoms_spec (ws := wsL_textAt) B.pre
  have hown : s.vm.findClass RL = some m.cls := findClass_of_methodNamed B.named
  have hlocks := B.notSynchronized
  have htb := vx_table (x := yL_textAt) B (hts _ (List.mem_of_getElem? (i := 0) rfl))
  have hD := hD0.self (sz := s.heap.size)
  generalize hAe : va_A [(h0, .inr (3, [.ref lg, .ref fs, .ref ps, .long fa, .long fb, .int mt, .int re])), (lg, .inr (0, [.ref lc, .ref lt, .int (nI k)])), (lc, .inl (cI, 36, .inl cs)), (lt, .inl (cI, 36, .inl ts)), (ob, .inl (cJ, 1, .inr (.inl ov)))] s.heap.size = A at hD hZ ⊢
  have hA : ∀ q : Nat, s.heap.size ≤ q → A q := fun q h => by rw [← hAe]; exact Or.inr h
  have hS : va_S A s.heap s.heap [] := va_S.rf
  have hl := lv_entry ([.ref h0, .int v, .int 2, .ref ob]) (n := 5) (Nat.le_of_ble_eq_true rfl)
  rw [lg_entry_eq]
  generalize (lg_sl ([.ref h0, .int v, .int 2, .ref ob]) ++ List.replicate (5 - (lg_sl ([.ref h0, .int v, .int 2, .ref ob])).length) Slot.unset).toArray = ls at hl ⊢
  have hl : lv_has ls 5 [(0, .ref h0), (1, .int v), (2, .int 2), (3, .ref ob)] := hl
  refine lv_aload_n hx hb dL_textAt_0 rfl (lv_at hl 3 rfl) ?_
  refine lv_iconst (v := 0) hx hb dL_textAt_1 (by decide) ?_
  refine lv_aload_n hx hb dL_textAt_2 rfl (lv_at hl 0 rfl) ?_
  refine lv_iload_n hx hb dL_textAt_3 rfl (lv_at hl 1 rfl) ?_
  refine lv_iload_n hx hb dL_textAt_4 rfl (lv_at hl 2 rfl) ?_
  have hPc : va_P D vwCl [(h0, .inr (3, [.ref lg, .ref fs, .ref ps, .long fa, .long fb, .int mt, .int re])), (lg, .inr (0, [.ref lc, .ref lt, .int (nI k)])), (lc, .inl (cI, 36, .inl cs)), (lt, .inl (cI, 36, .inl ts))] s.heap := hP.sub (ws' := [(h0, .inr (3, [.ref lg, .ref fs, .ref ps, .long fa, .long fb, .int mt, .int re])), (lg, .inr (0, [.ref lc, .ref lt, .int (nI k)])), (lc, .inl (cI, 36, .inl cs)), (lt, .inl (cI, 36, .inl ts))]) [0, 1, 2, 3] rfl
  have hDc : va_D A [(h0, .inr (3, [.ref lg, .ref fs, .ref ps, .long fa, .long fb, .int mt, .int re])), (lg, .inr (0, [.ref lc, .ref lt, .int (nI k)])), (lc, .inl (cI, 36, .inl cs)), (lt, .inl (cI, 36, .inl ts))] := hD.sub (ws' := [(h0, .inr (3, [.ref lg, .ref fs, .ref ps, .long fa, .long fb, .int mt, .int re])), (lg, .inr (0, [.ref lc, .ref lt, .int (nI k)])), (lc, .inl (cI, 36, .inl cs)), (lt, .inl (cI, 36, .inl ts))]) [0, 1, 2, 3] (by decide) rfl
  have hFc := va_free (wc := [(h0, .inr (3, [.ref lg, .ref fs, .ref ps, .long fa, .long fb, .int mt, .int re])), (lg, .inr (0, [.ref lc, .ref lt, .int (nI k)])), (lc, .inl (cI, 36, .inl cs)), (lt, .inl (cI, 36, .inl ts))]) hD hS hA [0, 1, 2, 3] rfl
  refine vx_calli (vx_runV (As := [.int v, .int 2]) (rest := [.int 0, .ref ob]) ⟨hx, hb, hml, hown, hts⟩ (c_X6_textAt_2 l hltr D cI cJ s.heap.size  h0 lg lc lt fs ps fa fb mt re cs ts k (by omega) v htx) (cwV 2 hts gL_textAt_X6_textAt rfl rfl rfl (by decide +kernel) ⟨Nat.le_of_ble_eq_true rfl, Nat.le_of_ble_eq_true rfl⟩) ⟨(px_blindX pv_blind), va_recv hK hPc (ci := 3) (q0 := 0) rfl rfl, fun U hU hW => ⟨rfl, hEX.warm hW, by rw [hU]; exact hZ.to hS hW.alike hFc, by rw [hU], by rw [hU]; exact hPc, va_K.moved hW.alike hK, hDc.weaken (fun _ _ _ _ => trivial)⟩⟩ rfl rfl hl.1 rfl (lv_room (Nat.le_of_ble_eq_true rfl)) dL_textAt_5 ⟨(Nat.le_of_ble_eq_true rfl), (Nat.le_of_ble_eq_true rfl)⟩) hS (fun q _ h => hFc q h) hFc (fun q _ h => hFc q h) (fun E ce q9 u9 t9 H1 locs hth hvm hpx hB9 hz1 hk1 hS hce hcv hcl => ?_) (fun r5 u t9 H1 locs hth hvm hw5 hB9 hz1 hk1 hS => ?_)
  · obtain ⟨hb9, hP1, hK1, hD1⟩ := hB9
    rw [hth] at hP1
    obtain ⟨hP, hD⟩ := va_join (wr := [(ob, .inl (cJ, 1, .inr (.inl ov)))]) (w1 := [(h0, .inr (3, [.ref lg, .ref fs, .ref ps, .long fa, .long fb, .int mt, .int re])), (lg, .inr (0, [.ref lc, .ref lt, .int (nI k)])), (lc, .inl (cI, 36, .inl cs)), (lt, .inl (cI, 36, .inl ts))]) hP hD [0, 1, 2, 3] [4] rfl rfl (by decide) (by decide) hk1 hFc hP1 hD1
    have hP : va_P D vwCl [(h0, .inr (3, [.ref lg, .ref fs, .ref ps, .long fa, .long fb, .int mt, .int re])), (lg, .inr (0, [.ref lc, .ref lt, .int (nI k)])), (lc, .inl (cI, 36, .inl cs)), (lt, .inl (cI, 36, .inl ts)), (ob, .inl (cJ, 1, .inr (.inl ov)))] H1 := hP.sub (ws' := [(h0, .inr (3, [.ref lg, .ref fs, .ref ps, .long fa, .long fb, .int mt, .int re])), (lg, .inr (0, [.ref lc, .ref lt, .int (nI k)])), (lc, .inl (cI, 36, .inl cs)), (lt, .inl (cI, 36, .inl ts)), (ob, .inl (cJ, 1, .inr (.inl ov)))]) [1, 2, 3, 4, 0] rfl
    have hD : va_D A [(h0, .inr (3, [.ref lg, .ref fs, .ref ps, .long fa, .long fb, .int mt, .int re])), (lg, .inr (0, [.ref lc, .ref lt, .int (nI k)])), (lc, .inl (cI, 36, .inl cs)), (lt, .inl (cI, 36, .inl ts)), (ob, .inl (cJ, 1, .inr (.inl ov)))] := hD.sub (ws' := [(h0, .inr (3, [.ref lg, .ref fs, .ref ps, .long fa, .long fb, .int mt, .int re])), (lg, .inr (0, [.ref lc, .ref lt, .int (nI k)])), (lc, .inl (cI, 36, .inl cs)), (lt, .inl (cI, 36, .inl ts)), (ob, .inl (cJ, 1, .inr (.inl ov)))]) [1, 2, 3, 4, 0] (by decide) rfl
    exact (absurd hok hb9.2)
  · try dsimp only at hw5
    obtain ⟨hP1, hK1, hD1⟩ := hB9
    rw [hth] at hP1
    obtain ⟨hP, hD⟩ := va_join (wr := [(ob, .inl (cJ, 1, .inr (.inl ov)))]) (w1 := [(h0, .inr (3, [.ref lg, .ref fs, .ref ps, .long fa, .long fb, .int mt, .int re])), (lg, .inr (0, [.ref lc, .ref lt, .int (nI k)])), (lc, .inl (cI, 36, .inl cs)), (lt, .inl (cI, 36, .inl ts))]) hP hD [0, 1, 2, 3] [4] rfl rfl (by decide) (by decide) hk1 hFc hP1 hD1
    generalize H1 = H at hP hS ⊢
    have hP : va_P D vwCl [(h0, .inr (3, [.ref lg, .ref fs, .ref ps, .long fa, .long fb, .int mt, .int re])), (lg, .inr (0, [.ref lc, .ref lt, .int (nI k)])), (lc, .inl (cI, 36, .inl cs)), (lt, .inl (cI, 36, .inl ts)), (ob, .inl (cJ, 1, .inr (.inl ov)))] H := hP.sub (ws' := [(h0, .inr (3, [.ref lg, .ref fs, .ref ps, .long fa, .long fb, .int mt, .int re])), (lg, .inr (0, [.ref lc, .ref lt, .int (nI k)])), (lc, .inl (cI, 36, .inl cs)), (lt, .inl (cI, 36, .inl ts)), (ob, .inl (cJ, 1, .inr (.inl ov)))]) [1, 2, 3, 4, 0] rfl
    have hD : va_D A [(h0, .inr (3, [.ref lg, .ref fs, .ref ps, .long fa, .long fb, .int mt, .int re])), (lg, .inr (0, [.ref lc, .ref lt, .int (nI k)])), (lc, .inl (cI, 36, .inl cs)), (lt, .inl (cI, 36, .inl ts)), (ob, .inl (cJ, 1, .inr (.inl ov)))] := hD.sub (ws' := [(h0, .inr (3, [.ref lg, .ref fs, .ref ps, .long fa, .long fb, .int mt, .int re])), (lg, .inr (0, [.ref lc, .ref lt, .int (nI k)])), (lc, .inl (cI, 36, .inl cs)), (lt, .inl (cI, 36, .inl ts)), (ob, .inl (cJ, 1, .inr (.inl ov)))]) [1, 2, 3, 4, 0] (by decide) rfl
    refine lv_i2l (v := (r5 : Int32).toInt64) hx hb dL_textAt_8 rfl ?_
    refine lv_topl (fun x8 ex8 => ?_)
    refine va_last hx hb hK hP hD hS 4 1 rfl rfl (vp_in_nI (n := 0) (N := 1) (by omega) (by decide)) dL_textAt_9 (fun H locs hP hD hS => ?_)
    have hu9 : (0 : Int32).toNatClampNeg = 0 := pk_cl 0
    rw [hu9] at hP hD
    have hP : va_P D vwCl [(h0, .inr (3, [.ref lg, .ref fs, .ref ps, .long fa, .long fb, .int mt, .int re])), (lg, .inr (0, [.ref lc, .ref lt, .int (nI k)])), (lc, .inl (cI, 36, .inl cs)), (lt, .inl (cI, 36, .inl ts)), (ob, .inl (cJ, 1, .inr (.inl (vp_updL ov 0 x8))))] H := hP
    have hD : va_D A [(h0, .inr (3, [.ref lg, .ref fs, .ref ps, .long fa, .long fb, .int mt, .int re])), (lg, .inr (0, [.ref lc, .ref lt, .int (nI k)])), (lc, .inl (cI, 36, .inl cs)), (lt, .inl (cI, 36, .inl ts)), (ob, .inl (cJ, 1, .inr (.inl (vp_updL ov 0 x8))))] := hD
    refine lv_goto (tgt := 17) hx hb dL_textAt_10 (by decide) ?_
    refine lv_iconst (v := 0) hx hb dL_textAt_17 (by decide) ?_
    obtain rfl := ex8.symm
    refine W.widen (k := 2) (n := 12) (Nat.le_of_ble_eq_true rfl) (Nat.le_of_ble_eq_true rfl) ?_
    refine W.iret (v := 0) hx hb hr (fun tt ht hW => ⟨⟨0, r5, rfl, ?_, by rw [ht]; exact hP, va_K.moved hW.alike hK, hD⟩, hS.F ht⟩) hS.2.2 dL_textAt_18
    exact ⟨rfl, hw5⟩

set_option maxHeartbeats 400000 in
set_option maxRecDepth 100000 in
theorem c_L_textAt_no2 (l : Launch) (hltr : l.stackTraces = false) (D : va_G) (cI cJ : ClassId) (sz : Nat) (h0 lg lc lt fs ps : Nat) (fa fb : Int64) (mt re : Int32) (cs ts : Nat → Int32) (k : Nat) (hk : k ≤ 36) (ob : Nat) (ov : Nat → Int64) (v : Int32) (htx : ∀ j, j < k → ¬ ts j = (-1) → ∃ tn, tn < 8 ∧ ts j = nI tn) (hbad : ¬ ∃ j, j < k ∧ v = nI j ∧ ¬ ts j = (-1)) : Met l yL_textAt wsL_textAt ({ frames := 8, cells := 2, slots := 12, locals := 133 } : Room) (va_Pc [.ref h0, .int v, .int 2, .ref ob] (px_N (px_X (va_A [(h0, .inr (3, [.ref lg, .ref fs, .ref ps, .long fa, .long fb, .int mt, .int re])), (lg, .inr (0, [.ref lc, .ref lt, .int (nI k)])), (lc, .inl (cI, 36, .inl cs)), (lt, .inl (cI, 36, .inl ts)), (ob, .inl (cJ, 1, .inr (.inl ov)))] sz) (pv_C D cI cJ [(h0, .inr (3, [.ref lg, .ref fs, .ref ps, .long fa, .long fb, .int mt, .int re])), (lg, .inr (0, [.ref lc, .ref lt, .int (nI k)])), (lc, .inl (cI, 36, .inl cs)), (lt, .inl (cI, 36, .inl ts)), (ob, .inl (cJ, 1, .inr (.inl ov)))] sz)))) (va_Qi (fun (r : Int32) (u : Unit) => r = 1) (fun (u : Unit) => pv_B D cI cJ (va_A [(h0, .inr (3, [.ref lg, .ref fs, .ref ps, .long fa, .long fb, .int mt, .int re])), (lg, .inr (0, [.ref lc, .ref lt, .int (nI k)])), (lc, .inl (cI, 36, .inl cs)), (lt, .inl (cI, 36, .inl ts)), (ob, .inl (cJ, 1, .inr (.inl ov)))] sz) [(h0, .inr (3, [.ref lg, .ref fs, .ref ps, .long fa, .long fb, .int mt, .int re])), (lg, .inr (0, [.ref lc, .ref lt, .int (nI k)])), (lc, .inl (cI, 36, .inl cs)), (lt, .inl (cI, 36, .inl ts)), (ob, .inl (cJ, 1, .inr (.inl ov)))]) (va_A [(h0, .inr (3, [.ref lg, .ref fs, .ref ps, .long fa, .long fb, .int mt, .int re])), (lg, .inr (0, [.ref lc, .ref lt, .int (nI k)])), (lc, .inl (cI, 36, .inl cs)), (lt, .inl (cI, 36, .inl ts)), (ob, .inl (cJ, 1, .inr (.inl ov)))] sz)) 2 12 (va_A [(h0, .inr (3, [.ref lg, .ref fs, .ref ps, .long fa, .long fb, .int mt, .int re])), (lg, .inr (0, [.ref lc, .ref lt, .int (nI k)])), (lc, .inl (cI, 36, .inl cs)), (lt, .inl (cI, 36, .inl ts)), (ob, .inl (cJ, 1, .inr (.inl ov)))] sz) := by
  refine va_MetW (cc := cL_textAt) (maxL := 5) (ret := (some .int)) (hh := [(0, 10, 13, 13)]) (by decide) rfl ?_
  intro p e s m args below meth c s₁ B hml hv
  obtain ⟨rfl, hNC, hEN, hEX, hZ, rfl, hP, hK, hD0⟩ := hv
  have hx := B.exec
  have hb := B.bytes
  have hr := B.returns
  have hts := atoms_spec (ws := wsL_textAt) B.pre
  have hown : s.vm.findClass RL = some m.cls := findClass_of_methodNamed B.named
  have hlocks := B.notSynchronized
  have htb := vx_table (x := yL_textAt) B (hts _ (List.mem_of_getElem? (i := 0) rfl))
  have hD := hD0.self (sz := s.heap.size)
  generalize hAe : va_A [(h0, .inr (3, [.ref lg, .ref fs, .ref ps, .long fa, .long fb, .int mt, .int re])), (lg, .inr (0, [.ref lc, .ref lt, .int (nI k)])), (lc, .inl (cI, 36, .inl cs)), (lt, .inl (cI, 36, .inl ts)), (ob, .inl (cJ, 1, .inr (.inl ov)))] s.heap.size = A at hD hZ ⊢
  have hA : ∀ q : Nat, s.heap.size ≤ q → A q := fun q h => by rw [← hAe]; exact Or.inr h
  have hS : va_S A s.heap s.heap [] := va_S.rf
  have hl := lv_entry ([.ref h0, .int v, .int 2, .ref ob]) (n := 5) (Nat.le_of_ble_eq_true rfl)
  rw [lg_entry_eq]
  generalize (lg_sl ([.ref h0, .int v, .int 2, .ref ob]) ++ List.replicate (5 - (lg_sl ([.ref h0, .int v, .int 2, .ref ob])).length) Slot.unset).toArray = ls at hl ⊢
  have hl : lv_has ls 5 [(0, .ref h0), (1, .int v), (2, .int 2), (3, .ref ob)] := hl
  refine lv_aload_n hx hb dL_textAt_0 rfl (lv_at hl 3 rfl) ?_
  refine lv_iconst (v := 0) hx hb dL_textAt_1 (by decide) ?_
  refine lv_aload_n hx hb dL_textAt_2 rfl (lv_at hl 0 rfl) ?_
  refine lv_iload_n hx hb dL_textAt_3 rfl (lv_at hl 1 rfl) ?_
  refine lv_iload_n hx hb dL_textAt_4 rfl (lv_at hl 2 rfl) ?_
  have hPc : va_P D vwCl [(h0, .inr (3, [.ref lg, .ref fs, .ref ps, .long fa, .long fb, .int mt, .int re])), (lg, .inr (0, [.ref lc, .ref lt, .int (nI k)])), (lc, .inl (cI, 36, .inl cs)), (lt, .inl (cI, 36, .inl ts))] s.heap := hP.sub (ws' := [(h0, .inr (3, [.ref lg, .ref fs, .ref ps, .long fa, .long fb, .int mt, .int re])), (lg, .inr (0, [.ref lc, .ref lt, .int (nI k)])), (lc, .inl (cI, 36, .inl cs)), (lt, .inl (cI, 36, .inl ts))]) [0, 1, 2, 3] rfl
  have hDc : va_D A [(h0, .inr (3, [.ref lg, .ref fs, .ref ps, .long fa, .long fb, .int mt, .int re])), (lg, .inr (0, [.ref lc, .ref lt, .int (nI k)])), (lc, .inl (cI, 36, .inl cs)), (lt, .inl (cI, 36, .inl ts))] := hD.sub (ws' := [(h0, .inr (3, [.ref lg, .ref fs, .ref ps, .long fa, .long fb, .int mt, .int re])), (lg, .inr (0, [.ref lc, .ref lt, .int (nI k)])), (lc, .inl (cI, 36, .inl cs)), (lt, .inl (cI, 36, .inl ts))]) [0, 1, 2, 3] (by decide) rfl
  have hFc := va_free (wc := [(h0, .inr (3, [.ref lg, .ref fs, .ref ps, .long fa, .long fb, .int mt, .int re])), (lg, .inr (0, [.ref lc, .ref lt, .int (nI k)])), (lc, .inl (cI, 36, .inl cs)), (lt, .inl (cI, 36, .inl ts))]) hD hS hA [0, 1, 2, 3] rfl
  refine vx_calli (vx_runV (As := [.int v, .int 2]) (rest := [.int 0, .ref ob]) ⟨hx, hb, hml, hown, hts⟩ (c_X6_textAt_2 l hltr D cI cJ s.heap.size  h0 lg lc lt fs ps fa fb mt re cs ts k (by omega) v htx) (cwV 2 hts gL_textAt_X6_textAt rfl rfl rfl (by decide +kernel) ⟨Nat.le_of_ble_eq_true rfl, Nat.le_of_ble_eq_true rfl⟩) ⟨(px_blindX pv_blind), va_recv hK hPc (ci := 3) (q0 := 0) rfl rfl, fun U hU hW => ⟨rfl, hEX.warm hW, by rw [hU]; exact hZ.to hS hW.alike hFc, by rw [hU], by rw [hU]; exact hPc, va_K.moved hW.alike hK, hDc.weaken (fun _ _ _ _ => trivial)⟩⟩ rfl rfl hl.1 rfl (lv_room (Nat.le_of_ble_eq_true rfl)) dL_textAt_5 ⟨(Nat.le_of_ble_eq_true rfl), (Nat.le_of_ble_eq_true rfl)⟩) hS (fun q _ h => hFc q h) hFc (fun q _ h => hFc q h) (fun E ce q9 u9 t9 H1 locs hth hvm hpx hB9 hz1 hk1 hS hce hcv hcl => ?_) (fun r5 u t9 H1 locs hth hvm hw5 hB9 hz1 hk1 hS => ?_)
  · obtain ⟨hb9, hP1, hK1, hD1⟩ := hB9
    rw [hth] at hP1
    obtain ⟨hP, hD⟩ := va_join (wr := [(ob, .inl (cJ, 1, .inr (.inl ov)))]) (w1 := [(h0, .inr (3, [.ref lg, .ref fs, .ref ps, .long fa, .long fb, .int mt, .int re])), (lg, .inr (0, [.ref lc, .ref lt, .int (nI k)])), (lc, .inl (cI, 36, .inl cs)), (lt, .inl (cI, 36, .inl ts))]) hP hD [0, 1, 2, 3] [4] rfl rfl (by decide) (by decide) hk1 hFc hP1 hD1
    have hP : va_P D vwCl [(h0, .inr (3, [.ref lg, .ref fs, .ref ps, .long fa, .long fb, .int mt, .int re])), (lg, .inr (0, [.ref lc, .ref lt, .int (nI k)])), (lc, .inl (cI, 36, .inl cs)), (lt, .inl (cI, 36, .inl ts)), (ob, .inl (cJ, 1, .inr (.inl ov)))] H1 := hP.sub (ws' := [(h0, .inr (3, [.ref lg, .ref fs, .ref ps, .long fa, .long fb, .int mt, .int re])), (lg, .inr (0, [.ref lc, .ref lt, .int (nI k)])), (lc, .inl (cI, 36, .inl cs)), (lt, .inl (cI, 36, .inl ts)), (ob, .inl (cJ, 1, .inr (.inl ov)))]) [1, 2, 3, 4, 0] rfl
    have hD : va_D A [(h0, .inr (3, [.ref lg, .ref fs, .ref ps, .long fa, .long fb, .int mt, .int re])), (lg, .inr (0, [.ref lc, .ref lt, .int (nI k)])), (lc, .inl (cI, 36, .inl cs)), (lt, .inl (cI, 36, .inl ts)), (ob, .inl (cJ, 1, .inr (.inl ov)))] := hD.sub (ws' := [(h0, .inr (3, [.ref lg, .ref fs, .ref ps, .long fa, .long fb, .int mt, .int re])), (lg, .inr (0, [.ref lc, .ref lt, .int (nI k)])), (lc, .inl (cI, 36, .inl cs)), (lt, .inl (cI, 36, .inl ts)), (ob, .inl (cJ, 1, .inr (.inl ov)))]) [1, 2, 3, 4, 0] (by decide) rfl
    obtain rfl : E = nIOB := hb9.1
    refine vx_catch (own := RL) (name := nIOB) hown [] ⟨0, 10, 13, 13⟩ [] (htb.trans rfl) (fun z hz => nomatch hz) (by decide) (by decide) (hts (.classLink RL 13 nIOB) (by decide +kernel)) (va_Nw.use rfl hEX.2.1) hce hcv hcl ?_
    refine lv_astore (lv' := [(4, .ref q9), (0, .ref h0), (1, .int v), (2, .int 2), (3, .ref ob)]) hx hb dL_textAt_13 hl (by decide) rfl (fun ls hl => ?_)
    refine lv_iconst (v := 1) hx hb dL_textAt_15 (by decide) ?_
    refine W.widen (k := 2) (n := 12) (Nat.le_of_ble_eq_true rfl) (Nat.le_of_ble_eq_true rfl) ?_
    refine W.iret (v := 1) hx hb hr (fun tt ht hW => ⟨⟨1, (), rfl, ?_, by rw [ht]; exact hP, va_K.moved hW.alike hK, hD⟩, hS.F ht⟩) hS.2.2 dL_textAt_16
    exact rfl
  · try dsimp only at hw5
    obtain ⟨j, tn, h1, h2, h3, h4, _⟩ := hw5; exact absurd ⟨j, h1, h2, fun h => nI_ne_m1 (by omega) (h4.symm.trans h)⟩ hbad

set_option maxHeartbeats 400000 in
set_option maxRecDepth 100000 in
theorem c_L_textAt_ok3 (l : Launch) (hltr : l.stackTraces = false) (D : va_G) (cI cJ : ClassId) (sz : Nat) (h0 lg lc lt fs ps : Nat) (fa fb : Int64) (mt re : Int32) (cs ts : Nat → Int32) (k : Nat) (hk : k ≤ 36) (ob : Nat) (ov : Nat → Int64) (v : Int32) (htx : ∀ j, j < k → ¬ ts j = (-1) → ∃ tn, tn < 8 ∧ ts j = nI tn) (hok : ∃ j, j < k ∧ v = nI j ∧ ¬ ts j = (-1)) : Met l yL_textAt wsL_textAt ({ frames := 8, cells := 2, slots := 12, locals := 133 } : Room) (va_Pc [.ref h0, .int v, .int 3, .ref ob] (px_N (px_X (va_A [(h0, .inr (3, [.ref lg, .ref fs, .ref ps, .long fa, .long fb, .int mt, .int re])), (lg, .inr (0, [.ref lc, .ref lt, .int (nI k)])), (lc, .inl (cI, 36, .inl cs)), (lt, .inl (cI, 36, .inl ts)), (ob, .inl (cJ, 1, .inr (.inl ov)))] sz) (pv_C D cI cJ [(h0, .inr (3, [.ref lg, .ref fs, .ref ps, .long fa, .long fb, .int mt, .int re])), (lg, .inr (0, [.ref lc, .ref lt, .int (nI k)])), (lc, .inl (cI, 36, .inl cs)), (lt, .inl (cI, 36, .inl ts)), (ob, .inl (cJ, 1, .inr (.inl ov)))] sz)))) (va_Qi (fun (r : Int32) (u : (Int32)) => r = 0 ∧ (∃ j tn, j < k ∧ v = nI j ∧ tn < 8 ∧ ts j = nI tn ∧ u = (if tn % 2 = 0 then 82 else 76))) (fun (u : (Int32)) => pv_B D cI cJ (va_A [(h0, .inr (3, [.ref lg, .ref fs, .ref ps, .long fa, .long fb, .int mt, .int re])), (lg, .inr (0, [.ref lc, .ref lt, .int (nI k)])), (lc, .inl (cI, 36, .inl cs)), (lt, .inl (cI, 36, .inl ts)), (ob, .inl (cJ, 1, .inr (.inl ov)))] sz) [(h0, .inr (3, [.ref lg, .ref fs, .ref ps, .long fa, .long fb, .int mt, .int re])), (lg, .inr (0, [.ref lc, .ref lt, .int (nI k)])), (lc, .inl (cI, 36, .inl cs)), (lt, .inl (cI, 36, .inl ts)), (ob, .inl (cJ, 1, .inr (.inl (vp_updL ov 0 (u).toInt64))))]) (va_A [(h0, .inr (3, [.ref lg, .ref fs, .ref ps, .long fa, .long fb, .int mt, .int re])), (lg, .inr (0, [.ref lc, .ref lt, .int (nI k)])), (lc, .inl (cI, 36, .inl cs)), (lt, .inl (cI, 36, .inl ts)), (ob, .inl (cJ, 1, .inr (.inl ov)))] sz)) 2 12 (va_A [(h0, .inr (3, [.ref lg, .ref fs, .ref ps, .long fa, .long fb, .int mt, .int re])), (lg, .inr (0, [.ref lc, .ref lt, .int (nI k)])), (lc, .inl (cI, 36, .inl cs)), (lt, .inl (cI, 36, .inl ts)), (ob, .inl (cJ, 1, .inr (.inl ov)))] sz) := by
  refine va_MetW (cc := cL_textAt) (maxL := 5) (ret := (some .int)) (hh := [(0, 10, 13, 13)]) (by decide) rfl ?_
  intro p e s m args below meth c s₁ B hml hv
  obtain ⟨rfl, hNC, hEN, hEX, hZ, rfl, hP, hK, hD0⟩ := hv
  have hx := B.exec
  have hb := B.bytes
  have hr := B.returns
  have hts := atoms_spec (ws := wsL_textAt) B.pre
  have hown : s.vm.findClass RL = some m.cls := findClass_of_methodNamed B.named
  have hlocks := B.notSynchronized
  have htb := vx_table (x := yL_textAt) B (hts _ (List.mem_of_getElem? (i := 0) rfl))
  have hD := hD0.self (sz := s.heap.size)
  generalize hAe : va_A [(h0, .inr (3, [.ref lg, .ref fs, .ref ps, .long fa, .long fb, .int mt, .int re])), (lg, .inr (0, [.ref lc, .ref lt, .int (nI k)])), (lc, .inl (cI, 36, .inl cs)), (lt, .inl (cI, 36, .inl ts)), (ob, .inl (cJ, 1, .inr (.inl ov)))] s.heap.size = A at hD hZ ⊢
  have hA : ∀ q : Nat, s.heap.size ≤ q → A q := fun q h => by rw [← hAe]; exact Or.inr h
  have hS : va_S A s.heap s.heap [] := va_S.rf
  have hl := lv_entry ([.ref h0, .int v, .int 3, .ref ob]) (n := 5) (Nat.le_of_ble_eq_true rfl)
  rw [lg_entry_eq]
  generalize (lg_sl ([.ref h0, .int v, .int 3, .ref ob]) ++ List.replicate (5 - (lg_sl ([.ref h0, .int v, .int 3, .ref ob])).length) Slot.unset).toArray = ls at hl ⊢
  have hl : lv_has ls 5 [(0, .ref h0), (1, .int v), (2, .int 3), (3, .ref ob)] := hl
  refine lv_aload_n hx hb dL_textAt_0 rfl (lv_at hl 3 rfl) ?_
  refine lv_iconst (v := 0) hx hb dL_textAt_1 (by decide) ?_
  refine lv_aload_n hx hb dL_textAt_2 rfl (lv_at hl 0 rfl) ?_
  refine lv_iload_n hx hb dL_textAt_3 rfl (lv_at hl 1 rfl) ?_
  refine lv_iload_n hx hb dL_textAt_4 rfl (lv_at hl 2 rfl) ?_
  have hPc : va_P D vwCl [(h0, .inr (3, [.ref lg, .ref fs, .ref ps, .long fa, .long fb, .int mt, .int re])), (lg, .inr (0, [.ref lc, .ref lt, .int (nI k)])), (lc, .inl (cI, 36, .inl cs)), (lt, .inl (cI, 36, .inl ts))] s.heap := hP.sub (ws' := [(h0, .inr (3, [.ref lg, .ref fs, .ref ps, .long fa, .long fb, .int mt, .int re])), (lg, .inr (0, [.ref lc, .ref lt, .int (nI k)])), (lc, .inl (cI, 36, .inl cs)), (lt, .inl (cI, 36, .inl ts))]) [0, 1, 2, 3] rfl
  have hDc : va_D A [(h0, .inr (3, [.ref lg, .ref fs, .ref ps, .long fa, .long fb, .int mt, .int re])), (lg, .inr (0, [.ref lc, .ref lt, .int (nI k)])), (lc, .inl (cI, 36, .inl cs)), (lt, .inl (cI, 36, .inl ts))] := hD.sub (ws' := [(h0, .inr (3, [.ref lg, .ref fs, .ref ps, .long fa, .long fb, .int mt, .int re])), (lg, .inr (0, [.ref lc, .ref lt, .int (nI k)])), (lc, .inl (cI, 36, .inl cs)), (lt, .inl (cI, 36, .inl ts))]) [0, 1, 2, 3] (by decide) rfl
  have hFc := va_free (wc := [(h0, .inr (3, [.ref lg, .ref fs, .ref ps, .long fa, .long fb, .int mt, .int re])), (lg, .inr (0, [.ref lc, .ref lt, .int (nI k)])), (lc, .inl (cI, 36, .inl cs)), (lt, .inl (cI, 36, .inl ts))]) hD hS hA [0, 1, 2, 3] rfl
  refine vx_calli (vx_runV (As := [.int v, .int 3]) (rest := [.int 0, .ref ob]) ⟨hx, hb, hml, hown, hts⟩ (c_X6_textAt_3 l hltr D cI cJ s.heap.size  h0 lg lc lt fs ps fa fb mt re cs ts k (by omega) v htx) (cwV 2 hts gL_textAt_X6_textAt rfl rfl rfl (by decide +kernel) ⟨Nat.le_of_ble_eq_true rfl, Nat.le_of_ble_eq_true rfl⟩) ⟨(px_blindX pv_blind), va_recv hK hPc (ci := 3) (q0 := 0) rfl rfl, fun U hU hW => ⟨rfl, hEX.warm hW, by rw [hU]; exact hZ.to hS hW.alike hFc, by rw [hU], by rw [hU]; exact hPc, va_K.moved hW.alike hK, hDc.weaken (fun _ _ _ _ => trivial)⟩⟩ rfl rfl hl.1 rfl (lv_room (Nat.le_of_ble_eq_true rfl)) dL_textAt_5 ⟨(Nat.le_of_ble_eq_true rfl), (Nat.le_of_ble_eq_true rfl)⟩) hS (fun q _ h => hFc q h) hFc (fun q _ h => hFc q h) (fun E ce q9 u9 t9 H1 locs hth hvm hpx hB9 hz1 hk1 hS hce hcv hcl => ?_) (fun r5 u t9 H1 locs hth hvm hw5 hB9 hz1 hk1 hS => ?_)
  · obtain ⟨hb9, hP1, hK1, hD1⟩ := hB9
    rw [hth] at hP1
    obtain ⟨hP, hD⟩ := va_join (wr := [(ob, .inl (cJ, 1, .inr (.inl ov)))]) (w1 := [(h0, .inr (3, [.ref lg, .ref fs, .ref ps, .long fa, .long fb, .int mt, .int re])), (lg, .inr (0, [.ref lc, .ref lt, .int (nI k)])), (lc, .inl (cI, 36, .inl cs)), (lt, .inl (cI, 36, .inl ts))]) hP hD [0, 1, 2, 3] [4] rfl rfl (by decide) (by decide) hk1 hFc hP1 hD1
    have hP : va_P D vwCl [(h0, .inr (3, [.ref lg, .ref fs, .ref ps, .long fa, .long fb, .int mt, .int re])), (lg, .inr (0, [.ref lc, .ref lt, .int (nI k)])), (lc, .inl (cI, 36, .inl cs)), (lt, .inl (cI, 36, .inl ts)), (ob, .inl (cJ, 1, .inr (.inl ov)))] H1 := hP.sub (ws' := [(h0, .inr (3, [.ref lg, .ref fs, .ref ps, .long fa, .long fb, .int mt, .int re])), (lg, .inr (0, [.ref lc, .ref lt, .int (nI k)])), (lc, .inl (cI, 36, .inl cs)), (lt, .inl (cI, 36, .inl ts)), (ob, .inl (cJ, 1, .inr (.inl ov)))]) [1, 2, 3, 4, 0] rfl
    have hD : va_D A [(h0, .inr (3, [.ref lg, .ref fs, .ref ps, .long fa, .long fb, .int mt, .int re])), (lg, .inr (0, [.ref lc, .ref lt, .int (nI k)])), (lc, .inl (cI, 36, .inl cs)), (lt, .inl (cI, 36, .inl ts)), (ob, .inl (cJ, 1, .inr (.inl ov)))] := hD.sub (ws' := [(h0, .inr (3, [.ref lg, .ref fs, .ref ps, .long fa, .long fb, .int mt, .int re])), (lg, .inr (0, [.ref lc, .ref lt, .int (nI k)])), (lc, .inl (cI, 36, .inl cs)), (lt, .inl (cI, 36, .inl ts)), (ob, .inl (cJ, 1, .inr (.inl ov)))]) [1, 2, 3, 4, 0] (by decide) rfl
    exact (absurd hok hb9.2)
  · try dsimp only at hw5
    obtain ⟨hP1, hK1, hD1⟩ := hB9
    rw [hth] at hP1
    obtain ⟨hP, hD⟩ := va_join (wr := [(ob, .inl (cJ, 1, .inr (.inl ov)))]) (w1 := [(h0, .inr (3, [.ref lg, .ref fs, .ref ps, .long fa, .long fb, .int mt, .int re])), (lg, .inr (0, [.ref lc, .ref lt, .int (nI k)])), (lc, .inl (cI, 36, .inl cs)), (lt, .inl (cI, 36, .inl ts))]) hP hD [0, 1, 2, 3] [4] rfl rfl (by decide) (by decide) hk1 hFc hP1 hD1
    generalize H1 = H at hP hS ⊢
    have hP : va_P D vwCl [(h0, .inr (3, [.ref lg, .ref fs, .ref ps, .long fa, .long fb, .int mt, .int re])), (lg, .inr (0, [.ref lc, .ref lt, .int (nI k)])), (lc, .inl (cI, 36, .inl cs)), (lt, .inl (cI, 36, .inl ts)), (ob, .inl (cJ, 1, .inr (.inl ov)))] H := hP.sub (ws' := [(h0, .inr (3, [.ref lg, .ref fs, .ref ps, .long fa, .long fb, .int mt, .int re])), (lg, .inr (0, [.ref lc, .ref lt, .int (nI k)])), (lc, .inl (cI, 36, .inl cs)), (lt, .inl (cI, 36, .inl ts)), (ob, .inl (cJ, 1, .inr (.inl ov)))]) [1, 2, 3, 4, 0] rfl
    have hD : va_D A [(h0, .inr (3, [.ref lg, .ref fs, .ref ps, .long fa, .long fb, .int mt, .int re])), (lg, .inr (0, [.ref lc, .ref lt, .int (nI k)])), (lc, .inl (cI, 36, .inl cs)), (lt, .inl (cI, 36, .inl ts)), (ob, .inl (cJ, 1, .inr (.inl ov)))] := hD.sub (ws' := [(h0, .inr (3, [.ref lg, .ref fs, .ref ps, .long fa, .long fb, .int mt, .int re])), (lg, .inr (0, [.ref lc, .ref lt, .int (nI k)])), (lc, .inl (cI, 36, .inl cs)), (lt, .inl (cI, 36, .inl ts)), (ob, .inl (cJ, 1, .inr (.inl ov)))]) [1, 2, 3, 4, 0] (by decide) rfl
    refine lv_i2l (v := (r5 : Int32).toInt64) hx hb dL_textAt_8 rfl ?_
    refine lv_topl (fun x8 ex8 => ?_)
    refine va_last hx hb hK hP hD hS 4 1 rfl rfl (vp_in_nI (n := 0) (N := 1) (by omega) (by decide)) dL_textAt_9 (fun H locs hP hD hS => ?_)
    have hu9 : (0 : Int32).toNatClampNeg = 0 := pk_cl 0
    rw [hu9] at hP hD
    have hP : va_P D vwCl [(h0, .inr (3, [.ref lg, .ref fs, .ref ps, .long fa, .long fb, .int mt, .int re])), (lg, .inr (0, [.ref lc, .ref lt, .int (nI k)])), (lc, .inl (cI, 36, .inl cs)), (lt, .inl (cI, 36, .inl ts)), (ob, .inl (cJ, 1, .inr (.inl (vp_updL ov 0 x8))))] H := hP
    have hD : va_D A [(h0, .inr (3, [.ref lg, .ref fs, .ref ps, .long fa, .long fb, .int mt, .int re])), (lg, .inr (0, [.ref lc, .ref lt, .int (nI k)])), (lc, .inl (cI, 36, .inl cs)), (lt, .inl (cI, 36, .inl ts)), (ob, .inl (cJ, 1, .inr (.inl (vp_updL ov 0 x8))))] := hD
    refine lv_goto (tgt := 17) hx hb dL_textAt_10 (by decide) ?_
    refine lv_iconst (v := 0) hx hb dL_textAt_17 (by decide) ?_
    obtain rfl := ex8.symm
    refine W.widen (k := 2) (n := 12) (Nat.le_of_ble_eq_true rfl) (Nat.le_of_ble_eq_true rfl) ?_
    refine W.iret (v := 0) hx hb hr (fun tt ht hW => ⟨⟨0, r5, rfl, ?_, by rw [ht]; exact hP, va_K.moved hW.alike hK, hD⟩, hS.F ht⟩) hS.2.2 dL_textAt_18
    exact ⟨rfl, hw5⟩

