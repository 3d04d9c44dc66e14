set_option maxHeartbeats 400000 in
set_option maxRecDepth 100000 in
theorem c_L_undo_marble (l : Launch) (hltr : l.stackTraces = false) (D : va_G) (cI cJ : ClassId) (sz : Nat) (h0 lg lc lt fs ps : Nat) (fa fb : Int64) (mt re : Int32) (cs ts : Nat → Int32) (k : Nat) (hk : k ≤ 36) (ob : Nat) (ov : Nat → Int64) (j : Nat) (hj : j < 36) (hk0 : 0 < k) (ht9 : ts (k - 1) = (-1)) (hc9 : cs (k - 1) = nI j) : Met l yL_undo wsL_undo ({ frames := 6, cells := 0, slots := 0, locals := 98 } : Room) (va_Pc [.ref h0, .ref ob] (px_N (px_X (va_A [(h0, .inr (3, [.ref lg, .ref fs, .ref ps, .long fa, .long fb, .int mt, .int re])), (lg, .inr (0, [.ref lc, .ref lt, .int (nI k)])), (lc, .inl (cI, 36, .inl cs)), (lt, .inl (cI, 36, .inl ts)), (ob, .inl (cJ, 1, .inr (.inl ov)))] sz) (pv_C D cI cJ [(h0, .inr (3, [.ref lg, .ref fs, .ref ps, .long fa, .long fb, .int mt, .int re])), (lg, .inr (0, [.ref lc, .ref lt, .int (nI k)])), (lc, .inl (cI, 36, .inl cs)), (lt, .inl (cI, 36, .inl ts)), (ob, .inl (cJ, 1, .inr (.inl ov)))] sz)))) (va_Qi (fun (r : Int32) (u : Unit) => r = 0) (fun (u : Unit) => pv_B D cI cJ (va_A [(h0, .inr (3, [.ref lg, .ref fs, .ref ps, .long fa, .long fb, .int mt, .int re])), (lg, .inr (0, [.ref lc, .ref lt, .int (nI k)])), (lc, .inl (cI, 36, .inl cs)), (lt, .inl (cI, 36, .inl ts)), (ob, .inl (cJ, 1, .inr (.inl ov)))] sz) [(h0, .inr (3, [.ref lg, .ref fs, .ref ps, .long (fa &&& (jshl 1 (nI j) ^^^ (-1))), .long (fb &&& (jshl 1 (nI j) ^^^ (-1))), .int 0, .int 0])), (lg, .inr (0, [.ref lc, .ref lt, .int (nI (k - 1))])), (lc, .inl (cI, 36, .inl cs)), (lt, .inl (cI, 36, .inl ts)), (ob, .inl (cJ, 1, .inr (.inl (vp_updL ov 0 0))))]) (va_A [(h0, .inr (3, [.ref lg, .ref fs, .ref ps, .long fa, .long fb, .int mt, .int re])), (lg, .inr (0, [.ref lc, .ref lt, .int (nI k)])), (lc, .inl (cI, 36, .inl cs)), (lt, .inl (cI, 36, .inl ts)), (ob, .inl (cJ, 1, .inr (.inl ov)))] sz)) 0 0 (va_A [(h0, .inr (3, [.ref lg, .ref fs, .ref ps, .long fa, .long fb, .int mt, .int re])), (lg, .inr (0, [.ref lc, .ref lt, .int (nI k)])), (lc, .inl (cI, 36, .inl cs)), (lt, .inl (cI, 36, .inl ts)), (ob, .inl (cJ, 1, .inr (.inl ov)))] sz) := by
  refine va_MetW (cc := cL_undo) (maxL := 3) (ret := (some .int)) (hh := [(0, 15, 18, 15)]) (by decide) rfl ?_
  intro p e s m args below meth c s₁ B hml hv
  obtain ⟨rfl, hNC, hEN, hEX, hZ, rfl, hP, hK, hD0⟩ := hv
  have hx := B.exec
  have hb := B.bytes
  have hr := B.returns
  have hts := atoms_spec (ws := wsL_undo) B.pre
  have hown : s.vm.findClass RL = some m.cls := findClass_of_methodNamed B.named
  have hlocks := B.notSynchronized
  have htb := vx_table (x := yL_undo) B (hts _ (List.mem_of_getElem? (i := 0) rfl))
  have hD := hD0.self (sz := s.heap.size)
  generalize hAe : va_A [(h0, .inr (3, [.ref lg, .ref fs, .ref ps, .long fa, .long fb, .int mt, .int re])), (lg, .inr (0, [.ref lc, .ref lt, .int (nI k)])), (lc, .inl (cI, 36, .inl cs)), (lt, .inl (cI, 36, .inl ts)), (ob, .inl (cJ, 1, .inr (.inl ov)))] s.heap.size = A at hD hZ ⊢
  have hA : ∀ q : Nat, s.heap.size ≤ q → A q := fun q h => by rw [← hAe]; exact Or.inr h
  have hS : va_S A s.heap s.heap [] := va_S.rf
  have hl := lv_entry ([.ref h0, .ref ob]) (n := 3) (Nat.le_of_ble_eq_true rfl)
  rw [lg_entry_eq]
  generalize (lg_sl ([.ref h0, .ref ob]) ++ List.replicate (3 - (lg_sl ([.ref h0, .ref ob])).length) Slot.unset).toArray = ls at hl ⊢
  have hl : lv_has ls 3 [(0, .ref h0), (1, .ref ob)] := hl
  refine lv_aload_n hx hb dL_undo_0 rfl (lv_at hl 1 rfl) ?_
  refine lv_iconst (v := 0) hx hb dL_undo_1 (by decide) ?_
  refine lv_aload_n hx hb dL_undo_2 rfl (lv_at hl 0 rfl) ?_
  have hPc := hP.sub (ws' := [(h0, .inr (3, [.ref lg, .ref fs, .ref ps, .long fa, .long fb, .int mt, .int re])), (lg, .inr (0, [.ref lc, .ref lt, .int (nI k)])), (lc, .inl (cI, 36, .inl cs)), (lt, .inl (cI, 36, .inl ts))]) [0, 1, 2, 3] rfl
  have hDc := hD.sub (ws' := [(h0, .inr (3, [.ref lg, .ref fs, .ref ps, .long fa, .long fb, .int mt, .int re])), (lg, .inr (0, [.ref lc, .ref lt, .int (nI k)])), (lc, .inl (cI, 36, .inl cs)), (lt, .inl (cI, 36, .inl ts))]) [0, 1, 2, 3] (by decide) rfl
  have hFc := va_free (wc := [(h0, .inr (3, [.ref lg, .ref fs, .ref ps, .long fa, .long fb, .int mt, .int re])), (lg, .inr (0, [.ref lc, .ref lt, .int (nI k)])), (lc, .inl (cI, 36, .inl cs)), (lt, .inl (cI, 36, .inl ts))]) hD hS hA [0, 1, 2, 3] rfl
  refine va_calli (va_runV (As := []) (rest := [.int 0, .ref ob]) ⟨hx, hb, hml, hown, hts⟩ (c_X6_undo_marble l D cI cJ s.heap.size  h0 lg lc lt fs ps fa fb mt re cs ts k (by omega) j (by omega) (by omega) ht9 hc9) (cwV 0 hts gL_undo_X6_undo rfl rfl rfl (by decide +kernel) ⟨Nat.le_of_ble_eq_true rfl, Nat.le_of_ble_eq_true rfl⟩) ⟨(px_blindE pv_blind), va_recv hK hPc (ci := 3) (q0 := 0) rfl rfl, fun U hU hW => ⟨rfl, hEN.warm hW, by rw [hU], by rw [hU]; exact hPc, va_K.moved hW.alike hK, hDc.weaken (fun _ _ _ _ => trivial)⟩⟩ rfl rfl hl.1 rfl (lv_room (Nat.le_of_ble_eq_true rfl)) dL_undo_3 ⟨(Nat.le_of_ble_eq_true rfl), (Nat.le_of_ble_eq_true rfl)⟩) hS (fun q _ h => hFc q h) hFc (fun r3 u t9 H1 locs hth hvm hw3 hB hz1 hk1 hS => ?_)
  try dsimp only at hw3
  obtain ⟨hP1, hK1, hD1⟩ := hB
  rw [hth] at hP1
  obtain ⟨hP, hD⟩ := va_join (wr := [(ob, .inl (cJ, 1, .inr (.inl ov)))]) (w1 := [(h0, .inr (3, [.ref lg, .ref fs, .ref ps, .long (fa &&& (jshl 1 (nI j) ^^^ (-1))), .long (fb &&& (jshl 1 (nI j) ^^^ (-1))), .int 0, .int 0])), (lg, .inr (0, [.ref lc, .ref lt, .int (nI (k - 1))])), (lc, .inl (cI, 36, .inl cs)), (lt, .inl (cI, 36, .inl ts))]) hP hD [0, 1, 2, 3] [4] rfl rfl (by decide) (by decide) hk1 hFc hP1 hD1
  generalize H1 = H at hP hS ⊢
  have hP : va_P D vwCl [(h0, .inr (3, [.ref lg, .ref fs, .ref ps, .long (fa &&& (jshl 1 (nI j) ^^^ (-1))), .long (fb &&& (jshl 1 (nI j) ^^^ (-1))), .int 0, .int 0])), (lg, .inr (0, [.ref lc, .ref lt, .int (nI (k - 1))])), (lc, .inl (cI, 36, .inl cs)), (lt, .inl (cI, 36, .inl ts)), (ob, .inl (cJ, 1, .inr (.inl ov)))] H := hP.sub (ws' := [(h0, .inr (3, [.ref lg, .ref fs, .ref ps, .long (fa &&& (jshl 1 (nI j) ^^^ (-1))), .long (fb &&& (jshl 1 (nI j) ^^^ (-1))), .int 0, .int 0])), (lg, .inr (0, [.ref lc, .ref lt, .int (nI (k - 1))])), (lc, .inl (cI, 36, .inl cs)), (lt, .inl (cI, 36, .inl ts)), (ob, .inl (cJ, 1, .inr (.inl ov)))]) [1, 2, 3, 4, 0] rfl
  have hD : va_D A [(h0, .inr (3, [.ref lg, .ref fs, .ref ps, .long (fa &&& (jshl 1 (nI j) ^^^ (-1))), .long (fb &&& (jshl 1 (nI j) ^^^ (-1))), .int 0, .int 0])), (lg, .inr (0, [.ref lc, .ref lt, .int (nI (k - 1))])), (lc, .inl (cI, 36, .inl cs)), (lt, .inl (cI, 36, .inl ts)), (ob, .inl (cJ, 1, .inr (.inl ov)))] := hD.sub (ws' := [(h0, .inr (3, [.ref lg, .ref fs, .ref ps, .long (fa &&& (jshl 1 (nI j) ^^^ (-1))), .long (fb &&& (jshl 1 (nI j) ^^^ (-1))), .int 0, .int 0])), (lg, .inr (0, [.ref lc, .ref lt, .int (nI (k - 1))])), (lc, .inl (cI, 36, .inl cs)), (lt, .inl (cI, 36, .inl ts)), (ob, .inl (cJ, 1, .inr (.inl ov)))]) [1, 2, 3, 4, 0] (by decide) rfl
  obtain rfl := hw3.symm
  refine lv_if_eq (tgt := 13) hx hb dL_undo_6 (by decide) (fun c6 => ?_) (fun c6 => ?_)
  · refine lv_lconst (v := 0) hx hb dL_undo_13 (by decide) ?_
    refine va_last hx hb hK hP hD hS 4 1 rfl rfl (vp_in_nI (n := 0) (N := 1) (by omega) (by decide)) dL_undo_14 (fun H locs hP hD hS => ?_)
    have hu14 : (0 : Int32).toNatClampNeg = 0 := pk_cl 0
    rw [hu14] at hP hD
    have hP : va_P D vwCl [(h0, .inr (3, [.ref lg, .ref fs, .ref ps, .long (fa &&& (jshl 1 (nI j) ^^^ (-1))), .long (fb &&& (jshl 1 (nI j) ^^^ (-1))), .int 0, .int 0])), (lg, .inr (0, [.ref lc, .ref lt, .int (nI (k - 1))])), (lc, .inl (cI, 36, .inl cs)), (lt, .inl (cI, 36, .inl ts)), (ob, .inl (cJ, 1, .inr (.inl (vp_updL ov 0 0))))] H := hP
    have hD : va_D A [(h0, .inr (3, [.ref lg, .ref fs, .ref ps, .long (fa &&& (jshl 1 (nI j) ^^^ (-1))), .long (fb &&& (jshl 1 (nI j) ^^^ (-1))), .int 0, .int 0])), (lg, .inr (0, [.ref lc, .ref lt, .int (nI (k - 1))])), (lc, .inl (cI, 36, .inl cs)), (lt, .inl (cI, 36, .inl ts)), (ob, .inl (cJ, 1, .inr (.inl (vp_updL ov 0 0))))] := hD
    refine lv_goto (tgt := 21) hx hb dL_undo_15 (by decide) ?_
    refine lv_iconst (v := 0) hx hb dL_undo_21 (by decide) ?_
    refine W.iret (v := 0) hx hb hr (fun tt ht hW => ⟨⟨0, (), rfl, ?_, by rw [ht]; exact hP, va_K.moved hW.alike hK, hD⟩, hS.F ht⟩) hS.2.2 dL_undo_22
    exact rfl
  · exact absurd c6 (by decide)

set_option maxHeartbeats 400000 in
set_option maxRecDepth 100000 in
theorem c_L_lay_ok (l : Launch) (hltr : l.stackTraces = false) (D : va_G) (cI cJ : ClassId) (sz : Nat) (h0 lg lc lt fs ps : Nat) (fa fb : Int64) (mt re : Int32) (cs ts : Nat → Int32) (k : Nat) (hk : k ≤ 36) (ob : Nat) (ov : Nat → Int64) (f9 g9 : Int64) (hok : iboard f9 g9) : Met l yL_lay wsL_lay ({ frames := 8, cells := 1, slots := 6, locals := 138 } : Room) (va_Pc [.ref h0, .long f9, .long g9, .ref ob] (px_N (px_X (va_A [(h0, .inr (3, [.ref lg, .ref fs, .ref ps, .long fa, .long fb, .int mt, .int re])), (lg, .inr (0, [.ref lc, .ref lt, .int (nI k)])), (lc, .inl (cI, 36, .inl cs)), (lt, .inl (cI, 36, .inl ts)), (ob, .inl (cJ, 1, .inr (.inl ov)))] sz) (pv_C D cI cJ [(h0, .inr (3, [.ref lg, .ref fs, .ref ps, .long fa, .long fb, .int mt, .int re])), (lg, .inr (0, [.ref lc, .ref lt, .int (nI k)])), (lc, .inl (cI, 36, .inl cs)), (lt, .inl (cI, 36, .inl ts)), (ob, .inl (cJ, 1, .inr (.inl ov)))] sz)))) (va_Qi (fun (r : Int32) (u : (Int32)) => r = 0 ∧ (iboard f9 g9 ∧ u = cjudge f9 g9)) (fun (u : (Int32)) => pv_B D cI cJ (va_A [(h0, .inr (3, [.ref lg, .ref fs, .ref ps, .long fa, .long fb, .int mt, .int re])), (lg, .inr (0, [.ref lc, .ref lt, .int (nI k)])), (lc, .inl (cI, 36, .inl cs)), (lt, .inl (cI, 36, .inl ts)), (ob, .inl (cJ, 1, .inr (.inl ov)))] sz) [(h0, .inr (3, [.ref lg, .ref fs, .ref ps, .long f9, .long g9, .int 0, .int (cjudge f9 g9)])), (lg, .inr (0, [.ref lc, .ref lt, .int 0])), (lc, .inl (cI, 36, .inl cs)), (lt, .inl (cI, 36, .inl ts)), (ob, .inl (cJ, 1, .inr (.inl (vp_updL ov 0 (u).toInt64))))]) (va_A [(h0, .inr (3, [.ref lg, .ref fs, .ref ps, .long fa, .long fb, .int mt, .int re])), (lg, .inr (0, [.ref lc, .ref lt, .int (nI k)])), (lc, .inl (cI, 36, .inl cs)), (lt, .inl (cI, 36, .inl ts)), (ob, .inl (cJ, 1, .inr (.inl ov)))] sz)) 1 6 (va_A [(h0, .inr (3, [.ref lg, .ref fs, .ref ps, .long fa, .long fb, .int mt, .int re])), (lg, .inr (0, [.ref lc, .ref lt, .int (nI k)])), (lc, .inl (cI, 36, .inl cs)), (lt, .inl (cI, 36, .inl ts)), (ob, .inl (cJ, 1, .inr (.inl ov)))] sz) := by
  refine va_MetW (cc := cL_lay) (maxL := 7) (ret := (some .int)) (hh := [(0, 11, 14, 21)]) (by decide) rfl ?_
  intro p e s m args below meth c s₁ B hml hv
  obtain ⟨rfl, hNC, hEN, hEX, hZ, rfl, hP, hK, hD0⟩ := hv
  have hx := B.exec
  have hb := B.bytes
  have hr := B.returns
  have hts := atoms_spec (ws := wsL_lay) B.pre
  have hown : s.vm.findClass RL = some m.cls := findClass_of_methodNamed B.named
  have hlocks := B.notSynchronized
  have htb := vx_table (x := yL_lay) B (hts _ (List.mem_of_getElem? (i := 0) rfl))
  have hD := hD0.self (sz := s.heap.size)
  generalize hAe : va_A [(h0, .inr (3, [.ref lg, .ref fs, .ref ps, .long fa, .long fb, .int mt, .int re])), (lg, .inr (0, [.ref lc, .ref lt, .int (nI k)])), (lc, .inl (cI, 36, .inl cs)), (lt, .inl (cI, 36, .inl ts)), (ob, .inl (cJ, 1, .inr (.inl ov)))] s.heap.size = A at hD hZ ⊢
  have hA : ∀ q : Nat, s.heap.size ≤ q → A q := fun q h => by rw [← hAe]; exact Or.inr h
  have hS : va_S A s.heap s.heap [] := va_S.rf
  have hl := lv_entry ([.ref h0, .long f9, .long g9, .ref ob]) (n := 7) (Nat.le_of_ble_eq_true rfl)
  rw [lg_entry_eq]
  generalize (lg_sl ([.ref h0, .long f9, .long g9, .ref ob]) ++ List.replicate (7 - (lg_sl ([.ref h0, .long f9, .long g9, .ref ob])).length) Slot.unset).toArray = ls at hl ⊢
  have hl : lv_has ls 7 [(0, .ref h0), (1, .long f9), (3, .long g9), (5, .ref ob)] := hl
  refine lv_aload hx hb dL_lay_0 (lv_at hl 3 rfl) ?_
  refine lv_iconst (v := 0) hx hb dL_lay_2 (by decide) ?_
  refine lv_aload_n hx hb dL_lay_3 rfl (lv_at hl 0 rfl) ?_
  refine lv_lload_n hx hb dL_lay_4 rfl (lv_at hl 1 rfl) ?_
  refine lv_lload_n hx hb dL_lay_5 rfl (lv_at hl 2 rfl) ?_
  have hPc : va_P D vwCl [(h0, .inr (3, [.ref lg, .ref fs, .ref ps, .long fa, .long fb, .int mt, .int re])), (lg, .inr (0, [.ref lc, .ref lt, .int (nI k)])), (lc, .inl (cI, 36, .inl cs)), (lt, .inl (cI, 36, .inl ts))] s.heap := hP.sub (ws' := [(h0, .inr (3, [.ref lg, .ref fs, .ref ps, .long fa, .long fb, .int mt, .int re])), (lg, .inr (0, [.ref lc, .ref lt, .int (nI k)])), (lc, .inl (cI, 36, .inl cs)), (lt, .inl (cI, 36, .inl ts))]) [0, 1, 2, 3] rfl
  have hDc : va_D A [(h0, .inr (3, [.ref lg, .ref fs, .ref ps, .long fa, .long fb, .int mt, .int re])), (lg, .inr (0, [.ref lc, .ref lt, .int (nI k)])), (lc, .inl (cI, 36, .inl cs)), (lt, .inl (cI, 36, .inl ts))] := hD.sub (ws' := [(h0, .inr (3, [.ref lg, .ref fs, .ref ps, .long fa, .long fb, .int mt, .int re])), (lg, .inr (0, [.ref lc, .ref lt, .int (nI k)])), (lc, .inl (cI, 36, .inl cs)), (lt, .inl (cI, 36, .inl ts))]) [0, 1, 2, 3] (by decide) rfl
  have hFc := va_free (wc := [(h0, .inr (3, [.ref lg, .ref fs, .ref ps, .long fa, .long fb, .int mt, .int re])), (lg, .inr (0, [.ref lc, .ref lt, .int (nI k)])), (lc, .inl (cI, 36, .inl cs)), (lt, .inl (cI, 36, .inl ts))]) hD hS hA [0, 1, 2, 3] rfl
  refine vx_calli (vx_runV (As := [.long f9, .long g9]) (rest := [.int 0, .ref ob]) ⟨hx, hb, hml, hown, hts⟩ (c_X6_lay l hltr D cI cJ s.heap.size  h0 lg lc lt fs ps fa fb mt re cs ts k (by omega) f9 g9) (cwV 2 hts gL_lay_X6_lay rfl rfl rfl (by decide +kernel) ⟨Nat.le_of_ble_eq_true rfl, Nat.le_of_ble_eq_true rfl⟩) ⟨(px_blindX pv_blind), va_recv hK hPc (ci := 3) (q0 := 0) rfl rfl, fun U hU hW => ⟨rfl, hEX.warm hW, by rw [hU]; exact hZ.to hS hW.alike hFc, by rw [hU], by rw [hU]; exact hPc, va_K.moved hW.alike hK, hDc.weaken (fun _ _ _ _ => trivial)⟩⟩ rfl rfl hl.1 rfl (lv_room (Nat.le_of_ble_eq_true rfl)) dL_lay_6 ⟨(Nat.le_of_ble_eq_true rfl), (Nat.le_of_ble_eq_true rfl)⟩) hS (fun q _ h => hFc q h) hFc (fun q _ h => hFc q h) (fun E ce q9 u9 t9 H1 locs hth hvm hpx hB9 hz1 hk1 hS hce hcv hcl => ?_) (fun r6 u t9 H1 locs hth hvm hw6 hB9 hz1 hk1 hS => ?_)
  · obtain ⟨hb9, hP1, hK1, hD1⟩ := hB9
    rw [hth] at hP1
    obtain ⟨hP, hD⟩ := va_join (wr := [(ob, .inl (cJ, 1, .inr (.inl ov)))]) (w1 := [(h0, .inr (3, [.ref lg, .ref fs, .ref ps, .long fa, .long fb, .int mt, .int re])), (lg, .inr (0, [.ref lc, .ref lt, .int (nI k)])), (lc, .inl (cI, 36, .inl cs)), (lt, .inl (cI, 36, .inl ts))]) hP hD [0, 1, 2, 3] [4] rfl rfl (by decide) (by decide) hk1 hFc hP1 hD1
    have hP : va_P D vwCl [(h0, .inr (3, [.ref lg, .ref fs, .ref ps, .long fa, .long fb, .int mt, .int re])), (lg, .inr (0, [.ref lc, .ref lt, .int (nI k)])), (lc, .inl (cI, 36, .inl cs)), (lt, .inl (cI, 36, .inl ts)), (ob, .inl (cJ, 1, .inr (.inl ov)))] H1 := hP.sub (ws' := [(h0, .inr (3, [.ref lg, .ref fs, .ref ps, .long fa, .long fb, .int mt, .int re])), (lg, .inr (0, [.ref lc, .ref lt, .int (nI k)])), (lc, .inl (cI, 36, .inl cs)), (lt, .inl (cI, 36, .inl ts)), (ob, .inl (cJ, 1, .inr (.inl ov)))]) [1, 2, 3, 4, 0] rfl
    have hD : va_D A [(h0, .inr (3, [.ref lg, .ref fs, .ref ps, .long fa, .long fb, .int mt, .int re])), (lg, .inr (0, [.ref lc, .ref lt, .int (nI k)])), (lc, .inl (cI, 36, .inl cs)), (lt, .inl (cI, 36, .inl ts)), (ob, .inl (cJ, 1, .inr (.inl ov)))] := hD.sub (ws' := [(h0, .inr (3, [.ref lg, .ref fs, .ref ps, .long fa, .long fb, .int mt, .int re])), (lg, .inr (0, [.ref lc, .ref lt, .int (nI k)])), (lc, .inl (cI, 36, .inl cs)), (lt, .inl (cI, 36, .inl ts)), (ob, .inl (cJ, 1, .inr (.inl ov)))]) [1, 2, 3, 4, 0] (by decide) rfl
    exact (absurd hok hb9.2)
  · try dsimp only at hw6
    obtain ⟨hP1, hK1, hD1⟩ := hB9
    rw [hth] at hP1
    obtain ⟨hP, hD⟩ := va_join (wr := [(ob, .inl (cJ, 1, .inr (.inl ov)))]) (w1 := [(h0, .inr (3, [.ref lg, .ref fs, .ref ps, .long f9, .long g9, .int 0, .int (cjudge f9 g9)])), (lg, .inr (0, [.ref lc, .ref lt, .int 0])), (lc, .inl (cI, 36, .inl cs)), (lt, .inl (cI, 36, .inl ts))]) hP hD [0, 1, 2, 3] [4] rfl rfl (by decide) (by decide) hk1 hFc hP1 hD1
    generalize H1 = H at hP hS ⊢
    have hP : va_P D vwCl [(h0, .inr (3, [.ref lg, .ref fs, .ref ps, .long f9, .long g9, .int 0, .int (cjudge f9 g9)])), (lg, .inr (0, [.ref lc, .ref lt, .int 0])), (lc, .inl (cI, 36, .inl cs)), (lt, .inl (cI, 36, .inl ts)), (ob, .inl (cJ, 1, .inr (.inl ov)))] H := hP.sub (ws' := [(h0, .inr (3, [.ref lg, .ref fs, .ref ps, .long f9, .long g9, .int 0, .int (cjudge f9 g9)])), (lg, .inr (0, [.ref lc, .ref lt, .int 0])), (lc, .inl (cI, 36, .inl cs)), (lt, .inl (cI, 36, .inl ts)), (ob, .inl (cJ, 1, .inr (.inl ov)))]) [1, 2, 3, 4, 0] rfl
    have hD : va_D A [(h0, .inr (3, [.ref lg, .ref fs, .ref ps, .long f9, .long g9, .int 0, .int (cjudge f9 g9)])), (lg, .inr (0, [.ref lc, .ref lt, .int 0])), (lc, .inl (cI, 36, .inl cs)), (lt, .inl (cI, 36, .inl ts)), (ob, .inl (cJ, 1, .inr (.inl ov)))] := hD.sub (ws' := [(h0, .inr (3, [.ref lg, .ref fs, .ref ps, .long f9, .long g9, .int 0, .int (cjudge f9 g9)])), (lg, .inr (0, [.ref lc, .ref lt, .int 0])), (lc, .inl (cI, 36, .inl cs)), (lt, .inl (cI, 36, .inl ts)), (ob, .inl (cJ, 1, .inr (.inl ov)))]) [1, 2, 3, 4, 0] (by decide) rfl
    refine lv_i2l (v := (r6 : Int32).toInt64) hx hb dL_lay_9 rfl ?_
    refine lv_topl (fun x9 ex9 => ?_)
    refine va_last hx hb hK hP hD hS 4 1 rfl rfl (vp_in_nI (n := 0) (N := 1) (by omega) (by decide)) dL_lay_10 (fun H locs hP hD hS => ?_)
    have hu10 : (0 : Int32).toNatClampNeg = 0 := pk_cl 0
    rw [hu10] at hP hD
    have hP : va_P D vwCl [(h0, .inr (3, [.ref lg, .ref fs, .ref ps, .long f9, .long g9, .int 0, .int (cjudge f9 g9)])), (lg, .inr (0, [.ref lc, .ref lt, .int 0])), (lc, .inl (cI, 36, .inl cs)), (lt, .inl (cI, 36, .inl ts)), (ob, .inl (cJ, 1, .inr (.inl (vp_updL ov 0 x9))))] H := hP
    have hD : va_D A [(h0, .inr (3, [.ref lg, .ref fs, .ref ps, .long f9, .long g9, .int 0, .int (cjudge f9 g9)])), (lg, .inr (0, [.ref lc, .ref lt, .int 0])), (lc, .inl (cI, 36, .inl cs)), (lt, .inl (cI, 36, .inl ts)), (ob, .inl (cJ, 1, .inr (.inl (vp_updL ov 0 x9))))] := hD
    refine lv_goto (tgt := 18) hx hb dL_lay_11 (by decide) ?_
    refine lv_iconst (v := 0) hx hb dL_lay_18 (by decide) ?_
    obtain rfl := ex9.symm
    refine W.widen (k := 1) (n := 6) (Nat.le_of_ble_eq_true rfl) (Nat.le_of_ble_eq_true rfl) ?_
    refine W.iret (v := 0) hx hb hr (fun tt ht hW => ⟨⟨0, r6, rfl, ?_, by rw [ht]; exact hP, va_K.moved hW.alike hK, hD⟩, hS.F ht⟩) hS.2.2 dL_lay_19
    exact ⟨rfl, hw6⟩

set_option maxHeartbeats 400000 in
set_option maxRecDepth 100000 in
theorem c_L_lay_bad (l : Launch) (hltr : l.stackTraces = false) (D : va_G) (cI cJ : ClassId) (sz : Nat) (h0 lg lc lt fs ps : Nat) (fa fb : Int64) (mt re : Int32) (cs ts : Nat → Int32) (k : Nat) (hk : k ≤ 36) (ob : Nat) (ov : Nat → Int64) (f9 g9 : Int64) (hbad : ¬ iboard f9 g9) : Met l yL_lay wsL_lay ({ frames := 8, cells := 1, slots := 6, locals := 138 } : Room) (va_Pc [.ref h0, .long f9, .long g9, .ref ob] (px_N (px_X (va_A [(h0, .inr (3, [.ref lg, .ref fs, .ref ps, .long fa, .long fb, .int mt, .int re])), (lg, .inr (0, [.ref lc, .ref lt, .int (nI k)])), (lc, .inl (cI, 36, .inl cs)), (lt, .inl (cI, 36, .inl ts)), (ob, .inl (cJ, 1, .inr (.inl ov)))] sz) (pv_C D cI cJ [(h0, .inr (3, [.ref lg, .ref fs, .ref ps, .long fa, .long fb, .int mt, .int re])), (lg, .inr (0, [.ref lc, .ref lt, .int (nI k)])), (lc, .inl (cI, 36, .inl cs)), (lt, .inl (cI, 36, .inl ts)), (ob, .inl (cJ, 1, .inr (.inl ov)))] sz)))) (va_Qi (fun (r : Int32) (u : Unit) => r = 1) (fun (u : Unit) => pv_B D cI cJ (va_A [(h0, .inr (3, [.ref lg, .ref fs, .ref ps, .long fa, .long fb, .int mt, .int re])), (lg, .inr (0, [.ref lc, .ref lt, .int (nI k)])), (lc, .inl (cI, 36, .inl cs)), (lt, .inl (cI, 36, .inl ts)), (ob, .inl (cJ, 1, .inr (.inl ov)))] sz) [(h0, .inr (3, [.ref lg, .ref fs, .ref ps, .long fa, .long fb, .int mt, .int re])), (lg, .inr (0, [.ref lc, .ref lt, .int (nI k)])), (lc, .inl (cI, 36, .inl cs)), (lt, .inl (cI, 36, .inl ts)), (ob, .inl (cJ, 1, .inr (.inl ov)))]) (va_A [(h0, .inr (3, [.ref lg, .ref fs, .ref ps, .long fa, .long fb, .int mt, .int re])), (lg, .inr (0, [.ref lc, .ref lt, .int (nI k)])), (lc, .inl (cI, 36, .inl cs)), (lt, .inl (cI, 36, .inl ts)), (ob, .inl (cJ, 1, .inr (.inl ov)))] sz)) 1 6 (va_A [(h0, .inr (3, [.ref lg, .ref fs, .ref ps, .long fa, .long fb, .int mt, .int re])), (lg, .inr (0, [.ref lc, .ref lt, .int (nI k)])), (lc, .inl (cI, 36, .inl cs)), (lt, .inl (cI, 36, .inl ts)), (ob, .inl (cJ, 1, .inr (.inl ov)))] sz) := by
  refine va_MetW (cc := cL_lay) (maxL := 7) (ret := (some .int)) (hh := [(0, 11, 14, 21)]) (by decide) rfl ?_
  intro p e s m args below meth c s₁ B hml hv
  obtain ⟨rfl, hNC, hEN, hEX, hZ, rfl, hP, hK, hD0⟩ := hv
  have hx := B.exec
  have hb := B.bytes
  have hr := B.returns
  have hts := atoms_spec (ws := wsL_lay) B.pre
  have hown : s.vm.findClass RL = some m.cls := findClass_of_methodNamed B.named
  have hlocks := B.notSynchronized
  have htb := vx_table (x := yL_lay) B (hts _ (List.mem_of_getElem? (i := 0) rfl))
  have hD := hD0.self (sz := s.heap.size)
  generalize hAe : va_A [(h0, .inr (3, [.ref lg, .ref fs, .ref ps, .long fa, .long fb, .int mt, .int re])), (lg, .inr (0, [.ref lc, .ref lt, .int (nI k)])), (lc, .inl (cI, 36, .inl cs)), (lt, .inl (cI, 36, .inl ts)), (ob, .inl (cJ, 1, .inr (.inl ov)))] s.heap.size = A at hD hZ ⊢
  have hA : ∀ q : Nat, s.heap.size ≤ q → A q := fun q h => by rw [← hAe]; exact Or.inr h
  have hS : va_S A s.heap s.heap [] := va_S.rf
  have hl := lv_entry ([.ref h0, .long f9, .long g9, .ref ob]) (n := 7) (Nat.le_of_ble_eq_true rfl)
  rw [lg_entry_eq]
  generalize (lg_sl ([.ref h0, .long f9, .long g9, .ref ob]) ++ List.replicate (7 - (lg_sl ([.ref h0, .long f9, .long g9, .ref ob])).length) Slot.unset).toArray = ls at hl ⊢
  have hl : lv_has ls 7 [(0, .ref h0), (1, .long f9), (3, .long g9), (5, .ref ob)] := hl
  refine lv_aload hx hb dL_lay_0 (lv_at hl 3 rfl) ?_
  refine lv_iconst (v := 0) hx hb dL_lay_2 (by decide) ?_
  refine lv_aload_n hx hb dL_lay_3 rfl (lv_at hl 0 rfl) ?_
  refine lv_lload_n hx hb dL_lay_4 rfl (lv_at hl 1 rfl) ?_
  refine lv_lload_n hx hb dL_lay_5 rfl (lv_at hl 2 rfl) ?_
  have hPc : va_P D vwCl [(h0, .inr (3, [.ref lg, .ref fs, .ref ps, .long fa, .long fb, .int mt, .int re])), (lg, .inr (0, [.ref lc, .ref lt, .int (nI k)])), (lc, .inl (cI, 36, .inl cs)), (lt, .inl (cI, 36, .inl ts))] s.heap := hP.sub (ws' := [(h0, .inr (3, [.ref lg, .ref fs, .ref ps, .long fa, .long fb, .int mt, .int re])), (lg, .inr (0, [.ref lc, .ref lt, .int (nI k)])), (lc, .inl (cI, 36, .inl cs)), (lt, .inl (cI, 36, .inl ts))]) [0, 1, 2, 3] rfl
  have hDc : va_D A [(h0, .inr (3, [.ref lg, .ref fs, .ref ps, .long fa, .long fb, .int mt, .int re])), (lg, .inr (0, [.ref lc, .ref lt, .int (nI k)])), (lc, .inl (cI, 36, .inl cs)), (lt, .inl (cI, 36, .inl ts))] := hD.sub (ws' := [(h0, .inr (3, [.ref lg, .ref fs, .ref ps, .long fa, .long fb, .int mt, .int re])), (lg, .inr (0, [.ref lc, .ref lt, .int (nI k)])), (lc, .inl (cI, 36, .inl cs)), (lt, .inl (cI, 36, .inl ts))]) [0, 1, 2, 3] (by decide) rfl
  have hFc := va_free (wc := [(h0, .inr (3, [.ref lg, .ref fs, .ref ps, .long fa, .long fb, .int mt, .int re])), (lg, .inr (0, [.ref lc, .ref lt, .int (nI k)])), (lc, .inl (cI, 36, .inl cs)), (lt, .inl (cI, 36, .inl ts))]) hD hS hA [0, 1, 2, 3] rfl
  refine vx_calli (vx_runV (As := [.long f9, .long g9]) (rest := [.int 0, .ref ob]) ⟨hx, hb, hml, hown, hts⟩ (c_X6_lay l hltr D cI cJ s.heap.size  h0 lg lc lt fs ps fa fb mt re cs ts k (by omega) f9 g9) (cwV 2 hts gL_lay_X6_lay rfl rfl rfl (by decide +kernel) ⟨Nat.le_of_ble_eq_true rfl, Nat.le_of_ble_eq_true rfl⟩) ⟨(px_blindX pv_blind), va_recv hK hPc (ci := 3) (q0 := 0) rfl rfl, fun U hU hW => ⟨rfl, hEX.warm hW, by rw [hU]; exact hZ.to hS hW.alike hFc, by rw [hU], by rw [hU]; exact hPc, va_K.moved hW.alike hK, hDc.weaken (fun _ _ _ _ => trivial)⟩⟩ rfl rfl hl.1 rfl (lv_room (Nat.le_of_ble_eq_true rfl)) dL_lay_6 ⟨(Nat.le_of_ble_eq_true rfl), (Nat.le_of_ble_eq_true rfl)⟩) hS (fun q _ h => hFc q h) hFc (fun q _ h => hFc q h) (fun E ce q9 u9 t9 H1 locs hth hvm hpx hB9 hz1 hk1 hS hce hcv hcl => ?_) (fun r6 u t9 H1 locs hth hvm hw6 hB9 hz1 hk1 hS => ?_)
  · obtain ⟨hb9, hP1, hK1, hD1⟩ := hB9
    rw [hth] at hP1
    obtain ⟨hP, hD⟩ := va_join (wr := [(ob, .inl (cJ, 1, .inr (.inl ov)))]) (w1 := [(h0, .inr (3, [.ref lg, .ref fs, .ref ps, .long fa, .long fb, .int mt, .int re])), (lg, .inr (0, [.ref lc, .ref lt, .int (nI k)])), (lc, .inl (cI, 36, .inl cs)), (lt, .inl (cI, 36, .inl ts))]) hP hD [0, 1, 2, 3] [4] rfl rfl (by decide) (by decide) hk1 hFc hP1 hD1
    have hP : va_P D vwCl [(h0, .inr (3, [.ref lg, .ref fs, .ref ps, .long fa, .long fb, .int mt, .int re])), (lg, .inr (0, [.ref lc, .ref lt, .int (nI k)])), (lc, .inl (cI, 36, .inl cs)), (lt, .inl (cI, 36, .inl ts)), (ob, .inl (cJ, 1, .inr (.inl ov)))] H1 := hP.sub (ws' := [(h0, .inr (3, [.ref lg, .ref fs, .ref ps, .long fa, .long fb, .int mt, .int re])), (lg, .inr (0, [.ref lc, .ref lt, .int (nI k)])), (lc, .inl (cI, 36, .inl cs)), (lt, .inl (cI, 36, .inl ts)), (ob, .inl (cJ, 1, .inr (.inl ov)))]) [1, 2, 3, 4, 0] rfl
    have hD : va_D A [(h0, .inr (3, [.ref lg, .ref fs, .ref ps, .long fa, .long fb, .int mt, .int re])), (lg, .inr (0, [.ref lc, .ref lt, .int (nI k)])), (lc, .inl (cI, 36, .inl cs)), (lt, .inl (cI, 36, .inl ts)), (ob, .inl (cJ, 1, .inr (.inl ov)))] := hD.sub (ws' := [(h0, .inr (3, [.ref lg, .ref fs, .ref ps, .long fa, .long fb, .int mt, .int re])), (lg, .inr (0, [.ref lc, .ref lt, .int (nI k)])), (lc, .inl (cI, 36, .inl cs)), (lt, .inl (cI, 36, .inl ts)), (ob, .inl (cJ, 1, .inr (.inl ov)))]) [1, 2, 3, 4, 0] (by decide) rfl
    obtain rfl : E = nIAE := hb9.1
    refine vx_catch (own := RL) (name := nIAE) hown [] ⟨0, 11, 14, 21⟩ [] (htb.trans rfl) (fun z hz => nomatch hz) (by decide) (by decide) (hts (.classLink RL 21 nIAE) (by decide +kernel)) (va_Nw.use rfl hEX.2.2.2.1) hce hcv hcl ?_
    refine lv_astore (lv' := [(6, .ref q9), (0, .ref h0), (1, .long f9), (3, .long g9), (5, .ref ob)]) hx hb dL_lay_14 hl (by decide) rfl (fun ls hl => ?_)
    refine lv_iconst (v := 1) hx hb dL_lay_16 (by decide) ?_
    refine W.widen (k := 1) (n := 6) (Nat.le_of_ble_eq_true rfl) (Nat.le_of_ble_eq_true rfl) ?_
    refine W.iret (v := 1) hx hb hr (fun tt ht hW => ⟨⟨1, (), rfl, ?_, by rw [ht]; exact hP, va_K.moved hW.alike hK, hD⟩, hS.F ht⟩) hS.2.2 dL_lay_17
    exact rfl
  · try dsimp only at hw6
    exact absurd hw6.1 hbad

set_option maxHeartbeats 400000 in
set_option maxRecDepth 100000 in
theorem c_L_at_ok (l : Launch) (hltr : l.stackTraces = false) (D : va_G) (cI cJ : ClassId) (sz : Nat) (h0 lg fs ps : Nat) (fa fb : Int64) (mt re : Int32) (ob : Nat) (ov : Nat → Int64) (v : Int32) (hok : icell v) : Met l yL_at wsL_at ({ frames := 8, cells := 1, slots := 6, locals := 131 } : Room) (va_Pc [.ref h0, .int v, .ref ob] (px_N (px_X (va_A [(h0, .inr (3, [.ref lg, .ref fs, .ref ps, .long fa, .long fb, .int mt, .int re])), (ob, .inl (cJ, 1, .inr (.inl ov)))] sz) (pv_C D cI cJ [(h0, .inr (3, [.ref lg, .ref fs, .ref ps, .long fa, .long fb, .int mt, .int re])), (ob, .inl (cJ, 1, .inr (.inl ov)))] sz)))) (va_Qi (fun (r : Int32) (u : (Int32)) => r = 0 ∧ (icell v ∧ u = (if ¬ (fa &&& jshl 1 v) = 0 then 1 else if ¬ (fb &&& jshl 1 v) = 0 then 2 else 0))) (fun (u : (Int32)) => pv_B D cI cJ (va_A [(h0, .inr (3, [.ref lg, .ref fs, .ref ps, .long fa, .long fb, .int mt, .int re])), (ob, .inl (cJ, 1, .inr (.inl ov)))] sz) [(h0, .inr (3, [.ref lg, .ref fs, .ref ps, .long fa, .long fb, .int mt, .int re])), (ob, .inl (cJ, 1, .inr (.inl (vp_updL ov 0 (u).toInt64))))]) (va_A [(h0, .inr (3, [.ref lg, .ref fs, .ref ps, .long fa, .long fb, .int mt, .int re])), (ob, .inl (cJ, 1, .inr (.inl ov)))] sz)) 1 6 (va_A [(h0, .inr (3, [.ref lg, .ref fs, .ref ps, .long fa, .long fb, .int mt, .int re])), (ob, .inl (cJ, 1, .inr (.inl ov)))] sz) := by
  refine va_MetW (cc := cL_at) (maxL := 4) (ret := (some .int)) (hh := [(0, 9, 12, 13)]) (by decide) rfl ?_
  intro p e s m args below meth c s₁ B hml hv
  obtain ⟨rfl, hNC, hEN, hEX, hZ, rfl, hP, hK, hD0⟩ := hv
  have hx := B.exec
  have hb := B.bytes
  have hr := B.returns
  have hts := atoms_spec (ws := wsL_at) B.pre
  have hown : s.vm.findClass RL = some m.cls := findClass_of_methodNamed B.named
  have hlocks := B.notSynchronized
  have htb := vx_table (x := yL_at) B (hts _ (List.mem_of_getElem? (i := 0) rfl))
  have hD := hD0.self (sz := s.heap.size)
  generalize hAe : va_A [(h0, .inr (3, [.ref lg, .ref fs, .ref ps, .long fa, .long fb, .int mt, .int re])), (ob, .inl (cJ, 1, .inr (.inl ov)))] s.heap.size = A at hD hZ ⊢
  have hA : ∀ q : Nat, s.heap.size ≤ q → A q := fun q h => by rw [← hAe]; exact Or.inr h
  have hS : va_S A s.heap s.heap [] := va_S.rf
  have hl := lv_entry ([.ref h0, .int v, .ref ob]) (n := 4) (Nat.le_of_ble_eq_true rfl)
  rw [lg_entry_eq]
  generalize (lg_sl ([.ref h0, .int v, .ref ob]) ++ List.replicate (4 - (lg_sl ([.ref h0, .int v, .ref ob])).length) Slot.unset).toArray = ls at hl ⊢
  have hl : lv_has ls 4 [(0, .ref h0), (1, .int v), (2, .ref ob)] := hl
  refine lv_aload_n hx hb dL_at_0 rfl (lv_at hl 2 rfl) ?_
  refine lv_iconst (v := 0) hx hb dL_at_1 (by decide) ?_
  refine lv_aload_n hx hb dL_at_2 rfl (lv_at hl 0 rfl) ?_
  refine lv_iload_n hx hb dL_at_3 rfl (lv_at hl 1 rfl) ?_
  have hPc : va_P D vwCl [(h0, .inr (3, [.ref lg, .ref fs, .ref ps, .long fa, .long fb, .int mt, .int re]))] s.heap := hP.sub (ws' := [(h0, .inr (3, [.ref lg, .ref fs, .ref ps, .long fa, .long fb, .int mt, .int re]))]) [0] rfl
  have hDc : va_D A [(h0, .inr (3, [.ref lg, .ref fs, .ref ps, .long fa, .long fb, .int mt, .int re]))] := hD.sub (ws' := [(h0, .inr (3, [.ref lg, .ref fs, .ref ps, .long fa, .long fb, .int mt, .int re]))]) [0] (by decide) rfl
  have hFc := va_free (wc := [(h0, .inr (3, [.ref lg, .ref fs, .ref ps, .long fa, .long fb, .int mt, .int re]))]) hD hS hA [0] rfl
  refine vx_calli (vx_runV (As := [.int v]) (rest := [.int 0, .ref ob]) ⟨hx, hb, hml, hown, hts⟩ (c_X6_at l hltr D cI cJ s.heap.size  h0 lg fs ps fa fb mt re v) (cwV 1 hts gL_at_X6_at rfl rfl rfl (by decide +kernel) ⟨Nat.le_of_ble_eq_true rfl, Nat.le_of_ble_eq_true rfl⟩) ⟨(px_blindX pv_blind), va_recv hK hPc (ci := 3) (q0 := 0) rfl rfl, fun U hU hW => ⟨rfl, hEX.warm hW, by rw [hU]; exact hZ.to hS hW.alike hFc, by rw [hU], by rw [hU]; exact hPc, va_K.moved hW.alike hK, hDc.weaken (fun _ _ _ _ => trivial)⟩⟩ rfl rfl hl.1 rfl (lv_room (Nat.le_of_ble_eq_true rfl)) dL_at_4 ⟨(Nat.le_of_ble_eq_true rfl), (Nat.le_of_ble_eq_true rfl)⟩) hS (fun q _ h => hFc q h) hFc (fun q _ h => hFc q h) (fun E ce q9 u9 t9 H1 locs hth hvm hpx hB9 hz1 hk1 hS hce hcv hcl => ?_) (fun r4 u t9 H1 locs hth hvm hw4 hB9 hz1 hk1 hS => ?_)
  · obtain ⟨hb9, hP1, hK1, hD1⟩ := hB9
    rw [hth] at hP1
    obtain ⟨hP, hD⟩ := va_join (wr := [(ob, .inl (cJ, 1, .inr (.inl ov)))]) (w1 := [(h0, .inr (3, [.ref lg, .ref fs, .ref ps, .long fa, .long fb, .int mt, .int re]))]) hP hD [0] [1] rfl rfl (by decide) (by decide) hk1 hFc hP1 hD1
    have hP : va_P D vwCl [(h0, .inr (3, [.ref lg, .ref fs, .ref ps, .long fa, .long fb, .int mt, .int re])), (ob, .inl (cJ, 1, .inr (.inl ov)))] H1 := hP.sub (ws' := [(h0, .inr (3, [.ref lg, .ref fs, .ref ps, .long fa, .long fb, .int mt, .int re])), (ob, .inl (cJ, 1, .inr (.inl ov)))]) [1, 0] rfl
    have hD : va_D A [(h0, .inr (3, [.ref lg, .ref fs, .ref ps, .long fa, .long fb, .int mt, .int re])), (ob, .inl (cJ, 1, .inr (.inl ov)))] := hD.sub (ws' := [(h0, .inr (3, [.ref lg, .ref fs, .ref ps, .long fa, .long fb, .int mt, .int re])), (ob, .inl (cJ, 1, .inr (.inl ov)))]) [1, 0] (by decide) rfl
    exact (absurd hok hb9.2)
  · try dsimp only at hw4
    obtain ⟨hP1, hK1, hD1⟩ := hB9
    rw [hth] at hP1
    obtain ⟨hP, hD⟩ := va_join (wr := [(ob, .inl (cJ, 1, .inr (.inl ov)))]) (w1 := [(h0, .inr (3, [.ref lg, .ref fs, .ref ps, .long fa, .long fb, .int mt, .int re]))]) hP hD [0] [1] rfl rfl (by decide) (by decide) hk1 hFc hP1 hD1
    generalize H1 = H at hP hS ⊢
    have hP : va_P D vwCl [(h0, .inr (3, [.ref lg, .ref fs, .ref ps, .long fa, .long fb, .int mt, .int re])), (ob, .inl (cJ, 1, .inr (.inl ov)))] H := hP.sub (ws' := [(h0, .inr (3, [.ref lg, .ref fs, .ref ps, .long fa, .long fb, .int mt, .int re])), (ob, .inl (cJ, 1, .inr (.inl ov)))]) [1, 0] rfl
    have hD : va_D A [(h0, .inr (3, [.ref lg, .ref fs, .ref ps, .long fa, .long fb, .int mt, .int re])), (ob, .inl (cJ, 1, .inr (.inl ov)))] := hD.sub (ws' := [(h0, .inr (3, [.ref lg, .ref fs, .ref ps, .long fa, .long fb, .int mt, .int re])), (ob, .inl (cJ, 1, .inr (.inl ov)))]) [1, 0] (by decide) rfl
    refine lv_i2l (v := (r4 : Int32).toInt64) hx hb dL_at_7 rfl ?_
    refine lv_topl (fun x7 ex7 => ?_)
    refine va_last hx hb hK hP hD hS 1 1 rfl rfl (vp_in_nI (n := 0) (N := 1) (by omega) (by decide)) dL_at_8 (fun H locs hP hD hS => ?_)
    have hu8 : (0 : Int32).toNatClampNeg = 0 := pk_cl 0
    rw [hu8] at hP hD
    have hP : va_P D vwCl [(h0, .inr (3, [.ref lg, .ref fs, .ref ps, .long fa, .long fb, .int mt, .int re])), (ob, .inl (cJ, 1, .inr (.inl (vp_updL ov 0 x7))))] H := hP
    have hD : va_D A [(h0, .inr (3, [.ref lg, .ref fs, .ref ps, .long fa, .long fb, .int mt, .int re])), (ob, .inl (cJ, 1, .inr (.inl (vp_updL ov 0 x7))))] := hD
    refine lv_goto (tgt := 15) hx hb dL_at_9 (by decide) ?_
    refine lv_iconst (v := 0) hx hb dL_at_15 (by decide) ?_
    obtain rfl := ex7.symm
    refine W.widen (k := 1) (n := 6) (Nat.le_of_ble_eq_true rfl) (Nat.le_of_ble_eq_true rfl) ?_
    refine W.iret (v := 0) hx hb hr (fun tt ht hW => ⟨⟨0, r4, rfl, ?_, by rw [ht]; exact hP, va_K.moved hW.alike hK, hD⟩, hS.F ht⟩) hS.2.2 dL_at_16
    exact ⟨rfl, hw4⟩

set_option maxHeartbeats 400000 in
set_option maxRecDepth 100000 in
theorem c_L_at_bad (l : Launch) (hltr : l.stackTraces = false) (D : va_G) (cI cJ : ClassId) (sz : Nat) (h0 lg fs ps : Nat) (fa fb : Int64) (mt re : Int32) (ob : Nat) (ov : Nat → Int64) (v : Int32) (hbad : ¬ (icell v)) : Met l yL_at wsL_at ({ frames := 8, cells := 1, slots := 6, locals := 131 } : Room) (va_Pc [.ref h0, .int v, .ref ob] (px_N (px_X (va_A [(h0, .inr (3, [.ref lg, .ref fs, .ref ps, .long fa, .long fb, .int mt, .int re])), (ob, .inl (cJ, 1, .inr (.inl ov)))] sz) (pv_C D cI cJ [(h0, .inr (3, [.ref lg, .ref fs, .ref ps, .long fa, .long fb, .int mt, .int re])), (ob, .inl (cJ, 1, .inr (.inl ov)))] sz)))) (va_Qi (fun (r : Int32) (u : Unit) => r = 1) (fun (u : Unit) => pv_B D cI cJ (va_A [(h0, .inr (3, [.ref lg, .ref fs, .ref ps, .long fa, .long fb, .int mt, .int re])), (ob, .inl (cJ, 1, .inr (.inl ov)))] sz) [(h0, .inr (3, [.ref lg, .ref fs, .ref ps, .long fa, .long fb, .int mt, .int re])), (ob, .inl (cJ, 1, .inr (.inl ov)))]) (va_A [(h0, .inr (3, [.ref lg, .ref fs, .ref ps, .long fa, .long fb, .int mt, .int re])), (ob, .inl (cJ, 1, .inr (.inl ov)))] sz)) 1 6 (va_A [(h0, .inr (3, [.ref lg, .ref fs, .ref ps, .long fa, .long fb, .int mt, .int re])), (ob, .inl (cJ, 1, .inr (.inl ov)))] sz) := by
  refine va_MetW (cc := cL_at) (maxL := 4) (ret := (some .int)) (hh := [(0, 9, 12, 13)]) (by decide) rfl ?_
  intro p e s m args below meth c s₁ B hml hv
  obtain ⟨rfl, hNC, hEN, hEX, hZ, rfl, hP, hK, hD0⟩ := hv
  have hx := B.exec
  have hb := B.bytes
  have hr := B.returns
  have hts := atoms_spec (ws := wsL_at) B.pre
  have hown : s.vm.findClass RL = some m.cls := findClass_of_methodNamed B.named
  have hlocks := B.notSynchronized
  have htb := vx_table (x := yL_at) B (hts _ (List.mem_of_getElem? (i := 0) rfl))
  have hD := hD0.self (sz := s.heap.size)
  generalize hAe : va_A [(h0, .inr (3, [.ref lg, .ref fs, .ref ps, .long fa, .long fb, .int mt, .int re])), (ob, .inl (cJ, 1, .inr (.inl ov)))] s.heap.size = A at hD hZ ⊢
  have hA : ∀ q : Nat, s.heap.size ≤ q → A q := fun q h => by rw [← hAe]; exact Or.inr h
  have hS : va_S A s.heap s.heap [] := va_S.rf
  have hl := lv_entry ([.ref h0, .int v, .ref ob]) (n := 4) (Nat.le_of_ble_eq_true rfl)
  rw [lg_entry_eq]
  generalize (lg_sl ([.ref h0, .int v, .ref ob]) ++ List.replicate (4 - (lg_sl ([.ref h0, .int v, .ref ob])).length) Slot.unset).toArray = ls at hl ⊢
  have hl : lv_has ls 4 [(0, .ref h0), (1, .int v), (2, .ref ob)] := hl
  refine lv_aload_n hx hb dL_at_0 rfl (lv_at hl 2 rfl) ?_
  refine lv_iconst (v := 0) hx hb dL_at_1 (by decide) ?_
  refine lv_aload_n hx hb dL_at_2 rfl (lv_at hl 0 rfl) ?_
  refine lv_iload_n hx hb dL_at_3 rfl (lv_at hl 1 rfl) ?_
  have hPc : va_P D vwCl [(h0, .inr (3, [.ref lg, .ref fs, .ref ps, .long fa, .long fb, .int mt, .int re]))] s.heap := hP.sub (ws' := [(h0, .inr (3, [.ref lg, .ref fs, .ref ps, .long fa, .long fb, .int mt, .int re]))]) [0] rfl
  have hDc : va_D A [(h0, .inr (3, [.ref lg, .ref fs, .ref ps, .long fa, .long fb, .int mt, .int re]))] := hD.sub (ws' := [(h0, .inr (3, [.ref lg, .ref fs, .ref ps, .long fa, .long fb, .int mt, .int re]))]) [0] (by decide) rfl
  have hFc := va_free (wc := [(h0, .inr (3, [.ref lg, .ref fs, .ref ps, .long fa, .long fb, .int mt, .int re]))]) hD hS hA [0] rfl
  refine vx_calli (vx_runV (As := [.int v]) (rest := [.int 0, .ref ob]) ⟨hx, hb, hml, hown, hts⟩ (c_X6_at l hltr D cI cJ s.heap.size  h0 lg fs ps fa fb mt re v) (cwV 1 hts gL_at_X6_at rfl rfl rfl (by decide +kernel) ⟨Nat.le_of_ble_eq_true rfl, Nat.le_of_ble_eq_true rfl⟩) ⟨(px_blindX pv_blind), va_recv hK hPc (ci := 3) (q0 := 0) rfl rfl, fun U hU hW => ⟨rfl, hEX.warm hW, by rw [hU]; exact hZ.to hS hW.alike hFc, by rw [hU], by rw [hU]; exact hPc, va_K.moved hW.alike hK, hDc.weaken (fun _ _ _ _ => trivial)⟩⟩ rfl rfl hl.1 rfl (lv_room (Nat.le_of_ble_eq_true rfl)) dL_at_4 ⟨(Nat.le_of_ble_eq_true rfl), (Nat.le_of_ble_eq_true rfl)⟩) hS (fun q _ h => hFc q h) hFc (fun q _ h => hFc q h) (fun E ce q9 u9 t9 H1 locs hth hvm hpx hB9 hz1 hk1 hS hce hcv hcl => ?_) (fun r4 u t9 H1 locs hth hvm hw4 hB9 hz1 hk1 hS => ?_)
  · obtain ⟨hb9, hP1, hK1, hD1⟩ := hB9
    rw [hth] at hP1
    obtain ⟨hP, hD⟩ := va_join (wr := [(ob, .inl (cJ, 1, .inr (.inl ov)))]) (w1 := [(h0, .inr (3, [.ref lg, .ref fs, .ref ps, .long fa, .long fb, .int mt, .int re]))]) hP hD [0] [1] rfl rfl (by decide) (by decide) hk1 hFc hP1 hD1
    have hP : va_P D vwCl [(h0, .inr (3, [.ref lg, .ref fs, .ref ps, .long fa, .long fb, .int mt, .int re])), (ob, .inl (cJ, 1, .inr (.inl ov)))] H1 := hP.sub (ws' := [(h0, .inr (3, [.ref lg, .ref fs, .ref ps, .long fa, .long fb, .int mt, .int re])), (ob, .inl (cJ, 1, .inr (.inl ov)))]) [1, 0] rfl
    have hD : va_D A [(h0, .inr (3, [.ref lg, .ref fs, .ref ps, .long fa, .long fb, .int mt, .int re])), (ob, .inl (cJ, 1, .inr (.inl ov)))] := hD.sub (ws' := [(h0, .inr (3, [.ref lg, .ref fs, .ref ps, .long fa, .long fb, .int mt, .int re])), (ob, .inl (cJ, 1, .inr (.inl ov)))]) [1, 0] (by decide) rfl
    obtain rfl : E = nIOB := hb9.1
    refine vx_catch (own := RL) (name := nIOB) hown [] ⟨0, 9, 12, 13⟩ [] (htb.trans rfl) (fun z hz => nomatch hz) (by decide) (by decide) (hts (.classLink RL 13 nIOB) (by decide +kernel)) (va_Nw.use rfl hEX.2.1) hce hcv hcl ?_
    refine lv_astore_n (lv' := [(3, .ref q9), (0, .ref h0), (1, .int v), (2, .ref ob)]) hx hb dL_at_12 rfl hl (by decide) rfl (fun ls hl => ?_)
    refine lv_iconst (v := 1) hx hb dL_at_13 (by decide) ?_
    refine W.widen (k := 1) (n := 6) (Nat.le_of_ble_eq_true rfl) (Nat.le_of_ble_eq_true rfl) ?_
    refine W.iret (v := 1) hx hb hr (fun tt ht hW => ⟨⟨1, (), rfl, ?_, by rw [ht]; exact hP, va_K.moved hW.alike hK, hD⟩, hS.F ht⟩) hS.2.2 dL_at_14
    exact rfl
  · try dsimp only at hw4
    exact absurd hw4.1 hbad

set_option maxHeartbeats 400000 in
set_option maxRecDepth 100000 in
theorem c_L_lines_ok (l : Launch) (hltr : l.stackTraces = false) (D : va_G) (cI cJ : ClassId) (sz : Nat) (h0 lg fs ps : Nat) (fa fb : Int64) (mt re : Int32) (ob : Nat) (ov : Nat → Int64) (v : Int32) (hok : iside v) : Met l yL_lines wsL_lines ({ frames := 8, cells := 1, slots := 6, locals := 131 } : Room) (va_Pc [.ref h0, .int v, .ref ob] (px_N (px_X (va_A [(h0, .inr (3, [.ref lg, .ref fs, .ref ps, .long fa, .long fb, .int mt, .int re])), (ob, .inl (cJ, 1, .inr (.inl ov)))] sz) (pv_C D cI cJ [(h0, .inr (3, [.ref lg, .ref fs, .ref ps, .long fa, .long fb, .int mt, .int re])), (ob, .inl (cJ, 1, .inr (.inl ov)))] sz)))) (va_Qi (fun (r : Int32) (u : (Int32)) => r = 0 ∧ (iside v ∧ u = nI (clines (if v = 1 then fa else fb)))) (fun (u : (Int32)) => pv_B D cI cJ (va_A [(h0, .inr (3, [.ref lg, .ref fs, .ref ps, .long fa, .long fb, .int mt, .int re])), (ob, .inl (cJ, 1, .inr (.inl ov)))] sz) [(h0, .inr (3, [.ref lg, .ref fs, .ref ps, .long fa, .long fb, .int mt, .int re])), (ob, .inl (cJ, 1, .inr (.inl (vp_updL ov 0 (u).toInt64))))]) (va_A [(h0, .inr (3, [.ref lg, .ref fs, .ref ps, .long fa, .long fb, .int mt, .int re])), (ob, .inl (cJ, 1, .inr (.inl ov)))] sz)) 1 6 (va_A [(h0, .inr (3, [.ref lg, .ref fs, .ref ps, .long fa, .long fb, .int mt, .int re])), (ob, .inl (cJ, 1, .inr (.inl ov)))] sz) := by
  refine va_MetW (cc := cL_lines) (maxL := 4) (ret := (some .int)) (hh := [(0, 9, 12, 13)]) (by decide) rfl ?_
  intro p e s m args below meth c s₁ B hml hv
  obtain ⟨rfl, hNC, hEN, hEX, hZ, rfl, hP, hK, hD0⟩ := hv
  have hx := B.exec
  have hb := B.bytes
  have hr := B.returns
  have hts := atoms_spec (ws := wsL_lines) B.pre
  have hown : s.vm.findClass RL = some m.cls := findClass_of_methodNamed B.named
  have hlocks := B.notSynchronized
  have htb := vx_table (x := yL_lines) B (hts _ (List.mem_of_getElem? (i := 0) rfl))
  have hD := hD0.self (sz := s.heap.size)
  generalize hAe : va_A [(h0, .inr (3, [.ref lg, .ref fs, .ref ps, .long fa, .long fb, .int mt, .int re])), (ob, .inl (cJ, 1, .inr (.inl ov)))] s.heap.size = A at hD hZ ⊢
  have hA : ∀ q : Nat, s.heap.size ≤ q → A q := fun q h => by rw [← hAe]; exact Or.inr h
  have hS : va_S A s.heap s.heap [] := va_S.rf
  have hl := lv_entry ([.ref h0, .int v, .ref ob]) (n := 4) (Nat.le_of_ble_eq_true rfl)
  rw [lg_entry_eq]
  generalize (lg_sl ([.ref h0, .int v, .ref ob]) ++ List.replicate (4 - (lg_sl ([.ref h0, .int v, .ref ob])).length) Slot.unset).toArray = ls at hl ⊢
  have hl : lv_has ls 4 [(0, .ref h0), (1, .int v), (2, .ref ob)] := hl
  refine lv_aload_n hx hb dL_lines_0 rfl (lv_at hl 2 rfl) ?_
  refine lv_iconst (v := 0) hx hb dL_lines_1 (by decide) ?_
  refine lv_aload_n hx hb dL_lines_2 rfl (lv_at hl 0 rfl) ?_
  refine lv_iload_n hx hb dL_lines_3 rfl (lv_at hl 1 rfl) ?_
  have hPc : va_P D vwCl [(h0, .inr (3, [.ref lg, .ref fs, .ref ps, .long fa, .long fb, .int mt, .int re]))] s.heap := hP.sub (ws' := [(h0, .inr (3, [.ref lg, .ref fs, .ref ps, .long fa, .long fb, .int mt, .int re]))]) [0] rfl
  have hDc : va_D A [(h0, .inr (3, [.ref lg, .ref fs, .ref ps, .long fa, .long fb, .int mt, .int re]))] := hD.sub (ws' := [(h0, .inr (3, [.ref lg, .ref fs, .ref ps, .long fa, .long fb, .int mt, .int re]))]) [0] (by decide) rfl
  have hFc := va_free (wc := [(h0, .inr (3, [.ref lg, .ref fs, .ref ps, .long fa, .long fb, .int mt, .int re]))]) hD hS hA [0] rfl
  refine vx_calli (vx_runV (As := [.int v]) (rest := [.int 0, .ref ob]) ⟨hx, hb, hml, hown, hts⟩ (c_X6_lines l hltr D cI cJ s.heap.size  h0 lg fs ps fa fb mt re v) (cwV 1 hts gL_lines_X6_lines rfl rfl rfl (by decide +kernel) ⟨Nat.le_of_ble_eq_true rfl, Nat.le_of_ble_eq_true rfl⟩) ⟨(px_blindX pv_blind), va_recv hK hPc (ci := 3) (q0 := 0) rfl rfl, fun U hU hW => ⟨rfl, hEX.warm hW, by rw [hU]; exact hZ.to hS hW.alike hFc, by rw [hU], by rw [hU]; exact hPc, va_K.moved hW.alike hK, hDc.weaken (fun _ _ _ _ => trivial)⟩⟩ rfl rfl hl.1 rfl (lv_room (Nat.le_of_ble_eq_true rfl)) dL_lines_4 ⟨(Nat.le_of_ble_eq_true rfl), (Nat.le_of_ble_eq_true rfl)⟩) hS (fun q _ h => hFc q h) hFc (fun q _ h => hFc q h) (fun E ce q9 u9 t9 H1 locs hth hvm hpx hB9 hz1 hk1 hS hce hcv hcl => ?_) (fun r4 u t9 H1 locs hth hvm hw4 hB9 hz1 hk1 hS => ?_)
  · obtain ⟨hb9, hP1, hK1, hD1⟩ := hB9
    rw [hth] at hP1
    obtain ⟨hP, hD⟩ := va_join (wr := [(ob, .inl (cJ, 1, .inr (.inl ov)))]) (w1 := [(h0, .inr (3, [.ref lg, .ref fs, .ref ps, .long fa, .long fb, .int mt, .int re]))]) hP hD [0] [1] rfl rfl (by decide) (by decide) hk1 hFc hP1 hD1
    have hP : va_P D vwCl [(h0, .inr (3, [.ref lg, .ref fs, .ref ps, .long fa, .long fb, .int mt, .int re])), (ob, .inl (cJ, 1, .inr (.inl ov)))] H1 := hP.sub (ws' := [(h0, .inr (3, [.ref lg, .ref fs, .ref ps, .long fa, .long fb, .int mt, .int re])), (ob, .inl (cJ, 1, .inr (.inl ov)))]) [1, 0] rfl
    have hD : va_D A [(h0, .inr (3, [.ref lg, .ref fs, .ref ps, .long fa, .long fb, .int mt, .int re])), (ob, .inl (cJ, 1, .inr (.inl ov)))] := hD.sub (ws' := [(h0, .inr (3, [.ref lg, .ref fs, .ref ps, .long fa, .long fb, .int mt, .int re])), (ob, .inl (cJ, 1, .inr (.inl ov)))]) [1, 0] (by decide) rfl
    exact (absurd hok hb9.2)
  · try dsimp only at hw4
    obtain ⟨hP1, hK1, hD1⟩ := hB9
    rw [hth] at hP1
    obtain ⟨hP, hD⟩ := va_join (wr := [(ob, .inl (cJ, 1, .inr (.inl ov)))]) (w1 := [(h0, .inr (3, [.ref lg, .ref fs, .ref ps, .long fa, .long fb, .int mt, .int re]))]) hP hD [0] [1] rfl rfl (by decide) (by decide) hk1 hFc hP1 hD1
    generalize H1 = H at hP hS ⊢
    have hP : va_P D vwCl [(h0, .inr (3, [.ref lg, .ref fs, .ref ps, .long fa, .long fb, .int mt, .int re])), (ob, .inl (cJ, 1, .inr (.inl ov)))] H := hP.sub (ws' := [(h0, .inr (3, [.ref lg, .ref fs, .ref ps, .long fa, .long fb, .int mt, .int re])), (ob, .inl (cJ, 1, .inr (.inl ov)))]) [1, 0] rfl
    have hD : va_D A [(h0, .inr (3, [.ref lg, .ref fs, .ref ps, .long fa, .long fb, .int mt, .int re])), (ob, .inl (cJ, 1, .inr (.inl ov)))] := hD.sub (ws' := [(h0, .inr (3, [.ref lg, .ref fs, .ref ps, .long fa, .long fb, .int mt, .int re])), (ob, .inl (cJ, 1, .inr (.inl ov)))]) [1, 0] (by decide) rfl
    refine lv_i2l (v := (r4 : Int32).toInt64) hx hb dL_lines_7 rfl ?_
    refine lv_topl (fun x7 ex7 => ?_)
    refine va_last hx hb hK hP hD hS 1 1 rfl rfl (vp_in_nI (n := 0) (N := 1) (by omega) (by decide)) dL_lines_8 (fun H locs hP hD hS => ?_)
    have hu8 : (0 : Int32).toNatClampNeg = 0 := pk_cl 0
    rw [hu8] at hP hD
    have hP : va_P D vwCl [(h0, .inr (3, [.ref lg, .ref fs, .ref ps, .long fa, .long fb, .int mt, .int re])), (ob, .inl (cJ, 1, .inr (.inl (vp_updL ov 0 x7))))] H := hP
    have hD : va_D A [(h0, .inr (3, [.ref lg, .ref fs, .ref ps, .long fa, .long fb, .int mt, .int re])), (ob, .inl (cJ, 1, .inr (.inl (vp_updL ov 0 x7))))] := hD
    refine lv_goto (tgt := 15) hx hb dL_lines_9 (by decide) ?_
    refine lv_iconst (v := 0) hx hb dL_lines_15 (by decide) ?_
    obtain rfl := ex7.symm
    refine W.widen (k := 1) (n := 6) (Nat.le_of_ble_eq_true rfl) (Nat.le_of_ble_eq_true rfl) ?_
    refine W.iret (v := 0) hx hb hr (fun tt ht hW => ⟨⟨0, r4, rfl, ?_, by rw [ht]; exact hP, va_K.moved hW.alike hK, hD⟩, hS.F ht⟩) hS.2.2 dL_lines_16
    exact ⟨rfl, hw4⟩

set_option maxHeartbeats 400000 in
set_option maxRecDepth 100000 in
theorem c_L_lines_bad (l : Launch) (hltr : l.stackTraces = false) (D : va_G) (cI cJ : ClassId) (sz : Nat) (h0 lg fs ps : Nat) (fa fb : Int64) (mt re : Int32) (ob : Nat) (ov : Nat → Int64) (v : Int32) (hbad : ¬ (iside v)) : Met l yL_lines wsL_lines ({ frames := 8, cells := 1, slots := 6, locals := 131 } : Room) (va_Pc [.ref h0, .int v, .ref ob] (px_N (px_X (va_A [(h0, .inr (3, [.ref lg, .ref fs, .ref ps, .long fa, .long fb, .int mt, .int re])), (ob, .inl (cJ, 1, .inr (.inl ov)))] sz) (pv_C D cI cJ [(h0, .inr (3, [.ref lg, .ref fs, .ref ps, .long fa, .long fb, .int mt, .int re])), (ob, .inl (cJ, 1, .inr (.inl ov)))] sz)))) (va_Qi (fun (r : Int32) (u : Unit) => r = 1) (fun (u : Unit) => pv_B D cI cJ (va_A [(h0, .inr (3, [.ref lg, .ref fs, .ref ps, .long fa, .long fb, .int mt, .int re])), (ob, .inl (cJ, 1, .inr (.inl ov)))] sz) [(h0, .inr (3, [.ref lg, .ref fs, .ref ps, .long fa, .long fb, .int mt, .int re])), (ob, .inl (cJ, 1, .inr (.inl ov)))]) (va_A [(h0, .inr (3, [.ref lg, .ref fs, .ref ps, .long fa, .long fb, .int mt, .int re])), (ob, .inl (cJ, 1, .inr (.inl ov)))] sz)) 1 6 (va_A [(h0, .inr (3, [.ref lg, .ref fs, .ref ps, .long fa, .long fb, .int mt, .int re])), (ob, .inl (cJ, 1, .inr (.inl ov)))] sz) := by
  refine va_MetW (cc := cL_lines) (maxL := 4) (ret := (some .int)) (hh := [(0, 9, 12, 13)]) (by decide) rfl ?_
  intro p e s m args below meth c s₁ B hml hv
  obtain ⟨rfl, hNC, hEN, hEX, hZ, rfl, hP, hK, hD0⟩ := hv
  have hx := B.exec
  have hb := B.bytes
  have hr := B.returns
  have hts := atoms_spec (ws := wsL_lines) B.pre
  have hown : s.vm.findClass RL = some m.cls := findClass_of_methodNamed B.named
  have hlocks := B.notSynchronized
  have htb := vx_table (x := yL_lines) B (hts _ (List.mem_of_getElem? (i := 0) rfl))
  have hD := hD0.self (sz := s.heap.size)
  generalize hAe : va_A [(h0, .inr (3, [.ref lg, .ref fs, .ref ps, .long fa, .long fb, .int mt, .int re])), (ob, .inl (cJ, 1, .inr (.inl ov)))] s.heap.size = A at hD hZ ⊢
  have hA : ∀ q : Nat, s.heap.size ≤ q → A q := fun q h => by rw [← hAe]; exact Or.inr h
  have hS : va_S A s.heap s.heap [] := va_S.rf
  have hl := lv_entry ([.ref h0, .int v, .ref ob]) (n := 4) (Nat.le_of_ble_eq_true rfl)
  rw [lg_entry_eq]
  generalize (lg_sl ([.ref h0, .int v, .ref ob]) ++ List.replicate (4 - (lg_sl ([.ref h0, .int v, .ref ob])).length) Slot.unset).toArray = ls at hl ⊢
  have hl : lv_has ls 4 [(0, .ref h0), (1, .int v), (2, .ref ob)] := hl
  refine lv_aload_n hx hb dL_lines_0 rfl (lv_at hl 2 rfl) ?_
  refine lv_iconst (v := 0) hx hb dL_lines_1 (by decide) ?_
  refine lv_aload_n hx hb dL_lines_2 rfl (lv_at hl 0 rfl) ?_
  refine lv_iload_n hx hb dL_lines_3 rfl (lv_at hl 1 rfl) ?_
  have hPc : va_P D vwCl [(h0, .inr (3, [.ref lg, .ref fs, .ref ps, .long fa, .long fb, .int mt, .int re]))] s.heap := hP.sub (ws' := [(h0, .inr (3, [.ref lg, .ref fs, .ref ps, .long fa, .long fb, .int mt, .int re]))]) [0] rfl
  have hDc : va_D A [(h0, .inr (3, [.ref lg, .ref fs, .ref ps, .long fa, .long fb, .int mt, .int re]))] := hD.sub (ws' := [(h0, .inr (3, [.ref lg, .ref fs, .ref ps, .long fa, .long fb, .int mt, .int re]))]) [0] (by decide) rfl
  have hFc := va_free (wc := [(h0, .inr (3, [.ref lg, .ref fs, .ref ps, .long fa, .long fb, .int mt, .int re]))]) hD hS hA [0] rfl
  refine vx_calli (vx_runV (As := [.int v]) (rest := [.int 0, .ref ob]) ⟨hx, hb, hml, hown, hts⟩ (c_X6_lines l hltr D cI cJ s.heap.size  h0 lg fs ps fa fb mt re v) (cwV 1 hts gL_lines_X6_lines rfl rfl rfl (by decide +kernel) ⟨Nat.le_of_ble_eq_true rfl, Nat.le_of_ble_eq_true rfl⟩) ⟨(px_blindX pv_blind), va_recv hK hPc (ci := 3) (q0 := 0) rfl rfl, fun U hU hW => ⟨rfl, hEX.warm hW, by rw [hU]; exact hZ.to hS hW.alike hFc, by rw [hU], by rw [hU]; exact hPc, va_K.moved hW.alike hK, hDc.weaken (fun _ _ _ _ => trivial)⟩⟩ rfl rfl hl.1 rfl (lv_room (Nat.le_of_ble_eq_true rfl)) dL_lines_4 ⟨(Nat.le_of_ble_eq_true rfl), (Nat.le_of_ble_eq_true rfl)⟩) hS (fun q _ h => hFc q h) hFc (fun q _ h => hFc q h) (fun E ce q9 u9 t9 H1 locs hth hvm hpx hB9 hz1 hk1 hS hce hcv hcl => ?_) (fun r4 u t9 H1 locs hth hvm hw4 hB9 hz1 hk1 hS => ?_)
  · obtain ⟨hb9, hP1, hK1, hD1⟩ := hB9
    rw [hth] at hP1
    obtain ⟨hP, hD⟩ := va_join (wr := [(ob, .inl (cJ, 1, .inr (.inl ov)))]) (w1 := [(h0, .inr (3, [.ref lg, .ref fs, .ref ps, .long fa, .long fb, .int mt, .int re]))]) hP hD [0] [1] rfl rfl (by decide) (by decide) hk1 hFc hP1 hD1
    have hP : va_P D vwCl [(h0, .inr (3, [.ref lg, .ref fs, .ref ps, .long fa, .long fb, .int mt, .int re])), (ob, .inl (cJ, 1, .inr (.inl ov)))] H1 := hP.sub (ws' := [(h0, .inr (3, [.ref lg, .ref fs, .ref ps, .long fa, .long fb, .int mt, .int re])), (ob, .inl (cJ, 1, .inr (.inl ov)))]) [1, 0] rfl
    have hD : va_D A [(h0, .inr (3, [.ref lg, .ref fs, .ref ps, .long fa, .long fb, .int mt, .int re])), (ob, .inl (cJ, 1, .inr (.inl ov)))] := hD.sub (ws' := [(h0, .inr (3, [.ref lg, .ref fs, .ref ps, .long fa, .long fb, .int mt, .int re])), (ob, .inl (cJ, 1, .inr (.inl ov)))]) [1, 0] (by decide) rfl
    obtain rfl : E = nIOB := hb9.1
    refine vx_catch (own := RL) (name := nIOB) hown [] ⟨0, 9, 12, 13⟩ [] (htb.trans rfl) (fun z hz => nomatch hz) (by decide) (by decide) (hts (.classLink RL 13 nIOB) (by decide +kernel)) (va_Nw.use rfl hEX.2.1) hce hcv hcl ?_
    refine lv_astore_n (lv' := [(3, .ref q9), (0, .ref h0), (1, .int v), (2, .ref ob)]) hx hb dL_lines_12 rfl hl (by decide) rfl (fun ls hl => ?_)
    refine lv_iconst (v := 1) hx hb dL_lines_13 (by decide) ?_
    refine W.widen (k := 1) (n := 6) (Nat.le_of_ble_eq_true rfl) (Nat.le_of_ble_eq_true rfl) ?_
    refine W.iret (v := 1) hx hb hr (fun tt ht hW => ⟨⟨1, (), rfl, ?_, by rw [ht]; exact hP, va_K.moved hW.alike hK, hD⟩, hS.F ht⟩) hS.2.2 dL_lines_14
    exact rfl
  · try dsimp only at hw4
    exact absurd hw4.1 hbad

set_option maxHeartbeats 400000 in
set_option maxRecDepth 100000 in
theorem c_L_fours_ok (l : Launch) (hltr : l.stackTraces = false) (D : va_G) (cI cJ : ClassId) (sz : Nat) (h0 lg fs ps : Nat) (fa fb : Int64) (mt re : Int32) (ob : Nat) (ov : Nat → Int64) (v : Int32) (hok : iside v) : Met l yL_fours wsL_fours ({ frames := 8, cells := 1, slots := 6, locals := 131 } : Room) (va_Pc [.ref h0, .int v, .ref ob] (px_N (px_X (va_A [(h0, .inr (3, [.ref lg, .ref fs, .ref ps, .long fa, .long fb, .int mt, .int re])), (ob, .inl (cJ, 1, .inr (.inl ov)))] sz) (pv_C D cI cJ [(h0, .inr (3, [.ref lg, .ref fs, .ref ps, .long fa, .long fb, .int mt, .int re])), (ob, .inl (cJ, 1, .inr (.inl ov)))] sz)))) (va_Qi (fun (r : Int32) (u : (Int32)) => r = 0 ∧ (iside v ∧ u = nI (cfours (if v = 1 then fa else fb) (cempty fa fb) 5))) (fun (u : (Int32)) => pv_B D cI cJ (va_A [(h0, .inr (3, [.ref lg, .ref fs, .ref ps, .long fa, .long fb, .int mt, .int re])), (ob, .inl (cJ, 1, .inr (.inl ov)))] sz) [(h0, .inr (3, [.ref lg, .ref fs, .ref ps, .long fa, .long fb, .int mt, .int re])), (ob, .inl (cJ, 1, .inr (.inl (vp_updL ov 0 (u).toInt64))))]) (va_A [(h0, .inr (3, [.ref lg, .ref fs, .ref ps, .long fa, .long fb, .int mt, .int re])), (ob, .inl (cJ, 1, .inr (.inl ov)))] sz)) 1 6 (va_A [(h0, .inr (3, [.ref lg, .ref fs, .ref ps, .long fa, .long fb, .int mt, .int re])), (ob, .inl (cJ, 1, .inr (.inl ov)))] sz) := by
  refine va_MetW (cc := cL_fours) (maxL := 4) (ret := (some .int)) (hh := [(0, 9, 12, 13)]) (by decide) rfl ?_
  intro p e s m args below meth c s₁ B hml hv
  obtain ⟨rfl, hNC, hEN, hEX, hZ, rfl, hP, hK, hD0⟩ := hv
  have hx := B.exec
  have hb := B.bytes
  have hr := B.returns
  have hts := atoms_spec (ws := wsL_fours) B.pre
  have hown : s.vm.findClass RL = some m.cls := findClass_of_methodNamed B.named
  have hlocks := B.notSynchronized
  have htb := vx_table (x := yL_fours) B (hts _ (List.mem_of_getElem? (i := 0) rfl))
  have hD := hD0.self (sz := s.heap.size)
  generalize hAe : va_A [(h0, .inr (3, [.ref lg, .ref fs, .ref ps, .long fa, .long fb, .int mt, .int re])), (ob, .inl (cJ, 1, .inr (.inl ov)))] s.heap.size = A at hD hZ ⊢
  have hA : ∀ q : Nat, s.heap.size ≤ q → A q := fun q h => by rw [← hAe]; exact Or.inr h
  have hS : va_S A s.heap s.heap [] := va_S.rf
  have hl := lv_entry ([.ref h0, .int v, .ref ob]) (n := 4) (Nat.le_of_ble_eq_true rfl)
  rw [lg_entry_eq]
  generalize (lg_sl ([.ref h0, .int v, .ref ob]) ++ List.replicate (4 - (lg_sl ([.ref h0, .int v, .ref ob])).length) Slot.unset).toArray = ls at hl ⊢
  have hl : lv_has ls 4 [(0, .ref h0), (1, .int v), (2, .ref ob)] := hl
  refine lv_aload_n hx hb dL_fours_0 rfl (lv_at hl 2 rfl) ?_
  refine lv_iconst (v := 0) hx hb dL_fours_1 (by decide) ?_
  refine lv_aload_n hx hb dL_fours_2 rfl (lv_at hl 0 rfl) ?_
  refine lv_iload_n hx hb dL_fours_3 rfl (lv_at hl 1 rfl) ?_
  have hPc : va_P D vwCl [(h0, .inr (3, [.ref lg, .ref fs, .ref ps, .long fa, .long fb, .int mt, .int re]))] s.heap := hP.sub (ws' := [(h0, .inr (3, [.ref lg, .ref fs, .ref ps, .long fa, .long fb, .int mt, .int re]))]) [0] rfl
  have hDc : va_D A [(h0, .inr (3, [.ref lg, .ref fs, .ref ps, .long fa, .long fb, .int mt, .int re]))] := hD.sub (ws' := [(h0, .inr (3, [.ref lg, .ref fs, .ref ps, .long fa, .long fb, .int mt, .int re]))]) [0] (by decide) rfl
  have hFc := va_free (wc := [(h0, .inr (3, [.ref lg, .ref fs, .ref ps, .long fa, .long fb, .int mt, .int re]))]) hD hS hA [0] rfl
  refine vx_calli (vx_runV (As := [.int v]) (rest := [.int 0, .ref ob]) ⟨hx, hb, hml, hown, hts⟩ (c_X6_fours l hltr D cI cJ s.heap.size  h0 lg fs ps fa fb mt re v) (cwV 1 hts gL_fours_X6_fours rfl rfl rfl (by decide +kernel) ⟨Nat.le_of_ble_eq_true rfl, Nat.le_of_ble_eq_true rfl⟩) ⟨(px_blindX pv_blind), va_recv hK hPc (ci := 3) (q0 := 0) rfl rfl, fun U hU hW => ⟨rfl, hEX.warm hW, by rw [hU]; exact hZ.to hS hW.alike hFc, by rw [hU], by rw [hU]; exact hPc, va_K.moved hW.alike hK, hDc.weaken (fun _ _ _ _ => trivial)⟩⟩ rfl rfl hl.1 rfl (lv_room (Nat.le_of_ble_eq_true rfl)) dL_fours_4 ⟨(Nat.le_of_ble_eq_true rfl), (Nat.le_of_ble_eq_true rfl)⟩) hS (fun q _ h => hFc q h) hFc (fun q _ h => hFc q h) (fun E ce q9 u9 t9 H1 locs hth hvm hpx hB9 hz1 hk1 hS hce hcv hcl => ?_) (fun r4 u t9 H1 locs hth hvm hw4 hB9 hz1 hk1 hS => ?_)
  · obtain ⟨hb9, hP1, hK1, hD1⟩ := hB9
    rw [hth] at hP1
    obtain ⟨hP, hD⟩ := va_join (wr := [(ob, .inl (cJ, 1, .inr (.inl ov)))]) (w1 := [(h0, .inr (3, [.ref lg, .ref fs, .ref ps, .long fa, .long fb, .int mt, .int re]))]) hP hD [0] [1] rfl rfl (by decide) (by decide) hk1 hFc hP1 hD1
    have hP : va_P D vwCl [(h0, .inr (3, [.ref lg, .ref fs, .ref ps, .long fa, .long fb, .int mt, .int re])), (ob, .inl (cJ, 1, .inr (.inl ov)))] H1 := hP.sub (ws' := [(h0, .inr (3, [.ref lg, .ref fs, .ref ps, .long fa, .long fb, .int mt, .int re])), (ob, .inl (cJ, 1, .inr (.inl ov)))]) [1, 0] rfl
    have hD : va_D A [(h0, .inr (3, [.ref lg, .ref fs, .ref ps, .long fa, .long fb, .int mt, .int re])), (ob, .inl (cJ, 1, .inr (.inl ov)))] := hD.sub (ws' := [(h0, .inr (3, [.ref lg, .ref fs, .ref ps, .long fa, .long fb, .int mt, .int re])), (ob, .inl (cJ, 1, .inr (.inl ov)))]) [1, 0] (by decide) rfl
    exact (absurd hok hb9.2)
  · try dsimp only at hw4
    obtain ⟨hP1, hK1, hD1⟩ := hB9
    rw [hth] at hP1
    obtain ⟨hP, hD⟩ := va_join (wr := [(ob, .inl (cJ, 1, .inr (.inl ov)))]) (w1 := [(h0, .inr (3, [.ref lg, .ref fs, .ref ps, .long fa, .long fb, .int mt, .int re]))]) hP hD [0] [1] rfl rfl (by decide) (by decide) hk1 hFc hP1 hD1
    generalize H1 = H at hP hS ⊢
    have hP : va_P D vwCl [(h0, .inr (3, [.ref lg, .ref fs, .ref ps, .long fa, .long fb, .int mt, .int re])), (ob, .inl (cJ, 1, .inr (.inl ov)))] H := hP.sub (ws' := [(h0, .inr (3, [.ref lg, .ref fs, .ref ps, .long fa, .long fb, .int mt, .int re])), (ob, .inl (cJ, 1, .inr (.inl ov)))]) [1, 0] rfl
    have hD : va_D A [(h0, .inr (3, [.ref lg, .ref fs, .ref ps, .long fa, .long fb, .int mt, .int re])), (ob, .inl (cJ, 1, .inr (.inl ov)))] := hD.sub (ws' := [(h0, .inr (3, [.ref lg, .ref fs, .ref ps, .long fa, .long fb, .int mt, .int re])), (ob, .inl (cJ, 1, .inr (.inl ov)))]) [1, 0] (by decide) rfl
    refine lv_i2l (v := (r4 : Int32).toInt64) hx hb dL_fours_7 rfl ?_
    refine lv_topl (fun x7 ex7 => ?_)
    refine va_last hx hb hK hP hD hS 1 1 rfl rfl (vp_in_nI (n := 0) (N := 1) (by omega) (by decide)) dL_fours_8 (fun H locs hP hD hS => ?_)
    have hu8 : (0 : Int32).toNatClampNeg = 0 := pk_cl 0
    rw [hu8] at hP hD
    have hP : va_P D vwCl [(h0, .inr (3, [.ref lg, .ref fs, .ref ps, .long fa, .long fb, .int mt, .int re])), (ob, .inl (cJ, 1, .inr (.inl (vp_updL ov 0 x7))))] H := hP
    have hD : va_D A [(h0, .inr (3, [.ref lg, .ref fs, .ref ps, .long fa, .long fb, .int mt, .int re])), (ob, .inl (cJ, 1, .inr (.inl (vp_updL ov 0 x7))))] := hD
    refine lv_goto (tgt := 15) hx hb dL_fours_9 (by decide) ?_
    refine lv_iconst (v := 0) hx hb dL_fours_15 (by decide) ?_
    obtain rfl := ex7.symm
    refine W.widen (k := 1) (n := 6) (Nat.le_of_ble_eq_true rfl) (Nat.le_of_ble_eq_true rfl) ?_
    refine W.iret (v := 0) hx hb hr (fun tt ht hW => ⟨⟨0, r4, rfl, ?_, by rw [ht]; exact hP, va_K.moved hW.alike hK, hD⟩, hS.F ht⟩) hS.2.2 dL_fours_16
    exact ⟨rfl, hw4⟩

set_option maxHeartbeats 400000 in
set_option maxRecDepth 100000 in
theorem c_L_fours_bad (l : Launch) (hltr : l.stackTraces = false) (D : va_G) (cI cJ : ClassId) (sz : Nat) (h0 lg fs ps : Nat) (fa fb : Int64) (mt re : Int32) (ob : Nat) (ov : Nat → Int64) (v : Int32) (hbad : ¬ (iside v)) : Met l yL_fours wsL_fours ({ frames := 8, cells := 1, slots := 6, locals := 131 } : Room) (va_Pc [.ref h0, .int v, .ref ob] (px_N (px_X (va_A [(h0, .inr (3, [.ref lg, .ref fs, .ref ps, .long fa, .long fb, .int mt, .int re])), (ob, .inl (cJ, 1, .inr (.inl ov)))] sz) (pv_C D cI cJ [(h0, .inr (3, [.ref lg, .ref fs, .ref ps, .long fa, .long fb, .int mt, .int re])), (ob, .inl (cJ, 1, .inr (.inl ov)))] sz)))) (va_Qi (fun (r : Int32) (u : Unit) => r = 1) (fun (u : Unit) => pv_B D cI cJ (va_A [(h0, .inr (3, [.ref lg, .ref fs, .ref ps, .long fa, .long fb, .int mt, .int re])), (ob, .inl (cJ, 1, .inr (.inl ov)))] sz) [(h0, .inr (3, [.ref lg, .ref fs, .ref ps, .long fa, .long fb, .int mt, .int re])), (ob, .inl (cJ, 1, .inr (.inl ov)))]) (va_A [(h0, .inr (3, [.ref lg, .ref fs, .ref ps, .long fa, .long fb, .int mt, .int re])), (ob, .inl (cJ, 1, .inr (.inl ov)))] sz)) 1 6 (va_A [(h0, .inr (3, [.ref lg, .ref fs, .ref ps, .long fa, .long fb, .int mt, .int re])), (ob, .inl (cJ, 1, .inr (.inl ov)))] sz) := by
  refine va_MetW (cc := cL_fours) (maxL := 4) (ret := (some .int)) (hh := [(0, 9, 12, 13)]) (by decide) rfl ?_
  intro p e s m args below meth c s₁ B hml hv
  obtain ⟨rfl, hNC, hEN, hEX, hZ, rfl, hP, hK, hD0⟩ := hv
  have hx := B.exec
  have hb := B.bytes
  have hr := B.returns
  have hts := atoms_spec (ws := wsL_fours) B.pre
  have hown : s.vm.findClass RL = some m.cls := findClass_of_methodNamed B.named
  have hlocks := B.notSynchronized
  have htb := vx_table (x := yL_fours) B (hts _ (List.mem_of_getElem? (i := 0) rfl))
  have hD := hD0.self (sz := s.heap.size)
  generalize hAe : va_A [(h0, .inr (3, [.ref lg, .ref fs, .ref ps, .long fa, .long fb, .int mt, .int re])), (ob, .inl (cJ, 1, .inr (.inl ov)))] s.heap.size = A at hD hZ ⊢
  have hA : ∀ q : Nat, s.heap.size ≤ q → A q := fun q h => by rw [← hAe]; exact Or.inr h
  have hS : va_S A s.heap s.heap [] := va_S.rf
  have hl := lv_entry ([.ref h0, .int v, .ref ob]) (n := 4) (Nat.le_of_ble_eq_true rfl)
  rw [lg_entry_eq]
  generalize (lg_sl ([.ref h0, .int v, .ref ob]) ++ List.replicate (4 - (lg_sl ([.ref h0, .int v, .ref ob])).length) Slot.unset).toArray = ls at hl ⊢
  have hl : lv_has ls 4 [(0, .ref h0), (1, .int v), (2, .ref ob)] := hl
  refine lv_aload_n hx hb dL_fours_0 rfl (lv_at hl 2 rfl) ?_
  refine lv_iconst (v := 0) hx hb dL_fours_1 (by decide) ?_
  refine lv_aload_n hx hb dL_fours_2 rfl (lv_at hl 0 rfl) ?_
  refine lv_iload_n hx hb dL_fours_3 rfl (lv_at hl 1 rfl) ?_
  have hPc : va_P D vwCl [(h0, .inr (3, [.ref lg, .ref fs, .ref ps, .long fa, .long fb, .int mt, .int re]))] s.heap := hP.sub (ws' := [(h0, .inr (3, [.ref lg, .ref fs, .ref ps, .long fa, .long fb, .int mt, .int re]))]) [0] rfl
  have hDc : va_D A [(h0, .inr (3, [.ref lg, .ref fs, .ref ps, .long fa, .long fb, .int mt, .int re]))] := hD.sub (ws' := [(h0, .inr (3, [.ref lg, .ref fs, .ref ps, .long fa, .long fb, .int mt, .int re]))]) [0] (by decide) rfl
  have hFc := va_free (wc := [(h0, .inr (3, [.ref lg, .ref fs, .ref ps, .long fa, .long fb, .int mt, .int re]))]) hD hS hA [0] rfl
  refine vx_calli (vx_runV (As := [.int v]) (rest := [.int 0, .ref ob]) ⟨hx, hb, hml, hown, hts⟩ (c_X6_fours l hltr D cI cJ s.heap.size  h0 lg fs ps fa fb mt re v) (cwV 1 hts gL_fours_X6_fours rfl rfl rfl (by decide +kernel) ⟨Nat.le_of_ble_eq_true rfl, Nat.le_of_ble_eq_true rfl⟩) ⟨(px_blindX pv_blind), va_recv hK hPc (ci := 3) (q0 := 0) rfl rfl, fun U hU hW => ⟨rfl, hEX.warm hW, by rw [hU]; exact hZ.to hS hW.alike hFc, by rw [hU], by rw [hU]; exact hPc, va_K.moved hW.alike hK, hDc.weaken (fun _ _ _ _ => trivial)⟩⟩ rfl rfl hl.1 rfl (lv_room (Nat.le_of_ble_eq_true rfl)) dL_fours_4 ⟨(Nat.le_of_ble_eq_true rfl), (Nat.le_of_ble_eq_true rfl)⟩) hS (fun q _ h => hFc q h) hFc (fun q _ h => hFc q h) (fun E ce q9 u9 t9 H1 locs hth hvm hpx hB9 hz1 hk1 hS hce hcv hcl => ?_) (fun r4 u t9 H1 locs hth hvm hw4 hB9 hz1 hk1 hS => ?_)
  · obtain ⟨hb9, hP1, hK1, hD1⟩ := hB9
    rw [hth] at hP1
    obtain ⟨hP, hD⟩ := va_join (wr := [(ob, .inl (cJ, 1, .inr (.inl ov)))]) (w1 := [(h0, .inr (3, [.ref lg, .ref fs, .ref ps, .long fa, .long fb, .int mt, .int re]))]) hP hD [0] [1] rfl rfl (by decide) (by decide) hk1 hFc hP1 hD1
    have hP : va_P D vwCl [(h0, .inr (3, [.ref lg, .ref fs, .ref ps, .long fa, .long fb, .int mt, .int re])), (ob, .inl (cJ, 1, .inr (.inl ov)))] H1 := hP.sub (ws' := [(h0, .inr (3, [.ref lg, .ref fs, .ref ps, .long fa, .long fb, .int mt, .int re])), (ob, .inl (cJ, 1, .inr (.inl ov)))]) [1, 0] rfl
    have hD : va_D A [(h0, .inr (3, [.ref lg, .ref fs, .ref ps, .long fa, .long fb, .int mt, .int re])), (ob, .inl (cJ, 1, .inr (.inl ov)))] := hD.sub (ws' := [(h0, .inr (3, [.ref lg, .ref fs, .ref ps, .long fa, .long fb, .int mt, .int re])), (ob, .inl (cJ, 1, .inr (.inl ov)))]) [1, 0] (by decide) rfl
    obtain rfl : E = nIOB := hb9.1
    refine vx_catch (own := RL) (name := nIOB) hown [] ⟨0, 9, 12, 13⟩ [] (htb.trans rfl) (fun z hz => nomatch hz) (by decide) (by decide) (hts (.classLink RL 13 nIOB) (by decide +kernel)) (va_Nw.use rfl hEX.2.1) hce hcv hcl ?_
    refine lv_astore_n (lv' := [(3, .ref q9), (0, .ref h0), (1, .int v), (2, .ref ob)]) hx hb dL_fours_12 rfl hl (by decide) rfl (fun ls hl => ?_)
    refine lv_iconst (v := 1) hx hb dL_fours_13 (by decide) ?_
    refine W.widen (k := 1) (n := 6) (Nat.le_of_ble_eq_true rfl) (Nat.le_of_ble_eq_true rfl) ?_
    refine W.iret (v := 1) hx hb hr (fun tt ht hW => ⟨⟨1, (), rfl, ?_, by rw [ht]; exact hP, va_K.moved hW.alike hK, hD⟩, hS.F ht⟩) hS.2.2 dL_fours_14
    exact rfl
  · try dsimp only at hw4
    exact absurd hw4.1 hbad

