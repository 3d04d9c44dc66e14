set_option maxHeartbeats 400000 in
set_option maxRecDepth 100000 in
theorem c_L_winningTurns_bad2 (l : Launch) (hltr : l.stackTraces = false) (D : va_G) (cI cJ : ClassId) (sz : Nat) (h0 lg fs ps : Nat) (fa fb : Int64) (mt re : Int32) (ob : Nat) (ov : Nat → Int64) (v : Int32) (hc : icell v) (hbad : ¬ (re = 0 ∧ mt = 0 ∧ ¬ (cempty fa fb &&& jshl 1 v) = 0)) : Met l yL_winningTurns wsL_winningTurns ({ frames := 8, cells := 3, slots := 18, locals := 139 } : Room) (va_Pc [.ref h0, .int v, .ref ob] (px_N (px_X (va_A [(h0, .inr (3, [.ref lg, .ref fs, .ref ps, .long fa, .long fb, .int mt, .int re])), (ob, .inl (cJ, 1, .inr (.inl ov)))] sz) (pv_C D cI cJ [(h0, .inr (3, [.ref lg, .ref fs, .ref ps, .long fa, .long fb, .int mt, .int re])), (ob, .inl (cJ, 1, .inr (.inl ov)))] sz)))) (va_Qi (fun (r : Int32) (u : Unit) => r = 2) (fun (u : Unit) => pv_B D cI cJ (va_A [(h0, .inr (3, [.ref lg, .ref fs, .ref ps, .long fa, .long fb, .int mt, .int re])), (ob, .inl (cJ, 1, .inr (.inl ov)))] sz) [(h0, .inr (3, [.ref lg, .ref fs, .ref ps, .long fa, .long fb, .int mt, .int re])), (ob, .inl (cJ, 1, .inr (.inl ov)))]) (va_A [(h0, .inr (3, [.ref lg, .ref fs, .ref ps, .long fa, .long fb, .int mt, .int re])), (ob, .inl (cJ, 1, .inr (.inl ov)))] sz)) 3 18 (va_A [(h0, .inr (3, [.ref lg, .ref fs, .ref ps, .long fa, .long fb, .int mt, .int re])), (ob, .inl (cJ, 1, .inr (.inl ov)))] sz) := by
  refine va_MetW (cc := cL_winningTurns) (maxL := 4) (ret := (some .int)) (hh := [(0, 9, 12, 13), (0, 9, 15, 15)]) (by decide) rfl ?_
  intro p e s m args below meth c s₁ B hml hv
  obtain ⟨rfl, hNC, hEN, hEX, hZ, rfl, hP, hK, hD0⟩ := hv
  have hx := B.exec
  have hb := B.bytes
  have hr := B.returns
  have hts := atoms_spec (ws := wsL_winningTurns) B.pre
  have hown : s.vm.findClass RL = some m.cls := findClass_of_methodNamed B.named
  have hlocks := B.notSynchronized
  have htb := vx_table (x := yL_winningTurns) B (hts _ (List.mem_of_getElem? (i := 0) rfl))
  have hD := hD0.self (sz := s.heap.size)
  generalize hAe : va_A [(h0, .inr (3, [.ref lg, .ref fs, .ref ps, .long fa, .long fb, .int mt, .int re])), (ob, .inl (cJ, 1, .inr (.inl ov)))] s.heap.size = A at hD hZ ⊢
  have hA : ∀ q : Nat, s.heap.size ≤ q → A q := fun q h => by rw [← hAe]; exact Or.inr h
  have hS : va_S A s.heap s.heap [] := va_S.rf
  have hl := lv_entry ([.ref h0, .int v, .ref ob]) (n := 4) (Nat.le_of_ble_eq_true rfl)
  rw [lg_entry_eq]
  generalize (lg_sl ([.ref h0, .int v, .ref ob]) ++ List.replicate (4 - (lg_sl ([.ref h0, .int v, .ref ob])).length) Slot.unset).toArray = ls at hl ⊢
  have hl : lv_has ls 4 [(0, .ref h0), (1, .int v), (2, .ref ob)] := hl
  refine lv_aload_n hx hb dL_winningTurns_0 rfl (lv_at hl 2 rfl) ?_
  refine lv_iconst (v := 0) hx hb dL_winningTurns_1 (by decide) ?_
  refine lv_aload_n hx hb dL_winningTurns_2 rfl (lv_at hl 0 rfl) ?_
  refine lv_iload_n hx hb dL_winningTurns_3 rfl (lv_at hl 1 rfl) ?_
  have hPc : va_P D vwCl [(h0, .inr (3, [.ref lg, .ref fs, .ref ps, .long fa, .long fb, .int mt, .int re]))] s.heap := hP.sub (ws' := [(h0, .inr (3, [.ref lg, .ref fs, .ref ps, .long fa, .long fb, .int mt, .int re]))]) [0] rfl
  have hDc : va_D A [(h0, .inr (3, [.ref lg, .ref fs, .ref ps, .long fa, .long fb, .int mt, .int re]))] := hD.sub (ws' := [(h0, .inr (3, [.ref lg, .ref fs, .ref ps, .long fa, .long fb, .int mt, .int re]))]) [0] (by decide) rfl
  have hFc := va_free (wc := [(h0, .inr (3, [.ref lg, .ref fs, .ref ps, .long fa, .long fb, .int mt, .int re]))]) hD hS hA [0] rfl
  refine vx_calli (vx_runV (As := [.int v]) (rest := [.int 0, .ref ob]) ⟨hx, hb, hml, hown, hts⟩ (c_X6_winningTurns l hltr D cI cJ s.heap.size  h0 lg fs ps fa fb mt re v) (cwV 1 hts gL_winningTurns_X6_winningTurns rfl rfl rfl (by decide +kernel) ⟨Nat.le_of_ble_eq_true rfl, Nat.le_of_ble_eq_true rfl⟩) ⟨(px_blindX pv_blind), va_recv hK hPc (ci := 3) (q0 := 0) rfl rfl, fun U hU hW => ⟨rfl, hEX.warm hW, by rw [hU]; exact hZ.to hS hW.alike hFc, by rw [hU], by rw [hU]; exact hPc, va_K.moved hW.alike hK, hDc.weaken (fun _ _ _ _ => trivial)⟩⟩ rfl rfl hl.1 rfl (lv_room (Nat.le_of_ble_eq_true rfl)) dL_winningTurns_4 ⟨(Nat.le_of_ble_eq_true rfl), (Nat.le_of_ble_eq_true rfl)⟩) hS (fun q _ h => hFc q h) hFc (fun q _ h => hFc q h) (fun E ce q9 u9 t9 H1 locs hth hvm hpx hB9 hz1 hk1 hS hce hcv hcl => ?_) (fun r4 u t9 H1 locs hth hvm hw4 hB9 hz1 hk1 hS => ?_)
  · obtain ⟨hb9, hP1, hK1, hD1⟩ := hB9
    rw [hth] at hP1
    obtain ⟨hP, hD⟩ := va_join (wr := [(ob, .inl (cJ, 1, .inr (.inl ov)))]) (w1 := [(h0, .inr (3, [.ref lg, .ref fs, .ref ps, .long fa, .long fb, .int mt, .int re]))]) hP hD [0] [1] rfl rfl (by decide) (by decide) hk1 hFc hP1 hD1
    have hP : va_P D vwCl [(h0, .inr (3, [.ref lg, .ref fs, .ref ps, .long fa, .long fb, .int mt, .int re])), (ob, .inl (cJ, 1, .inr (.inl ov)))] H1 := hP.sub (ws' := [(h0, .inr (3, [.ref lg, .ref fs, .ref ps, .long fa, .long fb, .int mt, .int re])), (ob, .inl (cJ, 1, .inr (.inl ov)))]) [1, 0] rfl
    have hD : va_D A [(h0, .inr (3, [.ref lg, .ref fs, .ref ps, .long fa, .long fb, .int mt, .int re])), (ob, .inl (cJ, 1, .inr (.inl ov)))] := hD.sub (ws' := [(h0, .inr (3, [.ref lg, .ref fs, .ref ps, .long fa, .long fb, .int mt, .int re])), (ob, .inl (cJ, 1, .inr (.inl ov)))]) [1, 0] (by decide) rfl
    obtain rfl : E = nISE := hb9.elim (fun h => absurd hc h.2) (fun h => h.1)
    refine vx_catch (own := RL) (name := nISE) hown [⟨0, 9, 12, 13⟩] ⟨0, 9, 15, 15⟩ [] (htb.trans rfl) (fun z hz => by { obtain rfl := List.mem_singleton.mp hz; exact Or.inr ⟨by decide, nIOB, hts (.classLink RL 13 nIOB) (by decide +kernel), hNC.1⟩ }) (by decide) (by decide) (hts (.classLink RL 15 nISE) (by decide +kernel)) (va_Nw.use rfl hEX.2.2.1) hce hcv hcl ?_
    refine lv_astore_n (lv' := [(3, .ref q9), (0, .ref h0), (1, .int v), (2, .ref ob)]) hx hb dL_winningTurns_15 rfl hl (by decide) rfl (fun ls hl => ?_)
    refine lv_iconst (v := 2) hx hb dL_winningTurns_16 (by decide) ?_
    refine W.widen (k := 3) (n := 18) (Nat.le_of_ble_eq_true rfl) (Nat.le_of_ble_eq_true rfl) ?_
    refine W.iret (v := 2) hx hb hr (fun tt ht hW => ⟨⟨2, (), rfl, ?_, by rw [ht]; exact hP, va_K.moved hW.alike hK, hD⟩, hS.F ht⟩) hS.2.2 dL_winningTurns_17
    exact rfl
  · try dsimp only at hw4
    exact absurd ⟨hw4.2.1, hw4.2.2.1, hw4.2.2.2.1⟩ hbad

set_option maxHeartbeats 400000 in
set_option maxRecDepth 100000 in
theorem c_L_value_ok_0 (l : Launch) (hltr : l.stackTraces = false) (D : va_G) (cI cJ : ClassId) (sz : Nat) (h0 lg fs ps vt vf vv : Nat) (fa fb : Int64) (re : Int32) (fm : Nat → Int64) (vl : Nat → Int32) (hT : TI fm vl) (hB : re = 0 → BV (pop (cempty fa fb)) (cown fa fb 0) (coth fa fb 0))  (ob : Nat) (ov : Nat → Int64) (hok : re = 0 ∧ pop (cempty fa fb) ≤ 3) : Met l yL_value wsL_value ({ frames := 18, cells := 1, slots := 6, locals := 510 } : Room) (va_Pc [.ref h0, .ref ob] (px_N (px_X (va_A [(h0, .inr (3, [.ref lg, .ref fs, .ref ps, .long fa, .long fb, .int 0, .int re])), (fs, .inr (1, [.ref vt])), (vt, .inr (2, [.ref vf, .ref vv])), (vf, .inl (cJ, 1024, .inr (.inl fm))), (vv, .inl (cI, 1024, .inl vl)), (ob, .inl (cJ, 1, .inr (.inl ov)))] sz) (pv_C D cI cJ [(h0, .inr (3, [.ref lg, .ref fs, .ref ps, .long fa, .long fb, .int 0, .int re])), (fs, .inr (1, [.ref vt])), (vt, .inr (2, [.ref vf, .ref vv])), (vf, .inl (cJ, 1024, .inr (.inl fm))), (vv, .inl (cI, 1024, .inl vl)), (ob, .inl (cJ, 1, .inr (.inl ov)))] sz)))) (va_Qi (fun (r : Int32) (u : (Nat → Int64) × (Nat → Int32) × (Int32)) => r = 0 ∧ (re = 0 ∧ pop (cempty fa fb) ≤ 3 ∧ (u.2.2) = vput (pop (cempty fa fb)) (cown fa fb 0) (coth fa fb 0) ∧ TI u.1 u.2.1)) (fun (u : (Nat → Int64) × (Nat → Int32) × (Int32)) => pv_B D cI cJ (va_A [(h0, .inr (3, [.ref lg, .ref fs, .ref ps, .long fa, .long fb, .int 0, .int re])), (fs, .inr (1, [.ref vt])), (vt, .inr (2, [.ref vf, .ref vv])), (vf, .inl (cJ, 1024, .inr (.inl fm))), (vv, .inl (cI, 1024, .inl vl)), (ob, .inl (cJ, 1, .inr (.inl ov)))] sz) [(h0, .inr (3, [.ref lg, .ref fs, .ref ps, .long fa, .long fb, .int 0, .int re])), (fs, .inr (1, [.ref vt])), (vt, .inr (2, [.ref vf, .ref vv])), (vf, .inl (cJ, 1024, .inr (.inl u.1))), (vv, .inl (cI, 1024, .inl u.2.1)), (ob, .inl (cJ, 1, .inr (.inl (vp_updL ov 0 (u.2.2).toInt64))))]) (va_A [(h0, .inr (3, [.ref lg, .ref fs, .ref ps, .long fa, .long fb, .int 0, .int re])), (fs, .inr (1, [.ref vt])), (vt, .inr (2, [.ref vf, .ref vv])), (vf, .inl (cJ, 1024, .inr (.inl fm))), (vv, .inl (cI, 1024, .inl vl)), (ob, .inl (cJ, 1, .inr (.inl ov)))] sz)) 1 6 (va_A [(h0, .inr (3, [.ref lg, .ref fs, .ref ps, .long fa, .long fb, .int 0, .int re])), (fs, .inr (1, [.ref vt])), (vt, .inr (2, [.ref vf, .ref vv])), (vf, .inl (cJ, 1024, .inr (.inl fm))), (vv, .inl (cI, 1024, .inl vl)), (ob, .inl (cJ, 1, .inr (.inl ov)))] sz) := by
  refine va_MetW (cc := cL_value) (maxL := 3) (ret := (some .int)) (hh := [(0, 8, 11, 15)]) (by decide) rfl ?_
  intro p e s m args below meth c s₁ B hml hv
  obtain ⟨rfl, hNC, hEN, hEX, hZ, rfl, hP, hK, hD0⟩ := hv
  have hx := B.exec
  have hb := B.bytes
  have hr := B.returns
  have hts := atoms_spec (ws := wsL_value) B.pre
  have hown : s.vm.findClass RL = some m.cls := findClass_of_methodNamed B.named
  have hlocks := B.notSynchronized
  have htb := vx_table (x := yL_value) B (hts _ (List.mem_of_getElem? (i := 0) rfl))
  have hD := hD0.self (sz := s.heap.size)
  generalize hAe : va_A [(h0, .inr (3, [.ref lg, .ref fs, .ref ps, .long fa, .long fb, .int 0, .int re])), (fs, .inr (1, [.ref vt])), (vt, .inr (2, [.ref vf, .ref vv])), (vf, .inl (cJ, 1024, .inr (.inl fm))), (vv, .inl (cI, 1024, .inl vl)), (ob, .inl (cJ, 1, .inr (.inl ov)))] s.heap.size = A at hD hZ ⊢
  have hA : ∀ q : Nat, s.heap.size ≤ q → A q := fun q h => by rw [← hAe]; exact Or.inr h
  have hS : va_S A s.heap s.heap [] := va_S.rf
  have hl := lv_entry ([.ref h0, .ref ob]) (n := 3) (Nat.le_of_ble_eq_true rfl)
  rw [lg_entry_eq]
  generalize (lg_sl ([.ref h0, .ref ob]) ++ List.replicate (3 - (lg_sl ([.ref h0, .ref ob])).length) Slot.unset).toArray = ls at hl ⊢
  have hl : lv_has ls 3 [(0, .ref h0), (1, .ref ob)] := hl
  refine lv_aload_n hx hb dL_value_0 rfl (lv_at hl 1 rfl) ?_
  refine lv_iconst (v := 0) hx hb dL_value_1 (by decide) ?_
  refine lv_aload_n hx hb dL_value_2 rfl (lv_at hl 0 rfl) ?_
  have hPc : va_P D vwCl [(h0, .inr (3, [.ref lg, .ref fs, .ref ps, .long fa, .long fb, .int 0, .int re])), (fs, .inr (1, [.ref vt])), (vt, .inr (2, [.ref vf, .ref vv])), (vf, .inl (cJ, 1024, .inr (.inl fm))), (vv, .inl (cI, 1024, .inl vl))] s.heap := hP.sub (ws' := [(h0, .inr (3, [.ref lg, .ref fs, .ref ps, .long fa, .long fb, .int 0, .int re])), (fs, .inr (1, [.ref vt])), (vt, .inr (2, [.ref vf, .ref vv])), (vf, .inl (cJ, 1024, .inr (.inl fm))), (vv, .inl (cI, 1024, .inl vl))]) [0, 1, 2, 3, 4] rfl
  have hDc : va_D A [(h0, .inr (3, [.ref lg, .ref fs, .ref ps, .long fa, .long fb, .int 0, .int re])), (fs, .inr (1, [.ref vt])), (vt, .inr (2, [.ref vf, .ref vv])), (vf, .inl (cJ, 1024, .inr (.inl fm))), (vv, .inl (cI, 1024, .inl vl))] := hD.sub (ws' := [(h0, .inr (3, [.ref lg, .ref fs, .ref ps, .long fa, .long fb, .int 0, .int re])), (fs, .inr (1, [.ref vt])), (vt, .inr (2, [.ref vf, .ref vv])), (vf, .inl (cJ, 1024, .inr (.inl fm))), (vv, .inl (cI, 1024, .inl vl))]) [0, 1, 2, 3, 4] (by decide) rfl
  have hFc := va_free (wc := [(h0, .inr (3, [.ref lg, .ref fs, .ref ps, .long fa, .long fb, .int 0, .int re])), (fs, .inr (1, [.ref vt])), (vt, .inr (2, [.ref vf, .ref vv])), (vf, .inl (cJ, 1024, .inr (.inl fm))), (vv, .inl (cI, 1024, .inl vl))]) hD hS hA [0, 1, 2, 3, 4] rfl
  refine vx_calli (vx_runV (As := []) (rest := [.int 0, .ref ob]) ⟨hx, hb, hml, hown, hts⟩ (c_X6_value_0 l hltr D cI cJ s.heap.size  h0 lg fs ps vt vf vv fa fb re fm vl hT hB) (cwV 0 hts gL_value_X6_value rfl rfl rfl (by decide +kernel) ⟨Nat.le_of_ble_eq_true rfl, Nat.le_of_ble_eq_true rfl⟩) ⟨(px_blindE (px_blindX pv_blind)), va_recv hK hPc (ci := 3) (q0 := 0) rfl rfl, fun U hU hW => ⟨rfl, hEN.warm hW, hEX.warm hW, by rw [hU]; exact hZ.to hS hW.alike hFc, by rw [hU], by rw [hU]; exact hPc, va_K.moved hW.alike hK, hDc.weaken (fun _ _ _ _ => trivial)⟩⟩ rfl rfl hl.1 rfl (lv_room (Nat.le_of_ble_eq_true rfl)) dL_value_3 ⟨(Nat.le_of_ble_eq_true rfl), (Nat.le_of_ble_eq_true rfl)⟩) hS (fun q _ h => hFc q h) hFc (fun q _ h => hFc q h) (fun E ce q9 u9 t9 H1 locs hth hvm hpx hB9 hz1 hk1 hS hce hcv hcl => ?_) (fun r3 u t9 H1 locs hth hvm hw3 hB9 hz1 hk1 hS => ?_)
  · obtain ⟨hb9, hP1, hK1, hD1⟩ := hB9
    rw [hth] at hP1
    obtain ⟨hP, hD⟩ := va_join (wr := [(ob, .inl (cJ, 1, .inr (.inl ov)))]) (w1 := [(h0, .inr (3, [.ref lg, .ref fs, .ref ps, .long fa, .long fb, .int 0, .int re])), (fs, .inr (1, [.ref vt])), (vt, .inr (2, [.ref vf, .ref vv])), (vf, .inl (cJ, 1024, .inr (.inl fm))), (vv, .inl (cI, 1024, .inl vl))]) hP hD [0, 1, 2, 3, 4] [5] rfl rfl (by decide) (by decide) hk1 hFc hP1 hD1
    have hP : va_P D vwCl [(h0, .inr (3, [.ref lg, .ref fs, .ref ps, .long fa, .long fb, .int 0, .int re])), (fs, .inr (1, [.ref vt])), (vt, .inr (2, [.ref vf, .ref vv])), (vf, .inl (cJ, 1024, .inr (.inl fm))), (vv, .inl (cI, 1024, .inl vl)), (ob, .inl (cJ, 1, .inr (.inl ov)))] H1 := hP.sub (ws' := [(h0, .inr (3, [.ref lg, .ref fs, .ref ps, .long fa, .long fb, .int 0, .int re])), (fs, .inr (1, [.ref vt])), (vt, .inr (2, [.ref vf, .ref vv])), (vf, .inl (cJ, 1024, .inr (.inl fm))), (vv, .inl (cI, 1024, .inl vl)), (ob, .inl (cJ, 1, .inr (.inl ov)))]) [1, 2, 3, 4, 5, 0] rfl
    have hD : va_D A [(h0, .inr (3, [.ref lg, .ref fs, .ref ps, .long fa, .long fb, .int 0, .int re])), (fs, .inr (1, [.ref vt])), (vt, .inr (2, [.ref vf, .ref vv])), (vf, .inl (cJ, 1024, .inr (.inl fm))), (vv, .inl (cI, 1024, .inl vl)), (ob, .inl (cJ, 1, .inr (.inl ov)))] := hD.sub (ws' := [(h0, .inr (3, [.ref lg, .ref fs, .ref ps, .long fa, .long fb, .int 0, .int re])), (fs, .inr (1, [.ref vt])), (vt, .inr (2, [.ref vf, .ref vv])), (vf, .inl (cJ, 1024, .inr (.inl fm))), (vv, .inl (cI, 1024, .inl vl)), (ob, .inl (cJ, 1, .inr (.inl ov)))]) [1, 2, 3, 4, 5, 0] (by decide) rfl
    exact (absurd hok hb9.2)
  · try dsimp only at hw3
    obtain ⟨fm3, vl3⟩ := u
    obtain ⟨hP1, hK1, hD1⟩ := hB9
    rw [hth] at hP1
    obtain ⟨hP, hD⟩ := va_join (wr := [(ob, .inl (cJ, 1, .inr (.inl ov)))]) (w1 := [(h0, .inr (3, [.ref lg, .ref fs, .ref ps, .long fa, .long fb, .int 0, .int re])), (fs, .inr (1, [.ref vt])), (vt, .inr (2, [.ref vf, .ref vv])), (vf, .inl (cJ, 1024, .inr (.inl fm3))), (vv, .inl (cI, 1024, .inl vl3))]) hP hD [0, 1, 2, 3, 4] [5] rfl rfl (by decide) (by decide) hk1 hFc hP1 hD1
    generalize H1 = H at hP hS ⊢
    have hP : va_P D vwCl [(h0, .inr (3, [.ref lg, .ref fs, .ref ps, .long fa, .long fb, .int 0, .int re])), (fs, .inr (1, [.ref vt])), (vt, .inr (2, [.ref vf, .ref vv])), (vf, .inl (cJ, 1024, .inr (.inl fm3))), (vv, .inl (cI, 1024, .inl vl3)), (ob, .inl (cJ, 1, .inr (.inl ov)))] H := hP.sub (ws' := [(h0, .inr (3, [.ref lg, .ref fs, .ref ps, .long fa, .long fb, .int 0, .int re])), (fs, .inr (1, [.ref vt])), (vt, .inr (2, [.ref vf, .ref vv])), (vf, .inl (cJ, 1024, .inr (.inl fm3))), (vv, .inl (cI, 1024, .inl vl3)), (ob, .inl (cJ, 1, .inr (.inl ov)))]) [1, 2, 3, 4, 5, 0] rfl
    have hD : va_D A [(h0, .inr (3, [.ref lg, .ref fs, .ref ps, .long fa, .long fb, .int 0, .int re])), (fs, .inr (1, [.ref vt])), (vt, .inr (2, [.ref vf, .ref vv])), (vf, .inl (cJ, 1024, .inr (.inl fm3))), (vv, .inl (cI, 1024, .inl vl3)), (ob, .inl (cJ, 1, .inr (.inl ov)))] := hD.sub (ws' := [(h0, .inr (3, [.ref lg, .ref fs, .ref ps, .long fa, .long fb, .int 0, .int re])), (fs, .inr (1, [.ref vt])), (vt, .inr (2, [.ref vf, .ref vv])), (vf, .inl (cJ, 1024, .inr (.inl fm3))), (vv, .inl (cI, 1024, .inl vl3)), (ob, .inl (cJ, 1, .inr (.inl ov)))]) [1, 2, 3, 4, 5, 0] (by decide) rfl
    refine lv_i2l (v := (r3 : Int32).toInt64) hx hb dL_value_6 rfl ?_
    refine lv_topl (fun x6 ex6 => ?_)
    refine va_last hx hb hK hP hD hS 5 1 rfl rfl (vp_in_nI (n := 0) (N := 1) (by omega) (by decide)) dL_value_7 (fun H locs hP hD hS => ?_)
    have hu7 : (0 : Int32).toNatClampNeg = 0 := pk_cl 0
    rw [hu7] at hP hD
    have hP : va_P D vwCl [(h0, .inr (3, [.ref lg, .ref fs, .ref ps, .long fa, .long fb, .int 0, .int re])), (fs, .inr (1, [.ref vt])), (vt, .inr (2, [.ref vf, .ref vv])), (vf, .inl (cJ, 1024, .inr (.inl fm3))), (vv, .inl (cI, 1024, .inl vl3)), (ob, .inl (cJ, 1, .inr (.inl (vp_updL ov 0 x6))))] H := hP
    have hD : va_D A [(h0, .inr (3, [.ref lg, .ref fs, .ref ps, .long fa, .long fb, .int 0, .int re])), (fs, .inr (1, [.ref vt])), (vt, .inr (2, [.ref vf, .ref vv])), (vf, .inl (cJ, 1024, .inr (.inl fm3))), (vv, .inl (cI, 1024, .inl vl3)), (ob, .inl (cJ, 1, .inr (.inl (vp_updL ov 0 x6))))] := hD
    refine lv_goto (tgt := 14) hx hb dL_value_8 (by decide) ?_
    refine lv_iconst (v := 0) hx hb dL_value_14 (by decide) ?_
    obtain rfl := ex6.symm
    refine W.widen (k := 1) (n := 6) (Nat.le_of_ble_eq_true rfl) (Nat.le_of_ble_eq_true rfl) ?_
    refine W.iret (v := 0) hx hb hr (fun tt ht hW => ⟨⟨0, (fm3, vl3, r3), rfl, ?_, by rw [ht]; exact hP, va_K.moved hW.alike hK, hD⟩, hS.F ht⟩) hS.2.2 dL_value_15
    exact ⟨rfl, hw3⟩

set_option maxHeartbeats 400000 in
set_option maxRecDepth 100000 in
theorem c_L_value_bad_0 (l : Launch) (hltr : l.stackTraces = false) (D : va_G) (cI cJ : ClassId) (sz : Nat) (h0 lg fs ps vt vf vv : Nat) (fa fb : Int64) (re : Int32) (fm : Nat → Int64) (vl : Nat → Int32) (hT : TI fm vl) (hB : re = 0 → BV (pop (cempty fa fb)) (cown fa fb 0) (coth fa fb 0))  (ob : Nat) (ov : Nat → Int64) (hbad : ¬ (re = 0 ∧ pop (cempty fa fb) ≤ 3)) : Met l yL_value wsL_value ({ frames := 18, cells := 1, slots := 6, locals := 510 } : Room) (va_Pc [.ref h0, .ref ob] (px_N (px_X (va_A [(h0, .inr (3, [.ref lg, .ref fs, .ref ps, .long fa, .long fb, .int 0, .int re])), (fs, .inr (1, [.ref vt])), (vt, .inr (2, [.ref vf, .ref vv])), (vf, .inl (cJ, 1024, .inr (.inl fm))), (vv, .inl (cI, 1024, .inl vl)), (ob, .inl (cJ, 1, .inr (.inl ov)))] sz) (pv_C D cI cJ [(h0, .inr (3, [.ref lg, .ref fs, .ref ps, .long fa, .long fb, .int 0, .int re])), (fs, .inr (1, [.ref vt])), (vt, .inr (2, [.ref vf, .ref vv])), (vf, .inl (cJ, 1024, .inr (.inl fm))), (vv, .inl (cI, 1024, .inl vl)), (ob, .inl (cJ, 1, .inr (.inl ov)))] sz)))) (va_Qi (fun (r : Int32) (u : Unit) => r = 1) (fun (u : Unit) => pv_B D cI cJ (va_A [(h0, .inr (3, [.ref lg, .ref fs, .ref ps, .long fa, .long fb, .int 0, .int re])), (fs, .inr (1, [.ref vt])), (vt, .inr (2, [.ref vf, .ref vv])), (vf, .inl (cJ, 1024, .inr (.inl fm))), (vv, .inl (cI, 1024, .inl vl)), (ob, .inl (cJ, 1, .inr (.inl ov)))] sz) [(h0, .inr (3, [.ref lg, .ref fs, .ref ps, .long fa, .long fb, .int 0, .int re])), (fs, .inr (1, [.ref vt])), (vt, .inr (2, [.ref vf, .ref vv])), (vf, .inl (cJ, 1024, .inr (.inl fm))), (vv, .inl (cI, 1024, .inl vl)), (ob, .inl (cJ, 1, .inr (.inl ov)))]) (va_A [(h0, .inr (3, [.ref lg, .ref fs, .ref ps, .long fa, .long fb, .int 0, .int re])), (fs, .inr (1, [.ref vt])), (vt, .inr (2, [.ref vf, .ref vv])), (vf, .inl (cJ, 1024, .inr (.inl fm))), (vv, .inl (cI, 1024, .inl vl)), (ob, .inl (cJ, 1, .inr (.inl ov)))] sz)) 1 6 (va_A [(h0, .inr (3, [.ref lg, .ref fs, .ref ps, .long fa, .long fb, .int 0, .int re])), (fs, .inr (1, [.ref vt])), (vt, .inr (2, [.ref vf, .ref vv])), (vf, .inl (cJ, 1024, .inr (.inl fm))), (vv, .inl (cI, 1024, .inl vl)), (ob, .inl (cJ, 1, .inr (.inl ov)))] sz) := by
  refine va_MetW (cc := cL_value) (maxL := 3) (ret := (some .int)) (hh := [(0, 8, 11, 15)]) (by decide) rfl ?_
  intro p e s m args below meth c s₁ B hml hv
  obtain ⟨rfl, hNC, hEN, hEX, hZ, rfl, hP, hK, hD0⟩ := hv
  have hx := B.exec
  have hb := B.bytes
  have hr := B.returns
  have hts := atoms_spec (ws := wsL_value) B.pre
  have hown : s.vm.findClass RL = some m.cls := findClass_of_methodNamed B.named
  have hlocks := B.notSynchronized
  have htb := vx_table (x := yL_value) B (hts _ (List.mem_of_getElem? (i := 0) rfl))
  have hD := hD0.self (sz := s.heap.size)
  generalize hAe : va_A [(h0, .inr (3, [.ref lg, .ref fs, .ref ps, .long fa, .long fb, .int 0, .int re])), (fs, .inr (1, [.ref vt])), (vt, .inr (2, [.ref vf, .ref vv])), (vf, .inl (cJ, 1024, .inr (.inl fm))), (vv, .inl (cI, 1024, .inl vl)), (ob, .inl (cJ, 1, .inr (.inl ov)))] s.heap.size = A at hD hZ ⊢
  have hA : ∀ q : Nat, s.heap.size ≤ q → A q := fun q h => by rw [← hAe]; exact Or.inr h
  have hS : va_S A s.heap s.heap [] := va_S.rf
  have hl := lv_entry ([.ref h0, .ref ob]) (n := 3) (Nat.le_of_ble_eq_true rfl)
  rw [lg_entry_eq]
  generalize (lg_sl ([.ref h0, .ref ob]) ++ List.replicate (3 - (lg_sl ([.ref h0, .ref ob])).length) Slot.unset).toArray = ls at hl ⊢
  have hl : lv_has ls 3 [(0, .ref h0), (1, .ref ob)] := hl
  refine lv_aload_n hx hb dL_value_0 rfl (lv_at hl 1 rfl) ?_
  refine lv_iconst (v := 0) hx hb dL_value_1 (by decide) ?_
  refine lv_aload_n hx hb dL_value_2 rfl (lv_at hl 0 rfl) ?_
  have hPc : va_P D vwCl [(h0, .inr (3, [.ref lg, .ref fs, .ref ps, .long fa, .long fb, .int 0, .int re])), (fs, .inr (1, [.ref vt])), (vt, .inr (2, [.ref vf, .ref vv])), (vf, .inl (cJ, 1024, .inr (.inl fm))), (vv, .inl (cI, 1024, .inl vl))] s.heap := hP.sub (ws' := [(h0, .inr (3, [.ref lg, .ref fs, .ref ps, .long fa, .long fb, .int 0, .int re])), (fs, .inr (1, [.ref vt])), (vt, .inr (2, [.ref vf, .ref vv])), (vf, .inl (cJ, 1024, .inr (.inl fm))), (vv, .inl (cI, 1024, .inl vl))]) [0, 1, 2, 3, 4] rfl
  have hDc : va_D A [(h0, .inr (3, [.ref lg, .ref fs, .ref ps, .long fa, .long fb, .int 0, .int re])), (fs, .inr (1, [.ref vt])), (vt, .inr (2, [.ref vf, .ref vv])), (vf, .inl (cJ, 1024, .inr (.inl fm))), (vv, .inl (cI, 1024, .inl vl))] := hD.sub (ws' := [(h0, .inr (3, [.ref lg, .ref fs, .ref ps, .long fa, .long fb, .int 0, .int re])), (fs, .inr (1, [.ref vt])), (vt, .inr (2, [.ref vf, .ref vv])), (vf, .inl (cJ, 1024, .inr (.inl fm))), (vv, .inl (cI, 1024, .inl vl))]) [0, 1, 2, 3, 4] (by decide) rfl
  have hFc := va_free (wc := [(h0, .inr (3, [.ref lg, .ref fs, .ref ps, .long fa, .long fb, .int 0, .int re])), (fs, .inr (1, [.ref vt])), (vt, .inr (2, [.ref vf, .ref vv])), (vf, .inl (cJ, 1024, .inr (.inl fm))), (vv, .inl (cI, 1024, .inl vl))]) hD hS hA [0, 1, 2, 3, 4] rfl
  refine vx_calli (vx_runV (As := []) (rest := [.int 0, .ref ob]) ⟨hx, hb, hml, hown, hts⟩ (c_X6_value_0 l hltr D cI cJ s.heap.size  h0 lg fs ps vt vf vv fa fb re fm vl hT hB) (cwV 0 hts gL_value_X6_value rfl rfl rfl (by decide +kernel) ⟨Nat.le_of_ble_eq_true rfl, Nat.le_of_ble_eq_true rfl⟩) ⟨(px_blindE (px_blindX pv_blind)), va_recv hK hPc (ci := 3) (q0 := 0) rfl rfl, fun U hU hW => ⟨rfl, hEN.warm hW, hEX.warm hW, by rw [hU]; exact hZ.to hS hW.alike hFc, by rw [hU], by rw [hU]; exact hPc, va_K.moved hW.alike hK, hDc.weaken (fun _ _ _ _ => trivial)⟩⟩ rfl rfl hl.1 rfl (lv_room (Nat.le_of_ble_eq_true rfl)) dL_value_3 ⟨(Nat.le_of_ble_eq_true rfl), (Nat.le_of_ble_eq_true rfl)⟩) hS (fun q _ h => hFc q h) hFc (fun q _ h => hFc q h) (fun E ce q9 u9 t9 H1 locs hth hvm hpx hB9 hz1 hk1 hS hce hcv hcl => ?_) (fun r3 u t9 H1 locs hth hvm hw3 hB9 hz1 hk1 hS => ?_)
  · obtain ⟨hb9, hP1, hK1, hD1⟩ := hB9
    rw [hth] at hP1
    obtain ⟨hP, hD⟩ := va_join (wr := [(ob, .inl (cJ, 1, .inr (.inl ov)))]) (w1 := [(h0, .inr (3, [.ref lg, .ref fs, .ref ps, .long fa, .long fb, .int 0, .int re])), (fs, .inr (1, [.ref vt])), (vt, .inr (2, [.ref vf, .ref vv])), (vf, .inl (cJ, 1024, .inr (.inl fm))), (vv, .inl (cI, 1024, .inl vl))]) hP hD [0, 1, 2, 3, 4] [5] rfl rfl (by decide) (by decide) hk1 hFc hP1 hD1
    have hP : va_P D vwCl [(h0, .inr (3, [.ref lg, .ref fs, .ref ps, .long fa, .long fb, .int 0, .int re])), (fs, .inr (1, [.ref vt])), (vt, .inr (2, [.ref vf, .ref vv])), (vf, .inl (cJ, 1024, .inr (.inl fm))), (vv, .inl (cI, 1024, .inl vl)), (ob, .inl (cJ, 1, .inr (.inl ov)))] H1 := hP.sub (ws' := [(h0, .inr (3, [.ref lg, .ref fs, .ref ps, .long fa, .long fb, .int 0, .int re])), (fs, .inr (1, [.ref vt])), (vt, .inr (2, [.ref vf, .ref vv])), (vf, .inl (cJ, 1024, .inr (.inl fm))), (vv, .inl (cI, 1024, .inl vl)), (ob, .inl (cJ, 1, .inr (.inl ov)))]) [1, 2, 3, 4, 5, 0] rfl
    have hD : va_D A [(h0, .inr (3, [.ref lg, .ref fs, .ref ps, .long fa, .long fb, .int 0, .int re])), (fs, .inr (1, [.ref vt])), (vt, .inr (2, [.ref vf, .ref vv])), (vf, .inl (cJ, 1024, .inr (.inl fm))), (vv, .inl (cI, 1024, .inl vl)), (ob, .inl (cJ, 1, .inr (.inl ov)))] := hD.sub (ws' := [(h0, .inr (3, [.ref lg, .ref fs, .ref ps, .long fa, .long fb, .int 0, .int re])), (fs, .inr (1, [.ref vt])), (vt, .inr (2, [.ref vf, .ref vv])), (vf, .inl (cJ, 1024, .inr (.inl fm))), (vv, .inl (cI, 1024, .inl vl)), (ob, .inl (cJ, 1, .inr (.inl ov)))]) [1, 2, 3, 4, 5, 0] (by decide) rfl
    obtain rfl : E = nISE := hb9.1
    refine vx_catch (own := RL) (name := nISE) hown [] ⟨0, 8, 11, 15⟩ [] (htb.trans rfl) (fun z hz => nomatch hz) (by decide) (by decide) (hts (.classLink RL 15 nISE) (by decide +kernel)) (va_Nw.use rfl hEX.2.2.1) hce hcv hcl ?_
    refine lv_astore_n (lv' := [(2, .ref q9), (0, .ref h0), (1, .ref ob)]) hx hb dL_value_11 rfl hl (by decide) rfl (fun ls hl => ?_)
    refine lv_iconst (v := 1) hx hb dL_value_12 (by decide) ?_
    refine W.widen (k := 1) (n := 6) (Nat.le_of_ble_eq_true rfl) (Nat.le_of_ble_eq_true rfl) ?_
    refine W.iret (v := 1) hx hb hr (fun tt ht hW => ⟨⟨1, (), rfl, ?_, by rw [ht]; exact hP, va_K.moved hW.alike hK, hD⟩, hS.F ht⟩) hS.2.2 dL_value_13
    exact rfl
  · try dsimp only at hw3
    exact absurd ⟨hw3.1, hw3.2.1⟩ hbad

set_option maxHeartbeats 400000 in
set_option maxRecDepth 100000 in
theorem c_L_bestMove_ok_0 (l : Launch) (hltr : l.stackTraces = false) (D : va_G) (cI cJ : ClassId) (sz : Nat) (h0 lg fs ps vt vf vv : Nat) (fa fb : Int64) (re : Int32) (fm : Nat → Int64) (vl : Nat → Int32) (hT : TI fm vl) (hpos : re = 0 → 0 < pop (cempty fa fb)) (hB : re = 0 → BV (pop (cempty fa fb)) (cown fa fb 0) (coth fa fb 0))  (ob : Nat) (ov : Nat → Int64) (hok : re = 0 ∧ pop (cempty fa fb) ≤ 3) : Met l yL_bestMove wsL_bestMove ({ frames := 17, cells := 1, slots := 6, locals := 491 } : Room) (va_Pc [.ref h0, .ref ob] (px_N (px_X (va_A [(h0, .inr (3, [.ref lg, .ref fs, .ref ps, .long fa, .long fb, .int 0, .int re])), (fs, .inr (1, [.ref vt])), (vt, .inr (2, [.ref vf, .ref vv])), (vf, .inl (cJ, 1024, .inr (.inl fm))), (vv, .inl (cI, 1024, .inl vl)), (ob, .inl (cJ, 1, .inr (.inl ov)))] sz) (pv_C D cI cJ [(h0, .inr (3, [.ref lg, .ref fs, .ref ps, .long fa, .long fb, .int 0, .int re])), (fs, .inr (1, [.ref vt])), (vt, .inr (2, [.ref vf, .ref vv])), (vf, .inl (cJ, 1024, .inr (.inl fm))), (vv, .inl (cI, 1024, .inl vl)), (ob, .inl (cJ, 1, .inr (.inl ov)))] sz)))) (va_Qi (fun (r : Int32) (u : (Nat → Int64) × (Nat → Int32) × (Int32)) => r = 0 ∧ (re = 0 ∧ pop (cempty fa fb) ≤ 3 ∧ (u.2.2) = cbest (pop (cempty fa fb)) fa fb 0 ∧ TI u.1 u.2.1)) (fun (u : (Nat → Int64) × (Nat → Int32) × (Int32)) => pv_B D cI cJ (va_A [(h0, .inr (3, [.ref lg, .ref fs, .ref ps, .long fa, .long fb, .int 0, .int re])), (fs, .inr (1, [.ref vt])), (vt, .inr (2, [.ref vf, .ref vv])), (vf, .inl (cJ, 1024, .inr (.inl fm))), (vv, .inl (cI, 1024, .inl vl)), (ob, .inl (cJ, 1, .inr (.inl ov)))] sz) [(h0, .inr (3, [.ref lg, .ref fs, .ref ps, .long fa, .long fb, .int 0, .int re])), (fs, .inr (1, [.ref vt])), (vt, .inr (2, [.ref vf, .ref vv])), (vf, .inl (cJ, 1024, .inr (.inl u.1))), (vv, .inl (cI, 1024, .inl u.2.1)), (ob, .inl (cJ, 1, .inr (.inl (vp_updL ov 0 (u.2.2).toInt64))))]) (va_A [(h0, .inr (3, [.ref lg, .ref fs, .ref ps, .long fa, .long fb, .int 0, .int re])), (fs, .inr (1, [.ref vt])), (vt, .inr (2, [.ref vf, .ref vv])), (vf, .inl (cJ, 1024, .inr (.inl fm))), (vv, .inl (cI, 1024, .inl vl)), (ob, .inl (cJ, 1, .inr (.inl ov)))] sz)) 1 6 (va_A [(h0, .inr (3, [.ref lg, .ref fs, .ref ps, .long fa, .long fb, .int 0, .int re])), (fs, .inr (1, [.ref vt])), (vt, .inr (2, [.ref vf, .ref vv])), (vf, .inl (cJ, 1024, .inr (.inl fm))), (vv, .inl (cI, 1024, .inl vl)), (ob, .inl (cJ, 1, .inr (.inl ov)))] sz) := by
  refine va_MetW (cc := cL_bestMove) (maxL := 3) (ret := (some .int)) (hh := [(0, 8, 11, 15)]) (by decide) rfl ?_
  intro p e s m args below meth c s₁ B hml hv
  obtain ⟨rfl, hNC, hEN, hEX, hZ, rfl, hP, hK, hD0⟩ := hv
  have hx := B.exec
  have hb := B.bytes
  have hr := B.returns
  have hts := atoms_spec (ws := wsL_bestMove) B.pre
  have hown : s.vm.findClass RL = some m.cls := findClass_of_methodNamed B.named
  have hlocks := B.notSynchronized
  have htb := vx_table (x := yL_bestMove) B (hts _ (List.mem_of_getElem? (i := 0) rfl))
  have hD := hD0.self (sz := s.heap.size)
  generalize hAe : va_A [(h0, .inr (3, [.ref lg, .ref fs, .ref ps, .long fa, .long fb, .int 0, .int re])), (fs, .inr (1, [.ref vt])), (vt, .inr (2, [.ref vf, .ref vv])), (vf, .inl (cJ, 1024, .inr (.inl fm))), (vv, .inl (cI, 1024, .inl vl)), (ob, .inl (cJ, 1, .inr (.inl ov)))] s.heap.size = A at hD hZ ⊢
  have hA : ∀ q : Nat, s.heap.size ≤ q → A q := fun q h => by rw [← hAe]; exact Or.inr h
  have hS : va_S A s.heap s.heap [] := va_S.rf
  have hl := lv_entry ([.ref h0, .ref ob]) (n := 3) (Nat.le_of_ble_eq_true rfl)
  rw [lg_entry_eq]
  generalize (lg_sl ([.ref h0, .ref ob]) ++ List.replicate (3 - (lg_sl ([.ref h0, .ref ob])).length) Slot.unset).toArray = ls at hl ⊢
  have hl : lv_has ls 3 [(0, .ref h0), (1, .ref ob)] := hl
  refine lv_aload_n hx hb dL_bestMove_0 rfl (lv_at hl 1 rfl) ?_
  refine lv_iconst (v := 0) hx hb dL_bestMove_1 (by decide) ?_
  refine lv_aload_n hx hb dL_bestMove_2 rfl (lv_at hl 0 rfl) ?_
  have hPc : va_P D vwCl [(h0, .inr (3, [.ref lg, .ref fs, .ref ps, .long fa, .long fb, .int 0, .int re])), (fs, .inr (1, [.ref vt])), (vt, .inr (2, [.ref vf, .ref vv])), (vf, .inl (cJ, 1024, .inr (.inl fm))), (vv, .inl (cI, 1024, .inl vl))] s.heap := hP.sub (ws' := [(h0, .inr (3, [.ref lg, .ref fs, .ref ps, .long fa, .long fb, .int 0, .int re])), (fs, .inr (1, [.ref vt])), (vt, .inr (2, [.ref vf, .ref vv])), (vf, .inl (cJ, 1024, .inr (.inl fm))), (vv, .inl (cI, 1024, .inl vl))]) [0, 1, 2, 3, 4] rfl
  have hDc : va_D A [(h0, .inr (3, [.ref lg, .ref fs, .ref ps, .long fa, .long fb, .int 0, .int re])), (fs, .inr (1, [.ref vt])), (vt, .inr (2, [.ref vf, .ref vv])), (vf, .inl (cJ, 1024, .inr (.inl fm))), (vv, .inl (cI, 1024, .inl vl))] := hD.sub (ws' := [(h0, .inr (3, [.ref lg, .ref fs, .ref ps, .long fa, .long fb, .int 0, .int re])), (fs, .inr (1, [.ref vt])), (vt, .inr (2, [.ref vf, .ref vv])), (vf, .inl (cJ, 1024, .inr (.inl fm))), (vv, .inl (cI, 1024, .inl vl))]) [0, 1, 2, 3, 4] (by decide) rfl
  have hFc := va_free (wc := [(h0, .inr (3, [.ref lg, .ref fs, .ref ps, .long fa, .long fb, .int 0, .int re])), (fs, .inr (1, [.ref vt])), (vt, .inr (2, [.ref vf, .ref vv])), (vf, .inl (cJ, 1024, .inr (.inl fm))), (vv, .inl (cI, 1024, .inl vl))]) hD hS hA [0, 1, 2, 3, 4] rfl
  refine vx_calli (vx_runV (As := []) (rest := [.int 0, .ref ob]) ⟨hx, hb, hml, hown, hts⟩ (c_X6_bestMove_0 l hltr D cI cJ s.heap.size  h0 lg fs ps vt vf vv fa fb re fm vl hT hpos hB) (cwV 0 hts gL_bestMove_X6_bestMove rfl rfl rfl (by decide +kernel) ⟨Nat.le_of_ble_eq_true rfl, Nat.le_of_ble_eq_true rfl⟩) ⟨(px_blindE (px_blindX pv_blind)), va_recv hK hPc (ci := 3) (q0 := 0) rfl rfl, fun U hU hW => ⟨rfl, hEN.warm hW, hEX.warm hW, by rw [hU]; exact hZ.to hS hW.alike hFc, by rw [hU], by rw [hU]; exact hPc, va_K.moved hW.alike hK, hDc.weaken (fun _ _ _ _ => trivial)⟩⟩ rfl rfl hl.1 rfl (lv_room (Nat.le_of_ble_eq_true rfl)) dL_bestMove_3 ⟨(Nat.le_of_ble_eq_true rfl), (Nat.le_of_ble_eq_true rfl)⟩) hS (fun q _ h => hFc q h) hFc (fun q _ h => hFc q h) (fun E ce q9 u9 t9 H1 locs hth hvm hpx hB9 hz1 hk1 hS hce hcv hcl => ?_) (fun r3 u t9 H1 locs hth hvm hw3 hB9 hz1 hk1 hS => ?_)
  · obtain ⟨hb9, hP1, hK1, hD1⟩ := hB9
    rw [hth] at hP1
    obtain ⟨hP, hD⟩ := va_join (wr := [(ob, .inl (cJ, 1, .inr (.inl ov)))]) (w1 := [(h0, .inr (3, [.ref lg, .ref fs, .ref ps, .long fa, .long fb, .int 0, .int re])), (fs, .inr (1, [.ref vt])), (vt, .inr (2, [.ref vf, .ref vv])), (vf, .inl (cJ, 1024, .inr (.inl fm))), (vv, .inl (cI, 1024, .inl vl))]) hP hD [0, 1, 2, 3, 4] [5] rfl rfl (by decide) (by decide) hk1 hFc hP1 hD1
    have hP : va_P D vwCl [(h0, .inr (3, [.ref lg, .ref fs, .ref ps, .long fa, .long fb, .int 0, .int re])), (fs, .inr (1, [.ref vt])), (vt, .inr (2, [.ref vf, .ref vv])), (vf, .inl (cJ, 1024, .inr (.inl fm))), (vv, .inl (cI, 1024, .inl vl)), (ob, .inl (cJ, 1, .inr (.inl ov)))] H1 := hP.sub (ws' := [(h0, .inr (3, [.ref lg, .ref fs, .ref ps, .long fa, .long fb, .int 0, .int re])), (fs, .inr (1, [.ref vt])), (vt, .inr (2, [.ref vf, .ref vv])), (vf, .inl (cJ, 1024, .inr (.inl fm))), (vv, .inl (cI, 1024, .inl vl)), (ob, .inl (cJ, 1, .inr (.inl ov)))]) [1, 2, 3, 4, 5, 0] rfl
    have hD : va_D A [(h0, .inr (3, [.ref lg, .ref fs, .ref ps, .long fa, .long fb, .int 0, .int re])), (fs, .inr (1, [.ref vt])), (vt, .inr (2, [.ref vf, .ref vv])), (vf, .inl (cJ, 1024, .inr (.inl fm))), (vv, .inl (cI, 1024, .inl vl)), (ob, .inl (cJ, 1, .inr (.inl ov)))] := hD.sub (ws' := [(h0, .inr (3, [.ref lg, .ref fs, .ref ps, .long fa, .long fb, .int 0, .int re])), (fs, .inr (1, [.ref vt])), (vt, .inr (2, [.ref vf, .ref vv])), (vf, .inl (cJ, 1024, .inr (.inl fm))), (vv, .inl (cI, 1024, .inl vl)), (ob, .inl (cJ, 1, .inr (.inl ov)))]) [1, 2, 3, 4, 5, 0] (by decide) rfl
    exact (absurd hok hb9.2)
  · try dsimp only at hw3
    obtain ⟨fm3, vl3⟩ := u
    obtain ⟨hP1, hK1, hD1⟩ := hB9
    rw [hth] at hP1
    obtain ⟨hP, hD⟩ := va_join (wr := [(ob, .inl (cJ, 1, .inr (.inl ov)))]) (w1 := [(h0, .inr (3, [.ref lg, .ref fs, .ref ps, .long fa, .long fb, .int 0, .int re])), (fs, .inr (1, [.ref vt])), (vt, .inr (2, [.ref vf, .ref vv])), (vf, .inl (cJ, 1024, .inr (.inl fm3))), (vv, .inl (cI, 1024, .inl vl3))]) hP hD [0, 1, 2, 3, 4] [5] rfl rfl (by decide) (by decide) hk1 hFc hP1 hD1
    generalize H1 = H at hP hS ⊢
    have hP : va_P D vwCl [(h0, .inr (3, [.ref lg, .ref fs, .ref ps, .long fa, .long fb, .int 0, .int re])), (fs, .inr (1, [.ref vt])), (vt, .inr (2, [.ref vf, .ref vv])), (vf, .inl (cJ, 1024, .inr (.inl fm3))), (vv, .inl (cI, 1024, .inl vl3)), (ob, .inl (cJ, 1, .inr (.inl ov)))] H := hP.sub (ws' := [(h0, .inr (3, [.ref lg, .ref fs, .ref ps, .long fa, .long fb, .int 0, .int re])), (fs, .inr (1, [.ref vt])), (vt, .inr (2, [.ref vf, .ref vv])), (vf, .inl (cJ, 1024, .inr (.inl fm3))), (vv, .inl (cI, 1024, .inl vl3)), (ob, .inl (cJ, 1, .inr (.inl ov)))]) [1, 2, 3, 4, 5, 0] rfl
    have hD : va_D A [(h0, .inr (3, [.ref lg, .ref fs, .ref ps, .long fa, .long fb, .int 0, .int re])), (fs, .inr (1, [.ref vt])), (vt, .inr (2, [.ref vf, .ref vv])), (vf, .inl (cJ, 1024, .inr (.inl fm3))), (vv, .inl (cI, 1024, .inl vl3)), (ob, .inl (cJ, 1, .inr (.inl ov)))] := hD.sub (ws' := [(h0, .inr (3, [.ref lg, .ref fs, .ref ps, .long fa, .long fb, .int 0, .int re])), (fs, .inr (1, [.ref vt])), (vt, .inr (2, [.ref vf, .ref vv])), (vf, .inl (cJ, 1024, .inr (.inl fm3))), (vv, .inl (cI, 1024, .inl vl3)), (ob, .inl (cJ, 1, .inr (.inl ov)))]) [1, 2, 3, 4, 5, 0] (by decide) rfl
    refine lv_i2l (v := (r3 : Int32).toInt64) hx hb dL_bestMove_6 rfl ?_
    refine lv_topl (fun x6 ex6 => ?_)
    refine va_last hx hb hK hP hD hS 5 1 rfl rfl (vp_in_nI (n := 0) (N := 1) (by omega) (by decide)) dL_bestMove_7 (fun H locs hP hD hS => ?_)
    have hu7 : (0 : Int32).toNatClampNeg = 0 := pk_cl 0
    rw [hu7] at hP hD
    have hP : va_P D vwCl [(h0, .inr (3, [.ref lg, .ref fs, .ref ps, .long fa, .long fb, .int 0, .int re])), (fs, .inr (1, [.ref vt])), (vt, .inr (2, [.ref vf, .ref vv])), (vf, .inl (cJ, 1024, .inr (.inl fm3))), (vv, .inl (cI, 1024, .inl vl3)), (ob, .inl (cJ, 1, .inr (.inl (vp_updL ov 0 x6))))] H := hP
    have hD : va_D A [(h0, .inr (3, [.ref lg, .ref fs, .ref ps, .long fa, .long fb, .int 0, .int re])), (fs, .inr (1, [.ref vt])), (vt, .inr (2, [.ref vf, .ref vv])), (vf, .inl (cJ, 1024, .inr (.inl fm3))), (vv, .inl (cI, 1024, .inl vl3)), (ob, .inl (cJ, 1, .inr (.inl (vp_updL ov 0 x6))))] := hD
    refine lv_goto (tgt := 14) hx hb dL_bestMove_8 (by decide) ?_
    refine lv_iconst (v := 0) hx hb dL_bestMove_14 (by decide) ?_
    obtain rfl := ex6.symm
    refine W.widen (k := 1) (n := 6) (Nat.le_of_ble_eq_true rfl) (Nat.le_of_ble_eq_true rfl) ?_
    refine W.iret (v := 0) hx hb hr (fun tt ht hW => ⟨⟨0, (fm3, vl3, r3), rfl, ?_, by rw [ht]; exact hP, va_K.moved hW.alike hK, hD⟩, hS.F ht⟩) hS.2.2 dL_bestMove_15
    exact ⟨rfl, hw3⟩

set_option maxHeartbeats 400000 in
set_option maxRecDepth 100000 in
theorem c_L_bestMove_bad_0 (l : Launch) (hltr : l.stackTraces = false) (D : va_G) (cI cJ : ClassId) (sz : Nat) (h0 lg fs ps vt vf vv : Nat) (fa fb : Int64) (re : Int32) (fm : Nat → Int64) (vl : Nat → Int32) (hT : TI fm vl) (hpos : re = 0 → 0 < pop (cempty fa fb)) (hB : re = 0 → BV (pop (cempty fa fb)) (cown fa fb 0) (coth fa fb 0))  (ob : Nat) (ov : Nat → Int64) (hbad : ¬ (re = 0 ∧ pop (cempty fa fb) ≤ 3)) : Met l yL_bestMove wsL_bestMove ({ frames := 17, cells := 1, slots := 6, locals := 491 } : Room) (va_Pc [.ref h0, .ref ob] (px_N (px_X (va_A [(h0, .inr (3, [.ref lg, .ref fs, .ref ps, .long fa, .long fb, .int 0, .int re])), (fs, .inr (1, [.ref vt])), (vt, .inr (2, [.ref vf, .ref vv])), (vf, .inl (cJ, 1024, .inr (.inl fm))), (vv, .inl (cI, 1024, .inl vl)), (ob, .inl (cJ, 1, .inr (.inl ov)))] sz) (pv_C D cI cJ [(h0, .inr (3, [.ref lg, .ref fs, .ref ps, .long fa, .long fb, .int 0, .int re])), (fs, .inr (1, [.ref vt])), (vt, .inr (2, [.ref vf, .ref vv])), (vf, .inl (cJ, 1024, .inr (.inl fm))), (vv, .inl (cI, 1024, .inl vl)), (ob, .inl (cJ, 1, .inr (.inl ov)))] sz)))) (va_Qi (fun (r : Int32) (u : Unit) => r = 1) (fun (u : Unit) => pv_B D cI cJ (va_A [(h0, .inr (3, [.ref lg, .ref fs, .ref ps, .long fa, .long fb, .int 0, .int re])), (fs, .inr (1, [.ref vt])), (vt, .inr (2, [.ref vf, .ref vv])), (vf, .inl (cJ, 1024, .inr (.inl fm))), (vv, .inl (cI, 1024, .inl vl)), (ob, .inl (cJ, 1, .inr (.inl ov)))] sz) [(h0, .inr (3, [.ref lg, .ref fs, .ref ps, .long fa, .long fb, .int 0, .int re])), (fs, .inr (1, [.ref vt])), (vt, .inr (2, [.ref vf, .ref vv])), (vf, .inl (cJ, 1024, .inr (.inl fm))), (vv, .inl (cI, 1024, .inl vl)), (ob, .inl (cJ, 1, .inr (.inl ov)))]) (va_A [(h0, .inr (3, [.ref lg, .ref fs, .ref ps, .long fa, .long fb, .int 0, .int re])), (fs, .inr (1, [.ref vt])), (vt, .inr (2, [.ref vf, .ref vv])), (vf, .inl (cJ, 1024, .inr (.inl fm))), (vv, .inl (cI, 1024, .inl vl)), (ob, .inl (cJ, 1, .inr (.inl ov)))] sz)) 1 6 (va_A [(h0, .inr (3, [.ref lg, .ref fs, .ref ps, .long fa, .long fb, .int 0, .int re])), (fs, .inr (1, [.ref vt])), (vt, .inr (2, [.ref vf, .ref vv])), (vf, .inl (cJ, 1024, .inr (.inl fm))), (vv, .inl (cI, 1024, .inl vl)), (ob, .inl (cJ, 1, .inr (.inl ov)))] sz) := by
  refine va_MetW (cc := cL_bestMove) (maxL := 3) (ret := (some .int)) (hh := [(0, 8, 11, 15)]) (by decide) rfl ?_
  intro p e s m args below meth c s₁ B hml hv
  obtain ⟨rfl, hNC, hEN, hEX, hZ, rfl, hP, hK, hD0⟩ := hv
  have hx := B.exec
  have hb := B.bytes
  have hr := B.returns
  have hts := atoms_spec (ws := wsL_bestMove) B.pre
  have hown : s.vm.findClass RL = some m.cls := findClass_of_methodNamed B.named
  have hlocks := B.notSynchronized
  have htb := vx_table (x := yL_bestMove) B (hts _ (List.mem_of_getElem? (i := 0) rfl))
  have hD := hD0.self (sz := s.heap.size)
  generalize hAe : va_A [(h0, .inr (3, [.ref lg, .ref fs, .ref ps, .long fa, .long fb, .int 0, .int re])), (fs, .inr (1, [.ref vt])), (vt, .inr (2, [.ref vf, .ref vv])), (vf, .inl (cJ, 1024, .inr (.inl fm))), (vv, .inl (cI, 1024, .inl vl)), (ob, .inl (cJ, 1, .inr (.inl ov)))] s.heap.size = A at hD hZ ⊢
  have hA : ∀ q : Nat, s.heap.size ≤ q → A q := fun q h => by rw [← hAe]; exact Or.inr h
  have hS : va_S A s.heap s.heap [] := va_S.rf
  have hl := lv_entry ([.ref h0, .ref ob]) (n := 3) (Nat.le_of_ble_eq_true rfl)
  rw [lg_entry_eq]
  generalize (lg_sl ([.ref h0, .ref ob]) ++ List.replicate (3 - (lg_sl ([.ref h0, .ref ob])).length) Slot.unset).toArray = ls at hl ⊢
  have hl : lv_has ls 3 [(0, .ref h0), (1, .ref ob)] := hl
  refine lv_aload_n hx hb dL_bestMove_0 rfl (lv_at hl 1 rfl) ?_
  refine lv_iconst (v := 0) hx hb dL_bestMove_1 (by decide) ?_
  refine lv_aload_n hx hb dL_bestMove_2 rfl (lv_at hl 0 rfl) ?_
  have hPc : va_P D vwCl [(h0, .inr (3, [.ref lg, .ref fs, .ref ps, .long fa, .long fb, .int 0, .int re])), (fs, .inr (1, [.ref vt])), (vt, .inr (2, [.ref vf, .ref vv])), (vf, .inl (cJ, 1024, .inr (.inl fm))), (vv, .inl (cI, 1024, .inl vl))] s.heap := hP.sub (ws' := [(h0, .inr (3, [.ref lg, .ref fs, .ref ps, .long fa, .long fb, .int 0, .int re])), (fs, .inr (1, [.ref vt])), (vt, .inr (2, [.ref vf, .ref vv])), (vf, .inl (cJ, 1024, .inr (.inl fm))), (vv, .inl (cI, 1024, .inl vl))]) [0, 1, 2, 3, 4] rfl
  have hDc : va_D A [(h0, .inr (3, [.ref lg, .ref fs, .ref ps, .long fa, .long fb, .int 0, .int re])), (fs, .inr (1, [.ref vt])), (vt, .inr (2, [.ref vf, .ref vv])), (vf, .inl (cJ, 1024, .inr (.inl fm))), (vv, .inl (cI, 1024, .inl vl))] := hD.sub (ws' := [(h0, .inr (3, [.ref lg, .ref fs, .ref ps, .long fa, .long fb, .int 0, .int re])), (fs, .inr (1, [.ref vt])), (vt, .inr (2, [.ref vf, .ref vv])), (vf, .inl (cJ, 1024, .inr (.inl fm))), (vv, .inl (cI, 1024, .inl vl))]) [0, 1, 2, 3, 4] (by decide) rfl
  have hFc := va_free (wc := [(h0, .inr (3, [.ref lg, .ref fs, .ref ps, .long fa, .long fb, .int 0, .int re])), (fs, .inr (1, [.ref vt])), (vt, .inr (2, [.ref vf, .ref vv])), (vf, .inl (cJ, 1024, .inr (.inl fm))), (vv, .inl (cI, 1024, .inl vl))]) hD hS hA [0, 1, 2, 3, 4] rfl
  refine vx_calli (vx_runV (As := []) (rest := [.int 0, .ref ob]) ⟨hx, hb, hml, hown, hts⟩ (c_X6_bestMove_0 l hltr D cI cJ s.heap.size  h0 lg fs ps vt vf vv fa fb re fm vl hT hpos hB) (cwV 0 hts gL_bestMove_X6_bestMove rfl rfl rfl (by decide +kernel) ⟨Nat.le_of_ble_eq_true rfl, Nat.le_of_ble_eq_true rfl⟩) ⟨(px_blindE (px_blindX pv_blind)), va_recv hK hPc (ci := 3) (q0 := 0) rfl rfl, fun U hU hW => ⟨rfl, hEN.warm hW, hEX.warm hW, by rw [hU]; exact hZ.to hS hW.alike hFc, by rw [hU], by rw [hU]; exact hPc, va_K.moved hW.alike hK, hDc.weaken (fun _ _ _ _ => trivial)⟩⟩ rfl rfl hl.1 rfl (lv_room (Nat.le_of_ble_eq_true rfl)) dL_bestMove_3 ⟨(Nat.le_of_ble_eq_true rfl), (Nat.le_of_ble_eq_true rfl)⟩) hS (fun q _ h => hFc q h) hFc (fun q _ h => hFc q h) (fun E ce q9 u9 t9 H1 locs hth hvm hpx hB9 hz1 hk1 hS hce hcv hcl => ?_) (fun r3 u t9 H1 locs hth hvm hw3 hB9 hz1 hk1 hS => ?_)
  · obtain ⟨hb9, hP1, hK1, hD1⟩ := hB9
    rw [hth] at hP1
    obtain ⟨hP, hD⟩ := va_join (wr := [(ob, .inl (cJ, 1, .inr (.inl ov)))]) (w1 := [(h0, .inr (3, [.ref lg, .ref fs, .ref ps, .long fa, .long fb, .int 0, .int re])), (fs, .inr (1, [.ref vt])), (vt, .inr (2, [.ref vf, .ref vv])), (vf, .inl (cJ, 1024, .inr (.inl fm))), (vv, .inl (cI, 1024, .inl vl))]) hP hD [0, 1, 2, 3, 4] [5] rfl rfl (by decide) (by decide) hk1 hFc hP1 hD1
    have hP : va_P D vwCl [(h0, .inr (3, [.ref lg, .ref fs, .ref ps, .long fa, .long fb, .int 0, .int re])), (fs, .inr (1, [.ref vt])), (vt, .inr (2, [.ref vf, .ref vv])), (vf, .inl (cJ, 1024, .inr (.inl fm))), (vv, .inl (cI, 1024, .inl vl)), (ob, .inl (cJ, 1, .inr (.inl ov)))] H1 := hP.sub (ws' := [(h0, .inr (3, [.ref lg, .ref fs, .ref ps, .long fa, .long fb, .int 0, .int re])), (fs, .inr (1, [.ref vt])), (vt, .inr (2, [.ref vf, .ref vv])), (vf, .inl (cJ, 1024, .inr (.inl fm))), (vv, .inl (cI, 1024, .inl vl)), (ob, .inl (cJ, 1, .inr (.inl ov)))]) [1, 2, 3, 4, 5, 0] rfl
    have hD : va_D A [(h0, .inr (3, [.ref lg, .ref fs, .ref ps, .long fa, .long fb, .int 0, .int re])), (fs, .inr (1, [.ref vt])), (vt, .inr (2, [.ref vf, .ref vv])), (vf, .inl (cJ, 1024, .inr (.inl fm))), (vv, .inl (cI, 1024, .inl vl)), (ob, .inl (cJ, 1, .inr (.inl ov)))] := hD.sub (ws' := [(h0, .inr (3, [.ref lg, .ref fs, .ref ps, .long fa, .long fb, .int 0, .int re])), (fs, .inr (1, [.ref vt])), (vt, .inr (2, [.ref vf, .ref vv])), (vf, .inl (cJ, 1024, .inr (.inl fm))), (vv, .inl (cI, 1024, .inl vl)), (ob, .inl (cJ, 1, .inr (.inl ov)))]) [1, 2, 3, 4, 5, 0] (by decide) rfl
    obtain rfl : E = nISE := hb9.1
    refine vx_catch (own := RL) (name := nISE) hown [] ⟨0, 8, 11, 15⟩ [] (htb.trans rfl) (fun z hz => nomatch hz) (by decide) (by decide) (hts (.classLink RL 15 nISE) (by decide +kernel)) (va_Nw.use rfl hEX.2.2.1) hce hcv hcl ?_
    refine lv_astore_n (lv' := [(2, .ref q9), (0, .ref h0), (1, .ref ob)]) hx hb dL_bestMove_11 rfl hl (by decide) rfl (fun ls hl => ?_)
    refine lv_iconst (v := 1) hx hb dL_bestMove_12 (by decide) ?_
    refine W.widen (k := 1) (n := 6) (Nat.le_of_ble_eq_true rfl) (Nat.le_of_ble_eq_true rfl) ?_
    refine W.iret (v := 1) hx hb hr (fun tt ht hW => ⟨⟨1, (), rfl, ?_, by rw [ht]; exact hP, va_K.moved hW.alike hK, hD⟩, hS.F ht⟩) hS.2.2 dL_bestMove_13
    exact rfl
  · try dsimp only at hw3
    exact absurd ⟨hw3.1, hw3.2.1⟩ hbad

set_option maxHeartbeats 400000 in
set_option maxRecDepth 100000 in
theorem c_L_valueOnBoards_ok_0 (l : Launch) (hltr : l.stackTraces = false) (D : va_G) (cI cJ : ClassId) (sz : Nat) (h0 lg fs ps : Nat) (fa fb : Int64) (re : Int32)  (ob : Nat) (ov : Nat → Int64) (hok : re = 0 ∧ pop (cempty fa fb) ≤ 3) : Met l yL_valueOnBoards wsL_valueOnBoards ({ frames := 18, cells := 1, slots := 6, locals := 510 } : Room) (va_Pc [.ref h0, .ref ob] (px_N (px_X (va_A [(h0, .inr (3, [.ref lg, .ref fs, .ref ps, .long fa, .long fb, .int 0, .int re])), (ps, .inr (1, [.null])), (ob, .inl (cJ, 1, .inr (.inl ov)))] sz) (pv_C D cI cJ [(h0, .inr (3, [.ref lg, .ref fs, .ref ps, .long fa, .long fb, .int 0, .int re])), (ps, .inr (1, [.null])), (ob, .inl (cJ, 1, .inr (.inl ov)))] sz)))) (va_Qi (fun (r : Int32) (u : (Int32)) => r = 0 ∧ (re = 0 ∧ pop (cempty fa fb) ≤ 3 ∧ u = vput (pop (cempty fa fb)) (cown fa fb 0) (coth fa fb 0))) (fun (u : (Int32)) => pv_B D cI cJ (va_A [(h0, .inr (3, [.ref lg, .ref fs, .ref ps, .long fa, .long fb, .int 0, .int re])), (ps, .inr (1, [.null])), (ob, .inl (cJ, 1, .inr (.inl ov)))] sz) [(h0, .inr (3, [.ref lg, .ref fs, .ref ps, .long fa, .long fb, .int 0, .int re])), (ps, .inr (1, [.null])), (ob, .inl (cJ, 1, .inr (.inl (vp_updL ov 0 (u).toInt64))))]) (va_A [(h0, .inr (3, [.ref lg, .ref fs, .ref ps, .long fa, .long fb, .int 0, .int re])), (ps, .inr (1, [.null])), (ob, .inl (cJ, 1, .inr (.inl ov)))] sz)) 1 6 (va_A [(h0, .inr (3, [.ref lg, .ref fs, .ref ps, .long fa, .long fb, .int 0, .int re])), (ps, .inr (1, [.null])), (ob, .inl (cJ, 1, .inr (.inl ov)))] sz) := by
  refine va_MetW (cc := cL_valueOnBoards) (maxL := 3) (ret := (some .int)) (hh := [(0, 8, 11, 15)]) (by decide) rfl ?_
  intro p e s m args below meth c s₁ B hml hv
  obtain ⟨rfl, hNC, hEN, hEX, hZ, rfl, hP, hK, hD0⟩ := hv
  have hx := B.exec
  have hb := B.bytes
  have hr := B.returns
  have hts := atoms_spec (ws := wsL_valueOnBoards) B.pre
  have hown : s.vm.findClass RL = some m.cls := findClass_of_methodNamed B.named
  have hlocks := B.notSynchronized
  have htb := vx_table (x := yL_valueOnBoards) B (hts _ (List.mem_of_getElem? (i := 0) rfl))
  have hD := hD0.self (sz := s.heap.size)
  generalize hAe : va_A [(h0, .inr (3, [.ref lg, .ref fs, .ref ps, .long fa, .long fb, .int 0, .int re])), (ps, .inr (1, [.null])), (ob, .inl (cJ, 1, .inr (.inl ov)))] s.heap.size = A at hD hZ ⊢
  have hA : ∀ q : Nat, s.heap.size ≤ q → A q := fun q h => by rw [← hAe]; exact Or.inr h
  have hS : va_S A s.heap s.heap [] := va_S.rf
  have hl := lv_entry ([.ref h0, .ref ob]) (n := 3) (Nat.le_of_ble_eq_true rfl)
  rw [lg_entry_eq]
  generalize (lg_sl ([.ref h0, .ref ob]) ++ List.replicate (3 - (lg_sl ([.ref h0, .ref ob])).length) Slot.unset).toArray = ls at hl ⊢
  have hl : lv_has ls 3 [(0, .ref h0), (1, .ref ob)] := hl
  refine lv_aload_n hx hb dL_valueOnBoards_0 rfl (lv_at hl 1 rfl) ?_
  refine lv_iconst (v := 0) hx hb dL_valueOnBoards_1 (by decide) ?_
  refine lv_aload_n hx hb dL_valueOnBoards_2 rfl (lv_at hl 0 rfl) ?_
  have hPc : va_P D vwCl [(h0, .inr (3, [.ref lg, .ref fs, .ref ps, .long fa, .long fb, .int 0, .int re])), (ps, .inr (1, [.null]))] s.heap := hP.sub (ws' := [(h0, .inr (3, [.ref lg, .ref fs, .ref ps, .long fa, .long fb, .int 0, .int re])), (ps, .inr (1, [.null]))]) [0, 1] rfl
  have hDc : va_D A [(h0, .inr (3, [.ref lg, .ref fs, .ref ps, .long fa, .long fb, .int 0, .int re])), (ps, .inr (1, [.null]))] := hD.sub (ws' := [(h0, .inr (3, [.ref lg, .ref fs, .ref ps, .long fa, .long fb, .int 0, .int re])), (ps, .inr (1, [.null]))]) [0, 1] (by decide) rfl
  have hFc := va_free (wc := [(h0, .inr (3, [.ref lg, .ref fs, .ref ps, .long fa, .long fb, .int 0, .int re])), (ps, .inr (1, [.null]))]) hD hS hA [0, 1] rfl
  refine vx_calli (vx_runV (As := []) (rest := [.int 0, .ref ob]) ⟨hx, hb, hml, hown, hts⟩ (c_X6_valueOnBoards_0 l hltr D cI cJ s.heap.size  h0 lg fs ps fa fb re) (cwV 0 hts gL_valueOnBoards_X6_valueOnBoards rfl rfl rfl (by decide +kernel) ⟨Nat.le_of_ble_eq_true rfl, Nat.le_of_ble_eq_true rfl⟩) ⟨(px_blindE (px_blindX pv_blind)), va_recv hK hPc (ci := 3) (q0 := 0) rfl rfl, fun U hU hW => ⟨rfl, hEN.warm hW, hEX.warm hW, by rw [hU]; exact hZ.to hS hW.alike hFc, by rw [hU], by rw [hU]; exact hPc, va_K.moved hW.alike hK, hDc.weaken (fun _ _ _ _ => trivial)⟩⟩ rfl rfl hl.1 rfl (lv_room (Nat.le_of_ble_eq_true rfl)) dL_valueOnBoards_3 ⟨(Nat.le_of_ble_eq_true rfl), (Nat.le_of_ble_eq_true rfl)⟩) hS (fun q _ h => hFc q h) hFc (fun q _ h => hFc q h) (fun E ce q9 u9 t9 H1 locs hth hvm hpx hB9 hz1 hk1 hS hce hcv hcl => ?_) (fun r3 u t9 H1 locs hth hvm hw3 hB9 hz1 hk1 hS => ?_)
  · obtain ⟨hb9, hP1, hK1, hD1⟩ := hB9
    rw [hth] at hP1
    obtain ⟨hP, hD⟩ := va_join (wr := [(ob, .inl (cJ, 1, .inr (.inl ov)))]) (w1 := [(h0, .inr (3, [.ref lg, .ref fs, .ref ps, .long fa, .long fb, .int 0, .int re])), (ps, .inr (1, [.null]))]) hP hD [0, 1] [2] rfl rfl (by decide) (by decide) hk1 hFc hP1 hD1
    have hP : va_P D vwCl [(h0, .inr (3, [.ref lg, .ref fs, .ref ps, .long fa, .long fb, .int 0, .int re])), (ps, .inr (1, [.null])), (ob, .inl (cJ, 1, .inr (.inl ov)))] H1 := hP.sub (ws' := [(h0, .inr (3, [.ref lg, .ref fs, .ref ps, .long fa, .long fb, .int 0, .int re])), (ps, .inr (1, [.null])), (ob, .inl (cJ, 1, .inr (.inl ov)))]) [1, 2, 0] rfl
    have hD : va_D A [(h0, .inr (3, [.ref lg, .ref fs, .ref ps, .long fa, .long fb, .int 0, .int re])), (ps, .inr (1, [.null])), (ob, .inl (cJ, 1, .inr (.inl ov)))] := hD.sub (ws' := [(h0, .inr (3, [.ref lg, .ref fs, .ref ps, .long fa, .long fb, .int 0, .int re])), (ps, .inr (1, [.null])), (ob, .inl (cJ, 1, .inr (.inl ov)))]) [1, 2, 0] (by decide) rfl
    exact (absurd hok hb9.2)
  · try dsimp only at hw3
    obtain ⟨hP1, hK1, hD1⟩ := hB9
    rw [hth] at hP1
    obtain ⟨hP, hD⟩ := va_join (wr := [(ob, .inl (cJ, 1, .inr (.inl ov)))]) (w1 := [(h0, .inr (3, [.ref lg, .ref fs, .ref ps, .long fa, .long fb, .int 0, .int re])), (ps, .inr (1, [.null]))]) hP hD [0, 1] [2] rfl rfl (by decide) (by decide) hk1 hFc hP1 hD1
    generalize H1 = H at hP hS ⊢
    have hP : va_P D vwCl [(h0, .inr (3, [.ref lg, .ref fs, .ref ps, .long fa, .long fb, .int 0, .int re])), (ps, .inr (1, [.null])), (ob, .inl (cJ, 1, .inr (.inl ov)))] H := hP.sub (ws' := [(h0, .inr (3, [.ref lg, .ref fs, .ref ps, .long fa, .long fb, .int 0, .int re])), (ps, .inr (1, [.null])), (ob, .inl (cJ, 1, .inr (.inl ov)))]) [1, 2, 0] rfl
    have hD : va_D A [(h0, .inr (3, [.ref lg, .ref fs, .ref ps, .long fa, .long fb, .int 0, .int re])), (ps, .inr (1, [.null])), (ob, .inl (cJ, 1, .inr (.inl ov)))] := hD.sub (ws' := [(h0, .inr (3, [.ref lg, .ref fs, .ref ps, .long fa, .long fb, .int 0, .int re])), (ps, .inr (1, [.null])), (ob, .inl (cJ, 1, .inr (.inl ov)))]) [1, 2, 0] (by decide) rfl
    refine lv_i2l (v := (r3 : Int32).toInt64) hx hb dL_valueOnBoards_6 rfl ?_
    refine lv_topl (fun x6 ex6 => ?_)
    refine va_last hx hb hK hP hD hS 2 1 rfl rfl (vp_in_nI (n := 0) (N := 1) (by omega) (by decide)) dL_valueOnBoards_7 (fun H locs hP hD hS => ?_)
    have hu7 : (0 : Int32).toNatClampNeg = 0 := pk_cl 0
    rw [hu7] at hP hD
    have hP : va_P D vwCl [(h0, .inr (3, [.ref lg, .ref fs, .ref ps, .long fa, .long fb, .int 0, .int re])), (ps, .inr (1, [.null])), (ob, .inl (cJ, 1, .inr (.inl (vp_updL ov 0 x6))))] H := hP
    have hD : va_D A [(h0, .inr (3, [.ref lg, .ref fs, .ref ps, .long fa, .long fb, .int 0, .int re])), (ps, .inr (1, [.null])), (ob, .inl (cJ, 1, .inr (.inl (vp_updL ov 0 x6))))] := hD
    refine lv_goto (tgt := 14) hx hb dL_valueOnBoards_8 (by decide) ?_
    refine lv_iconst (v := 0) hx hb dL_valueOnBoards_14 (by decide) ?_
    obtain rfl := ex6.symm
    refine W.widen (k := 1) (n := 6) (Nat.le_of_ble_eq_true rfl) (Nat.le_of_ble_eq_true rfl) ?_
    refine W.iret (v := 0) hx hb hr (fun tt ht hW => ⟨⟨0, r3, rfl, ?_, by rw [ht]; exact hP, va_K.moved hW.alike hK, hD⟩, hS.F ht⟩) hS.2.2 dL_valueOnBoards_15
    exact ⟨rfl, hw3⟩

set_option maxHeartbeats 400000 in
set_option maxRecDepth 100000 in
theorem c_L_valueOnBoards_bad_0 (l : Launch) (hltr : l.stackTraces = false) (D : va_G) (cI cJ : ClassId) (sz : Nat) (h0 lg fs ps : Nat) (fa fb : Int64) (re : Int32)  (ob : Nat) (ov : Nat → Int64) (hbad : ¬ (re = 0 ∧ pop (cempty fa fb) ≤ 3)) : Met l yL_valueOnBoards wsL_valueOnBoards ({ frames := 18, cells := 1, slots := 6, locals := 510 } : Room) (va_Pc [.ref h0, .ref ob] (px_N (px_X (va_A [(h0, .inr (3, [.ref lg, .ref fs, .ref ps, .long fa, .long fb, .int 0, .int re])), (ps, .inr (1, [.null])), (ob, .inl (cJ, 1, .inr (.inl ov)))] sz) (pv_C D cI cJ [(h0, .inr (3, [.ref lg, .ref fs, .ref ps, .long fa, .long fb, .int 0, .int re])), (ps, .inr (1, [.null])), (ob, .inl (cJ, 1, .inr (.inl ov)))] sz)))) (va_Qi (fun (r : Int32) (u : Unit) => r = 1) (fun (u : Unit) => pv_B D cI cJ (va_A [(h0, .inr (3, [.ref lg, .ref fs, .ref ps, .long fa, .long fb, .int 0, .int re])), (ps, .inr (1, [.null])), (ob, .inl (cJ, 1, .inr (.inl ov)))] sz) [(h0, .inr (3, [.ref lg, .ref fs, .ref ps, .long fa, .long fb, .int 0, .int re])), (ps, .inr (1, [.null])), (ob, .inl (cJ, 1, .inr (.inl ov)))]) (va_A [(h0, .inr (3, [.ref lg, .ref fs, .ref ps, .long fa, .long fb, .int 0, .int re])), (ps, .inr (1, [.null])), (ob, .inl (cJ, 1, .inr (.inl ov)))] sz)) 1 6 (va_A [(h0, .inr (3, [.ref lg, .ref fs, .ref ps, .long fa, .long fb, .int 0, .int re])), (ps, .inr (1, [.null])), (ob, .inl (cJ, 1, .inr (.inl ov)))] sz) := by
  refine va_MetW (cc := cL_valueOnBoards) (maxL := 3) (ret := (some .int)) (hh := [(0, 8, 11, 15)]) (by decide) rfl ?_
  intro p e s m args below meth c s₁ B hml hv
  obtain ⟨rfl, hNC, hEN, hEX, hZ, rfl, hP, hK, hD0⟩ := hv
  have hx := B.exec
  have hb := B.bytes
  have hr := B.returns
  have hts := atoms_spec (ws := wsL_valueOnBoards) B.pre
  have hown : s.vm.findClass RL = some m.cls := findClass_of_methodNamed B.named
  have hlocks := B.notSynchronized
  have htb := vx_table (x := yL_valueOnBoards) B (hts _ (List.mem_of_getElem? (i := 0) rfl))
  have hD := hD0.self (sz := s.heap.size)
  generalize hAe : va_A [(h0, .inr (3, [.ref lg, .ref fs, .ref ps, .long fa, .long fb, .int 0, .int re])), (ps, .inr (1, [.null])), (ob, .inl (cJ, 1, .inr (.inl ov)))] s.heap.size = A at hD hZ ⊢
  have hA : ∀ q : Nat, s.heap.size ≤ q → A q := fun q h => by rw [← hAe]; exact Or.inr h
  have hS : va_S A s.heap s.heap [] := va_S.rf
  have hl := lv_entry ([.ref h0, .ref ob]) (n := 3) (Nat.le_of_ble_eq_true rfl)
  rw [lg_entry_eq]
  generalize (lg_sl ([.ref h0, .ref ob]) ++ List.replicate (3 - (lg_sl ([.ref h0, .ref ob])).length) Slot.unset).toArray = ls at hl ⊢
  have hl : lv_has ls 3 [(0, .ref h0), (1, .ref ob)] := hl
  refine lv_aload_n hx hb dL_valueOnBoards_0 rfl (lv_at hl 1 rfl) ?_
  refine lv_iconst (v := 0) hx hb dL_valueOnBoards_1 (by decide) ?_
  refine lv_aload_n hx hb dL_valueOnBoards_2 rfl (lv_at hl 0 rfl) ?_
  have hPc : va_P D vwCl [(h0, .inr (3, [.ref lg, .ref fs, .ref ps, .long fa, .long fb, .int 0, .int re])), (ps, .inr (1, [.null]))] s.heap := hP.sub (ws' := [(h0, .inr (3, [.ref lg, .ref fs, .ref ps, .long fa, .long fb, .int 0, .int re])), (ps, .inr (1, [.null]))]) [0, 1] rfl
  have hDc : va_D A [(h0, .inr (3, [.ref lg, .ref fs, .ref ps, .long fa, .long fb, .int 0, .int re])), (ps, .inr (1, [.null]))] := hD.sub (ws' := [(h0, .inr (3, [.ref lg, .ref fs, .ref ps, .long fa, .long fb, .int 0, .int re])), (ps, .inr (1, [.null]))]) [0, 1] (by decide) rfl
  have hFc := va_free (wc := [(h0, .inr (3, [.ref lg, .ref fs, .ref ps, .long fa, .long fb, .int 0, .int re])), (ps, .inr (1, [.null]))]) hD hS hA [0, 1] rfl
  refine vx_calli (vx_runV (As := []) (rest := [.int 0, .ref ob]) ⟨hx, hb, hml, hown, hts⟩ (c_X6_valueOnBoards_0 l hltr D cI cJ s.heap.size  h0 lg fs ps fa fb re) (cwV 0 hts gL_valueOnBoards_X6_valueOnBoards rfl rfl rfl (by decide +kernel) ⟨Nat.le_of_ble_eq_true rfl, Nat.le_of_ble_eq_true rfl⟩) ⟨(px_blindE (px_blindX pv_blind)), va_recv hK hPc (ci := 3) (q0 := 0) rfl rfl, fun U hU hW => ⟨rfl, hEN.warm hW, hEX.warm hW, by rw [hU]; exact hZ.to hS hW.alike hFc, by rw [hU], by rw [hU]; exact hPc, va_K.moved hW.alike hK, hDc.weaken (fun _ _ _ _ => trivial)⟩⟩ rfl rfl hl.1 rfl (lv_room (Nat.le_of_ble_eq_true rfl)) dL_valueOnBoards_3 ⟨(Nat.le_of_ble_eq_true rfl), (Nat.le_of_ble_eq_true rfl)⟩) hS (fun q _ h => hFc q h) hFc (fun q _ h => hFc q h) (fun E ce q9 u9 t9 H1 locs hth hvm hpx hB9 hz1 hk1 hS hce hcv hcl => ?_) (fun r3 u t9 H1 locs hth hvm hw3 hB9 hz1 hk1 hS => ?_)
  · obtain ⟨hb9, hP1, hK1, hD1⟩ := hB9
    rw [hth] at hP1
    obtain ⟨hP, hD⟩ := va_join (wr := [(ob, .inl (cJ, 1, .inr (.inl ov)))]) (w1 := [(h0, .inr (3, [.ref lg, .ref fs, .ref ps, .long fa, .long fb, .int 0, .int re])), (ps, .inr (1, [.null]))]) hP hD [0, 1] [2] rfl rfl (by decide) (by decide) hk1 hFc hP1 hD1
    have hP : va_P D vwCl [(h0, .inr (3, [.ref lg, .ref fs, .ref ps, .long fa, .long fb, .int 0, .int re])), (ps, .inr (1, [.null])), (ob, .inl (cJ, 1, .inr (.inl ov)))] H1 := hP.sub (ws' := [(h0, .inr (3, [.ref lg, .ref fs, .ref ps, .long fa, .long fb, .int 0, .int re])), (ps, .inr (1, [.null])), (ob, .inl (cJ, 1, .inr (.inl ov)))]) [1, 2, 0] rfl
    have hD : va_D A [(h0, .inr (3, [.ref lg, .ref fs, .ref ps, .long fa, .long fb, .int 0, .int re])), (ps, .inr (1, [.null])), (ob, .inl (cJ, 1, .inr (.inl ov)))] := hD.sub (ws' := [(h0, .inr (3, [.ref lg, .ref fs, .ref ps, .long fa, .long fb, .int 0, .int re])), (ps, .inr (1, [.null])), (ob, .inl (cJ, 1, .inr (.inl ov)))]) [1, 2, 0] (by decide) rfl
    obtain rfl : E = nISE := hb9.1
    refine vx_catch (own := RL) (name := nISE) hown [] ⟨0, 8, 11, 15⟩ [] (htb.trans rfl) (fun z hz => nomatch hz) (by decide) (by decide) (hts (.classLink RL 15 nISE) (by decide +kernel)) (va_Nw.use rfl hEX.2.2.1) hce hcv hcl ?_
    refine lv_astore_n (lv' := [(2, .ref q9), (0, .ref h0), (1, .ref ob)]) hx hb dL_valueOnBoards_11 rfl hl (by decide) rfl (fun ls hl => ?_)
    refine lv_iconst (v := 1) hx hb dL_valueOnBoards_12 (by decide) ?_
    refine W.widen (k := 1) (n := 6) (Nat.le_of_ble_eq_true rfl) (Nat.le_of_ble_eq_true rfl) ?_
    refine W.iret (v := 1) hx hb hr (fun tt ht hW => ⟨⟨1, (), rfl, ?_, by rw [ht]; exact hP, va_K.moved hW.alike hK, hD⟩, hS.F ht⟩) hS.2.2 dL_valueOnBoards_13
    exact rfl
  · try dsimp only at hw3
    exact absurd ⟨hw3.1, hw3.2.1⟩ hbad

set_option maxHeartbeats 400000 in
set_option maxRecDepth 100000 in
theorem c_L_value_ok_1 (l : Launch) (hltr : l.stackTraces = false) (D : va_G) (cI cJ : ClassId) (sz : Nat) (h0 lg fs ps vt vf vv : Nat) (fa fb : Int64) (re : Int32) (fm : Nat → Int64) (vl : Nat → Int32) (hT : TI fm vl) (hp : 0 < pop (fa ||| fb)) (hB : re = 0 → BH (pop (cempty fa fb)) (cown fa fb 1) (coth fa fb 1))  (ob : Nat) (ov : Nat → Int64) (hok : re = 0 ∧ pop (cempty fa fb) ≤ 3) : Met l yL_value wsL_value ({ frames := 18, cells := 1, slots := 6, locals := 510 } : Room) (va_Pc [.ref h0, .ref ob] (px_N (px_X (va_A [(h0, .inr (3, [.ref lg, .ref fs, .ref ps, .long fa, .long fb, .int 1, .int re])), (fs, .inr (1, [.ref vt])), (vt, .inr (2, [.ref vf, .ref vv])), (vf, .inl (cJ, 1024, .inr (.inl fm))), (vv, .inl (cI, 1024, .inl vl)), (ob, .inl (cJ, 1, .inr (.inl ov)))] sz) (pv_C D cI cJ [(h0, .inr (3, [.ref lg, .ref fs, .ref ps, .long fa, .long fb, .int 1, .int re])), (fs, .inr (1, [.ref vt])), (vt, .inr (2, [.ref vf, .ref vv])), (vf, .inl (cJ, 1024, .inr (.inl fm))), (vv, .inl (cI, 1024, .inl vl)), (ob, .inl (cJ, 1, .inr (.inl ov)))] sz)))) (va_Qi (fun (r : Int32) (u : (Nat → Int64) × (Nat → Int32) × (Int32)) => r = 0 ∧ (re = 0 ∧ pop (cempty fa fb) ≤ 3 ∧ (u.2.2) = vturn (vput (pop (cempty fa fb))) (cown fa fb 1) (coth fa fb 1) 8 ∧ TI u.1 u.2.1)) (fun (u : (Nat → Int64) × (Nat → Int32) × (Int32)) => pv_B D cI cJ (va_A [(h0, .inr (3, [.ref lg, .ref fs, .ref ps, .long fa, .long fb, .int 1, .int re])), (fs, .inr (1, [.ref vt])), (vt, .inr (2, [.ref vf, .ref vv])), (vf, .inl (cJ, 1024, .inr (.inl fm))), (vv, .inl (cI, 1024, .inl vl)), (ob, .inl (cJ, 1, .inr (.inl ov)))] sz) [(h0, .inr (3, [.ref lg, .ref fs, .ref ps, .long fa, .long fb, .int 1, .int re])), (fs, .inr (1, [.ref vt])), (vt, .inr (2, [.ref vf, .ref vv])), (vf, .inl (cJ, 1024, .inr (.inl u.1))), (vv, .inl (cI, 1024, .inl u.2.1)), (ob, .inl (cJ, 1, .inr (.inl (vp_updL ov 0 (u.2.2).toInt64))))]) (va_A [(h0, .inr (3, [.ref lg, .ref fs, .ref ps, .long fa, .long fb, .int 1, .int re])), (fs, .inr (1, [.ref vt])), (vt, .inr (2, [.ref vf, .ref vv])), (vf, .inl (cJ, 1024, .inr (.inl fm))), (vv, .inl (cI, 1024, .inl vl)), (ob, .inl (cJ, 1, .inr (.inl ov)))] sz)) 1 6 (va_A [(h0, .inr (3, [.ref lg, .ref fs, .ref ps, .long fa, .long fb, .int 1, .int re])), (fs, .inr (1, [.ref vt])), (vt, .inr (2, [.ref vf, .ref vv])), (vf, .inl (cJ, 1024, .inr (.inl fm))), (vv, .inl (cI, 1024, .inl vl)), (ob, .inl (cJ, 1, .inr (.inl ov)))] sz) := by
  refine va_MetW (cc := cL_value) (maxL := 3) (ret := (some .int)) (hh := [(0, 8, 11, 15)]) (by decide) rfl ?_
  intro p e s m args below meth c s₁ B hml hv
  obtain ⟨rfl, hNC, hEN, hEX, hZ, rfl, hP, hK, hD0⟩ := hv
  have hx := B.exec
  have hb := B.bytes
  have hr := B.returns
  have hts := atoms_spec (ws := wsL_value) B.pre
  have hown : s.vm.findClass RL = some m.cls := findClass_of_methodNamed B.named
  have hlocks := B.notSynchronized
  have htb := vx_table (x := yL_value) B (hts _ (List.mem_of_getElem? (i := 0) rfl))
  have hD := hD0.self (sz := s.heap.size)
  generalize hAe : va_A [(h0, .inr (3, [.ref lg, .ref fs, .ref ps, .long fa, .long fb, .int 1, .int re])), (fs, .inr (1, [.ref vt])), (vt, .inr (2, [.ref vf, .ref vv])), (vf, .inl (cJ, 1024, .inr (.inl fm))), (vv, .inl (cI, 1024, .inl vl)), (ob, .inl (cJ, 1, .inr (.inl ov)))] s.heap.size = A at hD hZ ⊢
  have hA : ∀ q : Nat, s.heap.size ≤ q → A q := fun q h => by rw [← hAe]; exact Or.inr h
  have hS : va_S A s.heap s.heap [] := va_S.rf
  have hl := lv_entry ([.ref h0, .ref ob]) (n := 3) (Nat.le_of_ble_eq_true rfl)
  rw [lg_entry_eq]
  generalize (lg_sl ([.ref h0, .ref ob]) ++ List.replicate (3 - (lg_sl ([.ref h0, .ref ob])).length) Slot.unset).toArray = ls at hl ⊢
  have hl : lv_has ls 3 [(0, .ref h0), (1, .ref ob)] := hl
  refine lv_aload_n hx hb dL_value_0 rfl (lv_at hl 1 rfl) ?_
  refine lv_iconst (v := 0) hx hb dL_value_1 (by decide) ?_
  refine lv_aload_n hx hb dL_value_2 rfl (lv_at hl 0 rfl) ?_
  have hPc : va_P D vwCl [(h0, .inr (3, [.ref lg, .ref fs, .ref ps, .long fa, .long fb, .int 1, .int re])), (fs, .inr (1, [.ref vt])), (vt, .inr (2, [.ref vf, .ref vv])), (vf, .inl (cJ, 1024, .inr (.inl fm))), (vv, .inl (cI, 1024, .inl vl))] s.heap := hP.sub (ws' := [(h0, .inr (3, [.ref lg, .ref fs, .ref ps, .long fa, .long fb, .int 1, .int re])), (fs, .inr (1, [.ref vt])), (vt, .inr (2, [.ref vf, .ref vv])), (vf, .inl (cJ, 1024, .inr (.inl fm))), (vv, .inl (cI, 1024, .inl vl))]) [0, 1, 2, 3, 4] rfl
  have hDc : va_D A [(h0, .inr (3, [.ref lg, .ref fs, .ref ps, .long fa, .long fb, .int 1, .int re])), (fs, .inr (1, [.ref vt])), (vt, .inr (2, [.ref vf, .ref vv])), (vf, .inl (cJ, 1024, .inr (.inl fm))), (vv, .inl (cI, 1024, .inl vl))] := hD.sub (ws' := [(h0, .inr (3, [.ref lg, .ref fs, .ref ps, .long fa, .long fb, .int 1, .int re])), (fs, .inr (1, [.ref vt])), (vt, .inr (2, [.ref vf, .ref vv])), (vf, .inl (cJ, 1024, .inr (.inl fm))), (vv, .inl (cI, 1024, .inl vl))]) [0, 1, 2, 3, 4] (by decide) rfl
  have hFc := va_free (wc := [(h0, .inr (3, [.ref lg, .ref fs, .ref ps, .long fa, .long fb, .int 1, .int re])), (fs, .inr (1, [.ref vt])), (vt, .inr (2, [.ref vf, .ref vv])), (vf, .inl (cJ, 1024, .inr (.inl fm))), (vv, .inl (cI, 1024, .inl vl))]) hD hS hA [0, 1, 2, 3, 4] rfl
  refine vx_calli (vx_runV (As := []) (rest := [.int 0, .ref ob]) ⟨hx, hb, hml, hown, hts⟩ (c_X6_value_1 l hltr D cI cJ s.heap.size  h0 lg fs ps vt vf vv fa fb re fm vl hT hp hB) (cwV 0 hts gL_value_X6_value rfl rfl rfl (by decide +kernel) ⟨Nat.le_of_ble_eq_true rfl, Nat.le_of_ble_eq_true rfl⟩) ⟨(px_blindE (px_blindX pv_blind)), va_recv hK hPc (ci := 3) (q0 := 0) rfl rfl, fun U hU hW => ⟨rfl, hEN.warm hW, hEX.warm hW, by rw [hU]; exact hZ.to hS hW.alike hFc, by rw [hU], by rw [hU]; exact hPc, va_K.moved hW.alike hK, hDc.weaken (fun _ _ _ _ => trivial)⟩⟩ rfl rfl hl.1 rfl (lv_room (Nat.le_of_ble_eq_true rfl)) dL_value_3 ⟨(Nat.le_of_ble_eq_true rfl), (Nat.le_of_ble_eq_true rfl)⟩) hS (fun q _ h => hFc q h) hFc (fun q _ h => hFc q h) (fun E ce q9 u9 t9 H1 locs hth hvm hpx hB9 hz1 hk1 hS hce hcv hcl => ?_) (fun r3 u t9 H1 locs hth hvm hw3 hB9 hz1 hk1 hS => ?_)
  · obtain ⟨hb9, hP1, hK1, hD1⟩ := hB9
    rw [hth] at hP1
    obtain ⟨hP, hD⟩ := va_join (wr := [(ob, .inl (cJ, 1, .inr (.inl ov)))]) (w1 := [(h0, .inr (3, [.ref lg, .ref fs, .ref ps, .long fa, .long fb, .int 1, .int re])), (fs, .inr (1, [.ref vt])), (vt, .inr (2, [.ref vf, .ref vv])), (vf, .inl (cJ, 1024, .inr (.inl fm))), (vv, .inl (cI, 1024, .inl vl))]) hP hD [0, 1, 2, 3, 4] [5] rfl rfl (by decide) (by decide) hk1 hFc hP1 hD1
    have hP : va_P D vwCl [(h0, .inr (3, [.ref lg, .ref fs, .ref ps, .long fa, .long fb, .int 1, .int re])), (fs, .inr (1, [.ref vt])), (vt, .inr (2, [.ref vf, .ref vv])), (vf, .inl (cJ, 1024, .inr (.inl fm))), (vv, .inl (cI, 1024, .inl vl)), (ob, .inl (cJ, 1, .inr (.inl ov)))] H1 := hP.sub (ws' := [(h0, .inr (3, [.ref lg, .ref fs, .ref ps, .long fa, .long fb, .int 1, .int re])), (fs, .inr (1, [.ref vt])), (vt, .inr (2, [.ref vf, .ref vv])), (vf, .inl (cJ, 1024, .inr (.inl fm))), (vv, .inl (cI, 1024, .inl vl)), (ob, .inl (cJ, 1, .inr (.inl ov)))]) [1, 2, 3, 4, 5, 0] rfl
    have hD : va_D A [(h0, .inr (3, [.ref lg, .ref fs, .ref ps, .long fa, .long fb, .int 1, .int re])), (fs, .inr (1, [.ref vt])), (vt, .inr (2, [.ref vf, .ref vv])), (vf, .inl (cJ, 1024, .inr (.inl fm))), (vv, .inl (cI, 1024, .inl vl)), (ob, .inl (cJ, 1, .inr (.inl ov)))] := hD.sub (ws' := [(h0, .inr (3, [.ref lg, .ref fs, .ref ps, .long fa, .long fb, .int 1, .int re])), (fs, .inr (1, [.ref vt])), (vt, .inr (2, [.ref vf, .ref vv])), (vf, .inl (cJ, 1024, .inr (.inl fm))), (vv, .inl (cI, 1024, .inl vl)), (ob, .inl (cJ, 1, .inr (.inl ov)))]) [1, 2, 3, 4, 5, 0] (by decide) rfl
    exact (absurd hok hb9.2)
  · try dsimp only at hw3
    obtain ⟨fm3, vl3⟩ := u
    obtain ⟨hP1, hK1, hD1⟩ := hB9
    rw [hth] at hP1
    obtain ⟨hP, hD⟩ := va_join (wr := [(ob, .inl (cJ, 1, .inr (.inl ov)))]) (w1 := [(h0, .inr (3, [.ref lg, .ref fs, .ref ps, .long fa, .long fb, .int 1, .int re])), (fs, .inr (1, [.ref vt])), (vt, .inr (2, [.ref vf, .ref vv])), (vf, .inl (cJ, 1024, .inr (.inl fm3))), (vv, .inl (cI, 1024, .inl vl3))]) hP hD [0, 1, 2, 3, 4] [5] rfl rfl (by decide) (by decide) hk1 hFc hP1 hD1
    generalize H1 = H at hP hS ⊢
    have hP : va_P D vwCl [(h0, .inr (3, [.ref lg, .ref fs, .ref ps, .long fa, .long fb, .int 1, .int re])), (fs, .inr (1, [.ref vt])), (vt, .inr (2, [.ref vf, .ref vv])), (vf, .inl (cJ, 1024, .inr (.inl fm3))), (vv, .inl (cI, 1024, .inl vl3)), (ob, .inl (cJ, 1, .inr (.inl ov)))] H := hP.sub (ws' := [(h0, .inr (3, [.ref lg, .ref fs, .ref ps, .long fa, .long fb, .int 1, .int re])), (fs, .inr (1, [.ref vt])), (vt, .inr (2, [.ref vf, .ref vv])), (vf, .inl (cJ, 1024, .inr (.inl fm3))), (vv, .inl (cI, 1024, .inl vl3)), (ob, .inl (cJ, 1, .inr (.inl ov)))]) [1, 2, 3, 4, 5, 0] rfl
    have hD : va_D A [(h0, .inr (3, [.ref lg, .ref fs, .ref ps, .long fa, .long fb, .int 1, .int re])), (fs, .inr (1, [.ref vt])), (vt, .inr (2, [.ref vf, .ref vv])), (vf, .inl (cJ, 1024, .inr (.inl fm3))), (vv, .inl (cI, 1024, .inl vl3)), (ob, .inl (cJ, 1, .inr (.inl ov)))] := hD.sub (ws' := [(h0, .inr (3, [.ref lg, .ref fs, .ref ps, .long fa, .long fb, .int 1, .int re])), (fs, .inr (1, [.ref vt])), (vt, .inr (2, [.ref vf, .ref vv])), (vf, .inl (cJ, 1024, .inr (.inl fm3))), (vv, .inl (cI, 1024, .inl vl3)), (ob, .inl (cJ, 1, .inr (.inl ov)))]) [1, 2, 3, 4, 5, 0] (by decide) rfl
    refine lv_i2l (v := (r3 : Int32).toInt64) hx hb dL_value_6 rfl ?_
    refine lv_topl (fun x6 ex6 => ?_)
    refine va_last hx hb hK hP hD hS 5 1 rfl rfl (vp_in_nI (n := 0) (N := 1) (by omega) (by decide)) dL_value_7 (fun H locs hP hD hS => ?_)
    have hu7 : (0 : Int32).toNatClampNeg = 0 := pk_cl 0
    rw [hu7] at hP hD
    have hP : va_P D vwCl [(h0, .inr (3, [.ref lg, .ref fs, .ref ps, .long fa, .long fb, .int 1, .int re])), (fs, .inr (1, [.ref vt])), (vt, .inr (2, [.ref vf, .ref vv])), (vf, .inl (cJ, 1024, .inr (.inl fm3))), (vv, .inl (cI, 1024, .inl vl3)), (ob, .inl (cJ, 1, .inr (.inl (vp_updL ov 0 x6))))] H := hP
    have hD : va_D A [(h0, .inr (3, [.ref lg, .ref fs, .ref ps, .long fa, .long fb, .int 1, .int re])), (fs, .inr (1, [.ref vt])), (vt, .inr (2, [.ref vf, .ref vv])), (vf, .inl (cJ, 1024, .inr (.inl fm3))), (vv, .inl (cI, 1024, .inl vl3)), (ob, .inl (cJ, 1, .inr (.inl (vp_updL ov 0 x6))))] := hD
    refine lv_goto (tgt := 14) hx hb dL_value_8 (by decide) ?_
    refine lv_iconst (v := 0) hx hb dL_value_14 (by decide) ?_
    obtain rfl := ex6.symm
    refine W.widen (k := 1) (n := 6) (Nat.le_of_ble_eq_true rfl) (Nat.le_of_ble_eq_true rfl) ?_
    refine W.iret (v := 0) hx hb hr (fun tt ht hW => ⟨⟨0, (fm3, vl3, r3), rfl, ?_, by rw [ht]; exact hP, va_K.moved hW.alike hK, hD⟩, hS.F ht⟩) hS.2.2 dL_value_15
    exact ⟨rfl, hw3⟩

set_option maxHeartbeats 400000 in
set_option maxRecDepth 100000 in
theorem c_L_value_bad_1 (l : Launch) (hltr : l.stackTraces = false) (D : va_G) (cI cJ : ClassId) (sz : Nat) (h0 lg fs ps vt vf vv : Nat) (fa fb : Int64) (re : Int32) (fm : Nat → Int64) (vl : Nat → Int32) (hT : TI fm vl) (hp : 0 < pop (fa ||| fb)) (hB : re = 0 → BH (pop (cempty fa fb)) (cown fa fb 1) (coth fa fb 1))  (ob : Nat) (ov : Nat → Int64) (hbad : ¬ (re = 0 ∧ pop (cempty fa fb) ≤ 3)) : Met l yL_value wsL_value ({ frames := 18, cells := 1, slots := 6, locals := 510 } : Room) (va_Pc [.ref h0, .ref ob] (px_N (px_X (va_A [(h0, .inr (3, [.ref lg, .ref fs, .ref ps, .long fa, .long fb, .int 1, .int re])), (fs, .inr (1, [.ref vt])), (vt, .inr (2, [.ref vf, .ref vv])), (vf, .inl (cJ, 1024, .inr (.inl fm))), (vv, .inl (cI, 1024, .inl vl)), (ob, .inl (cJ, 1, .inr (.inl ov)))] sz) (pv_C D cI cJ [(h0, .inr (3, [.ref lg, .ref fs, .ref ps, .long fa, .long fb, .int 1, .int re])), (fs, .inr (1, [.ref vt])), (vt, .inr (2, [.ref vf, .ref vv])), (vf, .inl (cJ, 1024, .inr (.inl fm))), (vv, .inl (cI, 1024, .inl vl)), (ob, .inl (cJ, 1, .inr (.inl ov)))] sz)))) (va_Qi (fun (r : Int32) (u : Unit) => r = 1) (fun (u : Unit) => pv_B D cI cJ (va_A [(h0, .inr (3, [.ref lg, .ref fs, .ref ps, .long fa, .long fb, .int 1, .int re])), (fs, .inr (1, [.ref vt])), (vt, .inr (2, [.ref vf, .ref vv])), (vf, .inl (cJ, 1024, .inr (.inl fm))), (vv, .inl (cI, 1024, .inl vl)), (ob, .inl (cJ, 1, .inr (.inl ov)))] sz) [(h0, .inr (3, [.ref lg, .ref fs, .ref ps, .long fa, .long fb, .int 1, .int re])), (fs, .inr (1, [.ref vt])), (vt, .inr (2, [.ref vf, .ref vv])), (vf, .inl (cJ, 1024, .inr (.inl fm))), (vv, .inl (cI, 1024, .inl vl)), (ob, .inl (cJ, 1, .inr (.inl ov)))]) (va_A [(h0, .inr (3, [.ref lg, .ref fs, .ref ps, .long fa, .long fb, .int 1, .int re])), (fs, .inr (1, [.ref vt])), (vt, .inr (2, [.ref vf, .ref vv])), (vf, .inl (cJ, 1024, .inr (.inl fm))), (vv, .inl (cI, 1024, .inl vl)), (ob, .inl (cJ, 1, .inr (.inl ov)))] sz)) 1 6 (va_A [(h0, .inr (3, [.ref lg, .ref fs, .ref ps, .long fa, .long fb, .int 1, .int re])), (fs, .inr (1, [.ref vt])), (vt, .inr (2, [.ref vf, .ref vv])), (vf, .inl (cJ, 1024, .inr (.inl fm))), (vv, .inl (cI, 1024, .inl vl)), (ob, .inl (cJ, 1, .inr (.inl ov)))] sz) := by
  refine va_MetW (cc := cL_value) (maxL := 3) (ret := (some .int)) (hh := [(0, 8, 11, 15)]) (by decide) rfl ?_
  intro p e s m args below meth c s₁ B hml hv
  obtain ⟨rfl, hNC, hEN, hEX, hZ, rfl, hP, hK, hD0⟩ := hv
  have hx := B.exec
  have hb := B.bytes
  have hr := B.returns
  have hts := atoms_spec (ws := wsL_value) B.pre
  have hown : s.vm.findClass RL = some m.cls := findClass_of_methodNamed B.named
  have hlocks := B.notSynchronized
  have htb := vx_table (x := yL_value) B (hts _ (List.mem_of_getElem? (i := 0) rfl))
  have hD := hD0.self (sz := s.heap.size)
  generalize hAe : va_A [(h0, .inr (3, [.ref lg, .ref fs, .ref ps, .long fa, .long fb, .int 1, .int re])), (fs, .inr (1, [.ref vt])), (vt, .inr (2, [.ref vf, .ref vv])), (vf, .inl (cJ, 1024, .inr (.inl fm))), (vv, .inl (cI, 1024, .inl vl)), (ob, .inl (cJ, 1, .inr (.inl ov)))] s.heap.size = A at hD hZ ⊢
  have hA : ∀ q : Nat, s.heap.size ≤ q → A q := fun q h => by rw [← hAe]; exact Or.inr h
  have hS : va_S A s.heap s.heap [] := va_S.rf
  have hl := lv_entry ([.ref h0, .ref ob]) (n := 3) (Nat.le_of_ble_eq_true rfl)
  rw [lg_entry_eq]
  generalize (lg_sl ([.ref h0, .ref ob]) ++ List.replicate (3 - (lg_sl ([.ref h0, .ref ob])).length) Slot.unset).toArray = ls at hl ⊢
  have hl : lv_has ls 3 [(0, .ref h0), (1, .ref ob)] := hl
  refine lv_aload_n hx hb dL_value_0 rfl (lv_at hl 1 rfl) ?_
  refine lv_iconst (v := 0) hx hb dL_value_1 (by decide) ?_
  refine lv_aload_n hx hb dL_value_2 rfl (lv_at hl 0 rfl) ?_
  have hPc : va_P D vwCl [(h0, .inr (3, [.ref lg, .ref fs, .ref ps, .long fa, .long fb, .int 1, .int re])), (fs, .inr (1, [.ref vt])), (vt, .inr (2, [.ref vf, .ref vv])), (vf, .inl (cJ, 1024, .inr (.inl fm))), (vv, .inl (cI, 1024, .inl vl))] s.heap := hP.sub (ws' := [(h0, .inr (3, [.ref lg, .ref fs, .ref ps, .long fa, .long fb, .int 1, .int re])), (fs, .inr (1, [.ref vt])), (vt, .inr (2, [.ref vf, .ref vv])), (vf, .inl (cJ, 1024, .inr (.inl fm))), (vv, .inl (cI, 1024, .inl vl))]) [0, 1, 2, 3, 4] rfl
  have hDc : va_D A [(h0, .inr (3, [.ref lg, .ref fs, .ref ps, .long fa, .long fb, .int 1, .int re])), (fs, .inr (1, [.ref vt])), (vt, .inr (2, [.ref vf, .ref vv])), (vf, .inl (cJ, 1024, .inr (.inl fm))), (vv, .inl (cI, 1024, .inl vl))] := hD.sub (ws' := [(h0, .inr (3, [.ref lg, .ref fs, .ref ps, .long fa, .long fb, .int 1, .int re])), (fs, .inr (1, [.ref vt])), (vt, .inr (2, [.ref vf, .ref vv])), (vf, .inl (cJ, 1024, .inr (.inl fm))), (vv, .inl (cI, 1024, .inl vl))]) [0, 1, 2, 3, 4] (by decide) rfl
  have hFc := va_free (wc := [(h0, .inr (3, [.ref lg, .ref fs, .ref ps, .long fa, .long fb, .int 1, .int re])), (fs, .inr (1, [.ref vt])), (vt, .inr (2, [.ref vf, .ref vv])), (vf, .inl (cJ, 1024, .inr (.inl fm))), (vv, .inl (cI, 1024, .inl vl))]) hD hS hA [0, 1, 2, 3, 4] rfl
  refine vx_calli (vx_runV (As := []) (rest := [.int 0, .ref ob]) ⟨hx, hb, hml, hown, hts⟩ (c_X6_value_1 l hltr D cI cJ s.heap.size  h0 lg fs ps vt vf vv fa fb re fm vl hT hp hB) (cwV 0 hts gL_value_X6_value rfl rfl rfl (by decide +kernel) ⟨Nat.le_of_ble_eq_true rfl, Nat.le_of_ble_eq_true rfl⟩) ⟨(px_blindE (px_blindX pv_blind)), va_recv hK hPc (ci := 3) (q0 := 0) rfl rfl, fun U hU hW => ⟨rfl, hEN.warm hW, hEX.warm hW, by rw [hU]; exact hZ.to hS hW.alike hFc, by rw [hU], by rw [hU]; exact hPc, va_K.moved hW.alike hK, hDc.weaken (fun _ _ _ _ => trivial)⟩⟩ rfl rfl hl.1 rfl (lv_room (Nat.le_of_ble_eq_true rfl)) dL_value_3 ⟨(Nat.le_of_ble_eq_true rfl), (Nat.le_of_ble_eq_true rfl)⟩) hS (fun q _ h => hFc q h) hFc (fun q _ h => hFc q h) (fun E ce q9 u9 t9 H1 locs hth hvm hpx hB9 hz1 hk1 hS hce hcv hcl => ?_) (fun r3 u t9 H1 locs hth hvm hw3 hB9 hz1 hk1 hS => ?_)
  · obtain ⟨hb9, hP1, hK1, hD1⟩ := hB9
    rw [hth] at hP1
    obtain ⟨hP, hD⟩ := va_join (wr := [(ob, .inl (cJ, 1, .inr (.inl ov)))]) (w1 := [(h0, .inr (3, [.ref lg, .ref fs, .ref ps, .long fa, .long fb, .int 1, .int re])), (fs, .inr (1, [.ref vt])), (vt, .inr (2, [.ref vf, .ref vv])), (vf, .inl (cJ, 1024, .inr (.inl fm))), (vv, .inl (cI, 1024, .inl vl))]) hP hD [0, 1, 2, 3, 4] [5] rfl rfl (by decide) (by decide) hk1 hFc hP1 hD1
    have hP : va_P D vwCl [(h0, .inr (3, [.ref lg, .ref fs, .ref ps, .long fa, .long fb, .int 1, .int re])), (fs, .inr (1, [.ref vt])), (vt, .inr (2, [.ref vf, .ref vv])), (vf, .inl (cJ, 1024, .inr (.inl fm))), (vv, .inl (cI, 1024, .inl vl)), (ob, .inl (cJ, 1, .inr (.inl ov)))] H1 := hP.sub (ws' := [(h0, .inr (3, [.ref lg, .ref fs, .ref ps, .long fa, .long fb, .int 1, .int re])), (fs, .inr (1, [.ref vt])), (vt, .inr (2, [.ref vf, .ref vv])), (vf, .inl (cJ, 1024, .inr (.inl fm))), (vv, .inl (cI, 1024, .inl vl)), (ob, .inl (cJ, 1, .inr (.inl ov)))]) [1, 2, 3, 4, 5, 0] rfl
    have hD : va_D A [(h0, .inr (3, [.ref lg, .ref fs, .ref ps, .long fa, .long fb, .int 1, .int re])), (fs, .inr (1, [.ref vt])), (vt, .inr (2, [.ref vf, .ref vv])), (vf, .inl (cJ, 1024, .inr (.inl fm))), (vv, .inl (cI, 1024, .inl vl)), (ob, .inl (cJ, 1, .inr (.inl ov)))] := hD.sub (ws' := [(h0, .inr (3, [.ref lg, .ref fs, .ref ps, .long fa, .long fb, .int 1, .int re])), (fs, .inr (1, [.ref vt])), (vt, .inr (2, [.ref vf, .ref vv])), (vf, .inl (cJ, 1024, .inr (.inl fm))), (vv, .inl (cI, 1024, .inl vl)), (ob, .inl (cJ, 1, .inr (.inl ov)))]) [1, 2, 3, 4, 5, 0] (by decide) rfl
    obtain rfl : E = nISE := hb9.1
    refine vx_catch (own := RL) (name := nISE) hown [] ⟨0, 8, 11, 15⟩ [] (htb.trans rfl) (fun z hz => nomatch hz) (by decide) (by decide) (hts (.classLink RL 15 nISE) (by decide +kernel)) (va_Nw.use rfl hEX.2.2.1) hce hcv hcl ?_
    refine lv_astore_n (lv' := [(2, .ref q9), (0, .ref h0), (1, .ref ob)]) hx hb dL_value_11 rfl hl (by decide) rfl (fun ls hl => ?_)
    refine lv_iconst (v := 1) hx hb dL_value_12 (by decide) ?_
    refine W.widen (k := 1) (n := 6) (Nat.le_of_ble_eq_true rfl) (Nat.le_of_ble_eq_true rfl) ?_
    refine W.iret (v := 1) hx hb hr (fun tt ht hW => ⟨⟨1, (), rfl, ?_, by rw [ht]; exact hP, va_K.moved hW.alike hK, hD⟩, hS.F ht⟩) hS.2.2 dL_value_13
    exact rfl
  · try dsimp only at hw3
    exact absurd ⟨hw3.1, hw3.2.1⟩ hbad

