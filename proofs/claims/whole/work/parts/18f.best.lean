def cbest (n : Nat) (f g : Int64) (mt : Int32) : Int32 := if mt = 0 then nI (mlow (vput (n - 1)) (cown f g mt) (coth f g mt) 288).2 else nI (tlow (vput n) (cown f g mt) (coth f g mt) 8).2
theorem cbest_0 {n : Nat} {f g : Int64} : cbest (n + 1) f g 0 = nI (mlow (vput n) (cown f g 0) (coth f g 0) 288).2 := if_pos rfl
theorem cbest_1 {n : Nat} {f g : Int64} : cbest n f g 1 = nI (tlow (vput n) (cown f g 1) (coth f g 1) 8).2 := if_neg (by decide)

set_option maxHeartbeats 400000 in
set_option maxRecDepth 100000 in
theorem c_X6_bestMove_1_0 (l : Launch) (hltr : l.stackTraces = false) (D : va_G) (cI cJ : ClassId) (sz : Nat) (h0 lg fs ps vt vf vv : Nat) (fa fb : Int64) (re : Int32) (fm : Nat → Int64) (vl : Nat → Int32) (hT : TI fm vl)  (hn : pop (cempty fa fb) = 1) (hB : BV 1 (cown fa fb 0) (coth fa fb 0)) : vx_Met l yX6_bestMove wsX6_bestMove ({ frames := 16, cells := 1, slots := 6, locals := 465 } : Room) (va_Pc [.ref h0] (px_E (px_X (va_A [(h0, .inr (3, [.ref lg, .ref fs, .ref ps, .long fa, .long fb, .int 0, .int re])), (fs, .inr (1, [.ref vt])), (vt, .inr (2, [.ref vf, .ref vv])), (vf, .inl (cJ, 1024, .inr (.inl fm))), (vv, .inl (cI, 1024, .inl vl))] sz) (pv_C D cI cJ [(h0, .inr (3, [.ref lg, .ref fs, .ref ps, .long fa, .long fb, .int 0, .int re])), (fs, .inr (1, [.ref vt])), (vt, .inr (2, [.ref vf, .ref vv])), (vf, .inl (cJ, 1024, .inr (.inl fm))), (vv, .inl (cI, 1024, .inl vl))] sz)))) (va_Qi (fun (r : Int32) (u : (Nat → Int64) × (Nat → Int32)) => re = 0 ∧ pop (cempty fa fb) ≤ 3 ∧ r = cbest (pop (cempty fa fb)) fa fb 0 ∧ TI u.1 u.2) (fun (u : (Nat → Int64) × (Nat → Int32)) => pv_B D cI cJ (va_A [(h0, .inr (3, [.ref lg, .ref fs, .ref ps, .long fa, .long fb, .int 0, .int re])), (fs, .inr (1, [.ref vt])), (vt, .inr (2, [.ref vf, .ref vv])), (vf, .inl (cJ, 1024, .inr (.inl fm))), (vv, .inl (cI, 1024, .inl vl))] sz) [(h0, .inr (3, [.ref lg, .ref fs, .ref ps, .long fa, .long fb, .int 0, .int re])), (fs, .inr (1, [.ref vt])), (vt, .inr (2, [.ref vf, .ref vv])), (vf, .inl (cJ, 1024, .inr (.inl u.1))), (vv, .inl (cI, 1024, .inl u.2))]) (va_A [(h0, .inr (3, [.ref lg, .ref fs, .ref ps, .long fa, .long fb, .int 0, .int re])), (fs, .inr (1, [.ref vt])), (vt, .inr (2, [.ref vf, .ref vv])), (vf, .inl (cJ, 1024, .inr (.inl fm))), (vv, .inl (cI, 1024, .inl vl))] sz)) (vx_X (fun (_ : Unit) => True) (fun (E : String) (_ : Unit) (tt : State) => (E = nISE ∧ ¬ (re = 0 ∧ pop (cempty fa fb) ≤ 3)) ∧ pv_B D cI cJ (va_A [(h0, .inr (3, [.ref lg, .ref fs, .ref ps, .long fa, .long fb, .int 0, .int re])), (fs, .inr (1, [.ref vt])), (vt, .inr (2, [.ref vf, .ref vv])), (vf, .inl (cJ, 1024, .inr (.inl fm))), (vv, .inl (cI, 1024, .inl vl))] sz) [(h0, .inr (3, [.ref lg, .ref fs, .ref ps, .long fa, .long fb, .int 0, .int re])), (fs, .inr (1, [.ref vt])), (vt, .inr (2, [.ref vf, .ref vv])), (vf, .inl (cJ, 1024, .inr (.inl fm))), (vv, .inl (cI, 1024, .inl vl))] tt) (va_A [(h0, .inr (3, [.ref lg, .ref fs, .ref ps, .long fa, .long fb, .int 0, .int re])), (fs, .inr (1, [.ref vt])), (vt, .inr (2, [.ref vf, .ref vv])), (vf, .inl (cJ, 1024, .inr (.inl fm))), (vv, .inl (cI, 1024, .inl vl))] sz)) 1 6 (va_A [(h0, .inr (3, [.ref lg, .ref fs, .ref ps, .long fa, .long fb, .int 0, .int re])), (fs, .inr (1, [.ref vt])), (vt, .inr (2, [.ref vf, .ref vv])), (vf, .inl (cJ, 1024, .inr (.inl fm))), (vv, .inl (cI, 1024, .inl vl))] sz) := by
  refine vx_ofW (cc := cX6_bestMove) (maxL := 7) (ret := (some .int)) (by decide) rfl ?_
  intro p e s m args below meth c s₁ B hml htab hv
  obtain ⟨rfl, hEN, hEX, hZ, rfl, hP, hK, hD0⟩ := hv
  have hx := B.exec
  have hb := B.bytes
  have hr := B.returns
  have hts := atoms_spec (ws := wsX6_bestMove) B.pre
  have hown : s.vm.findClass RX6 = some m.cls := findClass_of_methodNamed B.named
  have hlocks := B.notSynchronized
  have hD := hD0.self (sz := s.heap.size)
  generalize hAe : va_A [(h0, .inr (3, [.ref lg, .ref fs, .ref ps, .long fa, .long fb, .int 0, .int re])), (fs, .inr (1, [.ref vt])), (vt, .inr (2, [.ref vf, .ref vv])), (vf, .inl (cJ, 1024, .inr (.inl fm))), (vv, .inl (cI, 1024, .inl vl))] s.heap.size = A at hD hZ ⊢
  have hA : ∀ q : Nat, s.heap.size ≤ q → A q := fun q h => by rw [← hAe]; exact Or.inr h
  have hS : va_S A s.heap s.heap [] := va_S.rf
  have hinX6 : ∀ w ∈ wsX60, w ∈ wsX6_bestMove := by decide +kernel
  have hfl72 : (Cond.fieldLink RX6 72 "Twistquad" "mustTurn" "Z").before ([.ref h0] : List Value).toArray s = true := hts _ (by decide +kernel)
  have hfl24 : (Cond.fieldLink RX6 24 "Twistquad" "formSolver" "LTwistquad$Solver;").before ([.ref h0] : List Value).toArray s = true := hts _ (by decide +kernel)
  have hl := lv_entry ([.ref h0]) (n := 7) (Nat.le_of_ble_eq_true rfl)
  rw [lg_entry_eq]
  generalize (lg_sl ([.ref h0]) ++ List.replicate (7 - (lg_sl ([.ref h0])).length) Slot.unset).toArray = ls at hl ⊢
  have hl : lv_has ls 7 [(0, .ref h0)] := hl
  refine lv_aload_n hx hb dX6_bestMove_0 rfl (lv_at hl 0 rfl) ?_
  have hPc : va_P D vwCl [(h0, .inr (3, [.ref lg, .ref fs, .ref ps, .long fa, .long fb, .int 0, .int re]))] s.heap := hP.sub (ws' := [(h0, .inr (3, [.ref lg, .ref fs, .ref ps, .long fa, .long fb, .int 0, .int re]))]) [0] rfl
  have hDc : va_D A [(h0, .inr (3, [.ref lg, .ref fs, .ref ps, .long fa, .long fb, .int 0, .int re]))] := hD.sub (ws' := [(h0, .inr (3, [.ref lg, .ref fs, .ref ps, .long fa, .long fb, .int 0, .int re]))]) [0] (by decide) rfl
  have hFc := va_free (wc := [(h0, .inr (3, [.ref lg, .ref fs, .ref ps, .long fa, .long fb, .int 0, .int re]))]) hD hS hA [0] rfl
  refine vx_callv (vx_runV (As := []) (rest := []) ⟨hx, hb, hml, hown, hts⟩ (c_X6_requireSolvable l hltr D cI cJ s.heap.size  h0 lg fs ps fa fb 0 re ) (cwV 0 hts gX6_bestMove_X6_requireSolvable rfl rfl rfl (by decide +kernel) ⟨Nat.le_of_ble_eq_true rfl, Nat.le_of_ble_eq_true rfl⟩) ⟨(px_blindX pv_blind), va_recv hK hPc (ci := 3) (q0 := 0) rfl rfl, fun U hU hW => ⟨rfl, hEX.warm hW, by rw [hU]; exact hZ.to hS hW.alike hFc, by rw [hU], by rw [hU]; exact hPc, va_K.moved hW.alike hK, hDc.weaken (fun _ _ _ _ => trivial)⟩⟩ rfl rfl hl.1 rfl (lv_room (Nat.le_of_ble_eq_true rfl)) dX6_bestMove_1 ⟨(Nat.le_of_ble_eq_true rfl), (Nat.le_of_ble_eq_true rfl)⟩) hS (fun q _ h => hFc q h) hFc (fun q _ h => hFc q h) (fun E ce q9 u9 t9 H1 locs hth hvm hpx hB9 hz1 hk1 hS hce hcv hcl => ?_) (fun u t9 H1 locs hth hvm hw1 hB9 hz1 hk1 hS => ?_)
  · obtain ⟨hb9, hP1, hK1, hD1⟩ := hB9
    rw [hth] at hP1
    obtain ⟨hP, hD⟩ := va_join (wr := [(fs, .inr (1, [.ref vt])), (vt, .inr (2, [.ref vf, .ref vv])), (vf, .inl (cJ, 1024, .inr (.inl fm))), (vv, .inl (cI, 1024, .inl vl))]) (w1 := [(h0, .inr (3, [.ref lg, .ref fs, .ref ps, .long fa, .long fb, .int 0, .int re]))]) hP hD [0] [1, 2, 3, 4] rfl rfl (by decide) (by decide) hk1 hFc hP1 hD1
    have hP : va_P D vwCl [(h0, .inr (3, [.ref lg, .ref fs, .ref ps, .long fa, .long fb, .int 0, .int re])), (fs, .inr (1, [.ref vt])), (vt, .inr (2, [.ref vf, .ref vv])), (vf, .inl (cJ, 1024, .inr (.inl fm))), (vv, .inl (cI, 1024, .inl vl))] H1 := hP.sub (ws' := [(h0, .inr (3, [.ref lg, .ref fs, .ref ps, .long fa, .long fb, .int 0, .int re])), (fs, .inr (1, [.ref vt])), (vt, .inr (2, [.ref vf, .ref vv])), (vf, .inl (cJ, 1024, .inr (.inl fm))), (vv, .inl (cI, 1024, .inl vl))]) [4, 0, 1, 2, 3] rfl
    have hD : va_D A [(h0, .inr (3, [.ref lg, .ref fs, .ref ps, .long fa, .long fb, .int 0, .int re])), (fs, .inr (1, [.ref vt])), (vt, .inr (2, [.ref vf, .ref vv])), (vf, .inl (cJ, 1024, .inr (.inl fm))), (vv, .inl (cI, 1024, .inl vl))] := hD.sub (ws' := [(h0, .inr (3, [.ref lg, .ref fs, .ref ps, .long fa, .long fb, .int 0, .int re])), (fs, .inr (1, [.ref vt])), (vt, .inr (2, [.ref vf, .ref vv])), (vf, .inl (cJ, 1024, .inr (.inl fm))), (vv, .inl (cI, 1024, .inl vl))]) [4, 0, 1, 2, 3] (by decide) rfl
    exact vx_out (fun x h => (htab x h).elim) hlocks hce hcv hcl (fun tt htt hvt => ⟨(), trivial, ⟨hb9, by rw [htt]; exact hP, va_K.moved hvt hK, hD⟩, hS.F htt⟩) hS.2.2 (Nat.le_of_ble_eq_true rfl) (Nat.le_of_ble_eq_true rfl)
  · try dsimp only at hw1
    obtain ⟨hP1, hK1, hD1⟩ := hB9
    rw [hth] at hP1
    obtain ⟨hP, hD⟩ := va_join (wr := [(fs, .inr (1, [.ref vt])), (vt, .inr (2, [.ref vf, .ref vv])), (vf, .inl (cJ, 1024, .inr (.inl fm))), (vv, .inl (cI, 1024, .inl vl))]) (w1 := [(h0, .inr (3, [.ref lg, .ref fs, .ref ps, .long fa, .long fb, .int 0, .int re]))]) hP hD [0] [1, 2, 3, 4] rfl rfl (by decide) (by decide) hk1 hFc hP1 hD1
    generalize H1 = H at hP hS ⊢
    have hP : va_P D vwCl [(h0, .inr (3, [.ref lg, .ref fs, .ref ps, .long fa, .long fb, .int 0, .int re])), (fs, .inr (1, [.ref vt])), (vt, .inr (2, [.ref vf, .ref vv])), (vf, .inl (cJ, 1024, .inr (.inl fm))), (vv, .inl (cI, 1024, .inl vl))] H := hP.sub (ws' := [(h0, .inr (3, [.ref lg, .ref fs, .ref ps, .long fa, .long fb, .int 0, .int re])), (fs, .inr (1, [.ref vt])), (vt, .inr (2, [.ref vf, .ref vv])), (vf, .inl (cJ, 1024, .inr (.inl fm))), (vv, .inl (cI, 1024, .inl vl))]) [4, 0, 1, 2, 3] rfl
    have hD : va_D A [(h0, .inr (3, [.ref lg, .ref fs, .ref ps, .long fa, .long fb, .int 0, .int re])), (fs, .inr (1, [.ref vt])), (vt, .inr (2, [.ref vf, .ref vv])), (vf, .inl (cJ, 1024, .inr (.inl fm))), (vv, .inl (cI, 1024, .inl vl))] := hD.sub (ws' := [(h0, .inr (3, [.ref lg, .ref fs, .ref ps, .long fa, .long fb, .int 0, .int re])), (fs, .inr (1, [.ref vt])), (vt, .inr (2, [.ref vf, .ref vv])), (vf, .inl (cJ, 1024, .inr (.inl fm))), (vv, .inl (cI, 1024, .inl vl))]) [4, 0, 1, 2, 3] (by decide) rfl
    refine lv_aload_n hx hb dX6_bestMove_4 rfl (lv_at hl 0 rfl) ?_
    refine vp_callSi (W.runV (As := []) (rest := []) ⟨hx, hb, hml, hown, hts⟩ (c_X6_sideToAct l D cI cJ h0 lg fs ps fa fb 0 re (Or.inl rfl)) (cwV 0 hts gX6_bestMove_X6_sideToAct rfl rfl rfl (by decide +kernel) ⟨Nat.le_of_ble_eq_true rfl, Nat.le_of_ble_eq_true rfl⟩) ⟨px_blindW, va_recv hK hP (ci := 3) (q0 := 0) rfl rfl, fun U hU hW => ⟨rfl, by rw [hU]; exact hP.sub (ws' := [(h0, .inr (3, [.ref lg, .ref fs, .ref ps, .long fa, .long fb, .int 0, .int re]))]) [0] rfl, va_K.moved hW.alike hK⟩⟩ rfl rfl hl.1 rfl (lv_room (Nat.le_of_ble_eq_true rfl)) dX6_bestMove_5 ⟨(Nat.le_of_ble_eq_true rfl), (Nat.le_of_ble_eq_true rfl)⟩) (fun r5 er5 => ?_)
    obtain rfl := er5.symm
    refine lv_istore_n (lv' := [(1, .int (cside (pop (fa ||| fb)) 0)), (0, .ref h0)]) hx hb dX6_bestMove_8 rfl hl (by decide) rfl (fun ls hl => ?_)
    refine lv_aload_n hx hb dX6_bestMove_9 rfl (lv_at hl 1 rfl) ?_
    refine lv_iload_n hx hb dX6_bestMove_10 rfl (lv_at hl 0 rfl) ?_
    refine vp_callSl (W.runV (As := [.int (cside (pop (fa ||| fb)) 0)]) (rest := []) ⟨hx, hb, hml, hown, hts⟩ (c_X6_marblesOf l D cI cJ h0 lg fs ps fa fb 0 re (cside (pop (fa ||| fb)) 0)) (cwV 1 hts gX6_bestMove_X6_marblesOf rfl rfl rfl (by decide +kernel) ⟨Nat.le_of_ble_eq_true rfl, Nat.le_of_ble_eq_true rfl⟩) ⟨px_blindW, va_recv hK hP (ci := 3) (q0 := 0) rfl rfl, fun U hU hW => ⟨rfl, by rw [hU]; exact hP.sub (ws' := [(h0, .inr (3, [.ref lg, .ref fs, .ref ps, .long fa, .long fb, .int 0, .int re]))]) [0] rfl, va_K.moved hW.alike hK⟩⟩ rfl rfl hl.1 rfl (lv_room (Nat.le_of_ble_eq_true rfl)) dX6_bestMove_11 ⟨(Nat.le_of_ble_eq_true rfl), (Nat.le_of_ble_eq_true rfl)⟩) (fun r11 er11 => ?_)
    obtain rfl := er11.symm
    refine pk_tl (y := (cown fa fb 0)) (rfl) ?_
    refine lv_lstore_n (lv' := [(2, .long (cown fa fb 0)), (1, .int (cside (pop (fa ||| fb)) 0)), (0, .ref h0)]) hx hb dX6_bestMove_14 rfl hl (by decide) rfl (fun ls hl => ?_)
    refine lv_aload_n hx hb dX6_bestMove_15 rfl (lv_at hl 2 rfl) ?_
    refine lv_iload_n hx hb dX6_bestMove_16 rfl (lv_at hl 1 rfl) ?_
    refine vp_callSi (W.runS (As := [.int (cside (pop (fa ||| fb)) 0)]) (rest := [.ref h0]) ⟨hx, hb, hml, hown, hts⟩ (c_X6_otherSide l (cside (pop (fa ||| fb)) 0)) (va_cwS 1 hts gX6_bestMove_X6_otherSide rfl rfl rfl (by decide +kernel) ⟨Nat.le_of_ble_eq_true rfl, Nat.le_of_ble_eq_true rfl⟩) ⟨px_blind0, fun U hU hW => ⟨rfl, trivial⟩⟩ rfl rfl hl.1 rfl (lv_room (Nat.le_of_ble_eq_true rfl)) dX6_bestMove_17 ⟨(Nat.le_of_ble_eq_true rfl), (Nat.le_of_ble_eq_true rfl)⟩) (fun r17 er17 => ?_)
    obtain rfl := er17.symm
    refine vp_callSl (W.runV (As := [.int (if (cside (pop (fa ||| fb)) 0) = 1 then 2 else 1)]) (rest := []) ⟨hx, hb, hml, hown, hts⟩ (c_X6_marblesOf l D cI cJ h0 lg fs ps fa fb 0 re (if (cside (pop (fa ||| fb)) 0) = 1 then 2 else 1)) (cwV 1 hts gX6_bestMove_X6_marblesOf rfl rfl rfl (by decide +kernel) ⟨Nat.le_of_ble_eq_true rfl, Nat.le_of_ble_eq_true rfl⟩) ⟨px_blindW, va_recv hK hP (ci := 3) (q0 := 0) rfl rfl, fun U hU hW => ⟨rfl, by rw [hU]; exact hP.sub (ws' := [(h0, .inr (3, [.ref lg, .ref fs, .ref ps, .long fa, .long fb, .int 0, .int re]))]) [0] rfl, va_K.moved hW.alike hK⟩⟩ rfl rfl hl.1 rfl (lv_room (Nat.le_of_ble_eq_true rfl)) dX6_bestMove_20 ⟨(Nat.le_of_ble_eq_true rfl), (Nat.le_of_ble_eq_true rfl)⟩) (fun r20 er20 => ?_)
    obtain rfl := er20.symm
    refine pk_tl (y := (coth fa fb 0)) (rfl) ?_
    refine lv_lstore (lv' := [(4, .long (coth fa fb 0)), (2, .long (cown fa fb 0)), (1, .int (cside (pop (fa ||| fb)) 0)), (0, .ref h0)]) hx hb dX6_bestMove_23 hl (by decide) rfl (fun ls hl => ?_)
    refine lv_aload_n hx hb dX6_bestMove_25 rfl (lv_at hl 3 rfl) ?_
    refine vp_callSl (W.runV (As := []) (rest := []) ⟨hx, hb, hml, hown, hts⟩ (c_X6_emptyCells l D cI cJ h0 lg fs ps fa fb 0 re ) (cwV 0 hts gX6_bestMove_X6_emptyCells rfl rfl rfl (by decide +kernel) ⟨Nat.le_of_ble_eq_true rfl, Nat.le_of_ble_eq_true rfl⟩) ⟨px_blindW, va_recv hK hP (ci := 3) (q0 := 0) rfl rfl, fun U hU hW => ⟨rfl, by rw [hU]; exact hP.sub (ws' := [(h0, .inr (3, [.ref lg, .ref fs, .ref ps, .long fa, .long fb, .int 0, .int re]))]) [0] rfl, va_K.moved hW.alike hK⟩⟩ rfl rfl hl.1 rfl (lv_room (Nat.le_of_ble_eq_true rfl)) dX6_bestMove_26 ⟨(Nat.le_of_ble_eq_true rfl), (Nat.le_of_ble_eq_true rfl)⟩) (fun r26 er26 => ?_)
    obtain rfl := er26.symm
    refine vp_callSi (W.runS (As := [.long (cempty fa fb)]) (rest := []) ⟨hx, hb, hml, hown, hts⟩ (c_J13_bitCount_95d88 l (cempty fa fb)) (va_cwS 1 hts gX6_bestMove_J13_bitCount_95d88 rfl rfl rfl (by decide +kernel) ⟨Nat.le_of_ble_eq_true rfl, Nat.le_of_ble_eq_true rfl⟩) ⟨px_blind0, fun U hU hW => ⟨rfl, trivial⟩⟩ rfl rfl hl.1 rfl (lv_room (Nat.le_of_ble_eq_true rfl)) dX6_bestMove_29 ⟨(Nat.le_of_ble_eq_true rfl), (Nat.le_of_ble_eq_true rfl)⟩) (fun r29 er29 => ?_)
    obtain rfl := er29.symm
    refine pk_ti (y := 1) (congrArg nI hn) ?_
    refine lv_istore (lv' := [(6, .int 1), (4, .long (coth fa fb 0)), (2, .long (cown fa fb 0)), (1, .int (cside (pop (fa ||| fb)) 0)), (0, .ref h0)]) hx hb dX6_bestMove_32 hl (by decide) rfl (fun ls hl => ?_)
    refine lv_aload_n hx hb dX6_bestMove_34 rfl (lv_at hl 4 rfl) ?_
    refine va_get (D := D) (ci := 3) (v := .int 0) (C := RX6) (T := TX6) (N := 7) hx hb hts hinX6 hown hK hP 0 rfl rfl 5 (by decide) hfl72 (fun _ h9 => h9) rfl dX6_bestMove_35 ?_
    refine lv_if_eq (tgt := 56) hx hb dX6_bestMove_38 (by decide) (fun c38 => ?_) (fun c38 => ?_)
    · refine lv_aload_n hx hb dX6_bestMove_56 rfl (lv_at hl 4 rfl) ?_
      refine va_get (D := D) (ci := 3) (v := .ref fs) (C := RX6) (T := TX6) (N := 7) hx hb hts hinX6 hown hK hP 0 rfl rfl 1 (by decide) hfl24 (fun _ h9 => h9) rfl dX6_bestMove_57 ?_
      refine lv_lload_n hx hb dX6_bestMove_60 rfl (lv_at hl 2 rfl) ?_
      refine lv_lload hx hb dX6_bestMove_61 (lv_at hl 1 rfl) ?_
      refine lv_iload hx hb dX6_bestMove_63 (lv_at hl 0 rfl) ?_
      have hPc := hP.sub (ws' := [(fs, .inr (1, [.ref vt])), (vt, .inr (2, [.ref vf, .ref vv])), (vf, .inl (cJ, 1024, .inr (.inl fm))), (vv, .inl (cI, 1024, .inl vl))]) [1, 2, 3, 4] rfl
      have hDc := hD.sub (ws' := [(fs, .inr (1, [.ref vt])), (vt, .inr (2, [.ref vf, .ref vv])), (vf, .inl (cJ, 1024, .inr (.inl fm))), (vv, .inl (cI, 1024, .inl vl))]) [1, 2, 3, 4] (by decide) rfl
      have hFc := va_free (wc := [(fs, .inr (1, [.ref vt])), (vt, .inr (2, [.ref vf, .ref vv])), (vf, .inl (cJ, 1024, .inr (.inl fm))), (vv, .inl (cI, 1024, .inl vl))]) hD hS hA [1, 2, 3, 4] rfl
      refine va_calli (va_runV (As := [.long (cown fa fb 0), .long (coth fa fb 0), .int 1]) (rest := []) ⟨hx, hb, hml, hown, hts⟩ (c_X3_lowestBestMove_f1 l D cI cJ H.size  fs vt vf vv fm vl hT (cown fa fb 0) (coth fa fb 0) hB) (cwV 3 hts gX6_bestMove_X3_lowestBestMove rfl rfl rfl (by decide +kernel) ⟨Nat.le_of_ble_eq_true rfl, Nat.le_of_ble_eq_true rfl⟩) ⟨(px_blindE pv_blind), va_recv hK hPc (ci := 1) (q0 := 0) rfl rfl, fun U hU hW => ⟨rfl, hEN.warm hW, by rw [hU], by rw [hU]; exact hPc, va_K.moved hW.alike hK, hDc.weaken (fun _ _ _ _ => trivial)⟩⟩ rfl rfl hl.1 rfl (lv_room (Nat.le_of_ble_eq_true rfl)) dX6_bestMove_65 ⟨(Nat.le_of_ble_eq_true rfl), (Nat.le_of_ble_eq_true rfl)⟩) hS (fun q _ h => hFc q h) hFc (fun r65 u t9 H1 locs hth hvm hw65 hB hz1 hk1 hS => ?_)
      obtain ⟨fm65, vl65⟩ := u
      try dsimp only at hw65
      obtain ⟨hP1, hK1, hD1⟩ := hB
      rw [hth] at hP1
      obtain ⟨hP, hD⟩ := va_join (wr := [(h0, .inr (3, [.ref lg, .ref fs, .ref ps, .long fa, .long fb, .int 0, .int re]))]) (w1 := [(fs, .inr (1, [.ref vt])), (vt, .inr (2, [.ref vf, .ref vv])), (vf, .inl (cJ, 1024, .inr (.inl fm65))), (vv, .inl (cI, 1024, .inl vl65))]) hP hD [1, 2, 3, 4] [0] rfl rfl (by decide) (by decide) hk1 hFc hP1 hD1
      generalize H1 = H at hP hS ⊢
      have hP : va_P D vwCl [(h0, .inr (3, [.ref lg, .ref fs, .ref ps, .long fa, .long fb, .int 0, .int re])), (fs, .inr (1, [.ref vt])), (vt, .inr (2, [.ref vf, .ref vv])), (vf, .inl (cJ, 1024, .inr (.inl fm65))), (vv, .inl (cI, 1024, .inl vl65))] H := hP.sub (ws' := [(h0, .inr (3, [.ref lg, .ref fs, .ref ps, .long fa, .long fb, .int 0, .int re])), (fs, .inr (1, [.ref vt])), (vt, .inr (2, [.ref vf, .ref vv])), (vf, .inl (cJ, 1024, .inr (.inl fm65))), (vv, .inl (cI, 1024, .inl vl65))]) [0, 1, 2, 3, 4] rfl
      have hD : va_D A [(h0, .inr (3, [.ref lg, .ref fs, .ref ps, .long fa, .long fb, .int 0, .int re])), (fs, .inr (1, [.ref vt])), (vt, .inr (2, [.ref vf, .ref vv])), (vf, .inl (cJ, 1024, .inr (.inl fm65))), (vv, .inl (cI, 1024, .inl vl65))] := hD.sub (ws' := [(h0, .inr (3, [.ref lg, .ref fs, .ref ps, .long fa, .long fb, .int 0, .int re])), (fs, .inr (1, [.ref vt])), (vt, .inr (2, [.ref vf, .ref vv])), (vf, .inl (cJ, 1024, .inr (.inl fm65))), (vv, .inl (cI, 1024, .inl vl65))]) [0, 1, 2, 3, 4] (by decide) rfl
      obtain ⟨hv9, hT65⟩ := hw65
      obtain rfl := hv9.symm
      refine vx_ret ?_
      refine W.widen (k := 1) (n := 6) (Nat.le_of_ble_eq_true rfl) (Nat.le_of_ble_eq_true rfl) ?_
      refine W.iret (v := (nI (mlow (vput 0) (cown fa fb 0) (coth fa fb 0) 288).2)) hx hb hr (fun tt ht hW => ⟨⟨(nI (mlow (vput 0) (cown fa fb 0) (coth fa fb 0) 288).2), (fm65, vl65), rfl, ?_, by rw [ht]; exact hP, va_K.moved hW.alike hK, hD⟩, hS.F ht⟩) hS.2.2 dX6_bestMove_68
      exact ⟨hw1.1, hw1.2, by { rw [hn]; exact cbest_0.symm }, hT65⟩
    · exact absurd c38 (by decide)

set_option maxHeartbeats 400000 in
set_option maxRecDepth 100000 in
theorem c_X6_bestMove_2_0 (l : Launch) (hltr : l.stackTraces = false) (D : va_G) (cI cJ : ClassId) (sz : Nat) (h0 lg fs ps vt vf vv : Nat) (fa fb : Int64) (re : Int32) (fm : Nat → Int64) (vl : Nat → Int32) (hT : TI fm vl)  (hn : pop (cempty fa fb) = 2) (hB : BV 2 (cown fa fb 0) (coth fa fb 0)) : vx_Met l yX6_bestMove wsX6_bestMove ({ frames := 16, cells := 1, slots := 6, locals := 465 } : Room) (va_Pc [.ref h0] (px_E (px_X (va_A [(h0, .inr (3, [.ref lg, .ref fs, .ref ps, .long fa, .long fb, .int 0, .int re])), (fs, .inr (1, [.ref vt])), (vt, .inr (2, [.ref vf, .ref vv])), (vf, .inl (cJ, 1024, .inr (.inl fm))), (vv, .inl (cI, 1024, .inl vl))] sz) (pv_C D cI cJ [(h0, .inr (3, [.ref lg, .ref fs, .ref ps, .long fa, .long fb, .int 0, .int re])), (fs, .inr (1, [.ref vt])), (vt, .inr (2, [.ref vf, .ref vv])), (vf, .inl (cJ, 1024, .inr (.inl fm))), (vv, .inl (cI, 1024, .inl vl))] sz)))) (va_Qi (fun (r : Int32) (u : (Nat → Int64) × (Nat → Int32)) => re = 0 ∧ pop (cempty fa fb) ≤ 3 ∧ r = cbest (pop (cempty fa fb)) fa fb 0 ∧ TI u.1 u.2) (fun (u : (Nat → Int64) × (Nat → Int32)) => pv_B D cI cJ (va_A [(h0, .inr (3, [.ref lg, .ref fs, .ref ps, .long fa, .long fb, .int 0, .int re])), (fs, .inr (1, [.ref vt])), (vt, .inr (2, [.ref vf, .ref vv])), (vf, .inl (cJ, 1024, .inr (.inl fm))), (vv, .inl (cI, 1024, .inl vl))] sz) [(h0, .inr (3, [.ref lg, .ref fs, .ref ps, .long fa, .long fb, .int 0, .int re])), (fs, .inr (1, [.ref vt])), (vt, .inr (2, [.ref vf, .ref vv])), (vf, .inl (cJ, 1024, .inr (.inl u.1))), (vv, .inl (cI, 1024, .inl u.2))]) (va_A [(h0, .inr (3, [.ref lg, .ref fs, .ref ps, .long fa, .long fb, .int 0, .int re])), (fs, .inr (1, [.ref vt])), (vt, .inr (2, [.ref vf, .ref vv])), (vf, .inl (cJ, 1024, .inr (.inl fm))), (vv, .inl (cI, 1024, .inl vl))] sz)) (vx_X (fun (_ : Unit) => True) (fun (E : String) (_ : Unit) (tt : State) => (E = nISE ∧ ¬ (re = 0 ∧ pop (cempty fa fb) ≤ 3)) ∧ pv_B D cI cJ (va_A [(h0, .inr (3, [.ref lg, .ref fs, .ref ps, .long fa, .long fb, .int 0, .int re])), (fs, .inr (1, [.ref vt])), (vt, .inr (2, [.ref vf, .ref vv])), (vf, .inl (cJ, 1024, .inr (.inl fm))), (vv, .inl (cI, 1024, .inl vl))] sz) [(h0, .inr (3, [.ref lg, .ref fs, .ref ps, .long fa, .long fb, .int 0, .int re])), (fs, .inr (1, [.ref vt])), (vt, .inr (2, [.ref vf, .ref vv])), (vf, .inl (cJ, 1024, .inr (.inl fm))), (vv, .inl (cI, 1024, .inl vl))] tt) (va_A [(h0, .inr (3, [.ref lg, .ref fs, .ref ps, .long fa, .long fb, .int 0, .int re])), (fs, .inr (1, [.ref vt])), (vt, .inr (2, [.ref vf, .ref vv])), (vf, .inl (cJ, 1024, .inr (.inl fm))), (vv, .inl (cI, 1024, .inl vl))] sz)) 1 6 (va_A [(h0, .inr (3, [.ref lg, .ref fs, .ref ps, .long fa, .long fb, .int 0, .int re])), (fs, .inr (1, [.ref vt])), (vt, .inr (2, [.ref vf, .ref vv])), (vf, .inl (cJ, 1024, .inr (.inl fm))), (vv, .inl (cI, 1024, .inl vl))] sz) := by
  refine vx_ofW (cc := cX6_bestMove) (maxL := 7) (ret := (some .int)) (by decide) rfl ?_
  intro p e s m args below meth c s₁ B hml htab hv
  obtain ⟨rfl, hEN, hEX, hZ, rfl, hP, hK, hD0⟩ := hv
  have hx := B.exec
  have hb := B.bytes
  have hr := B.returns
  have hts := atoms_spec (ws := wsX6_bestMove) B.pre
  have hown : s.vm.findClass RX6 = some m.cls := findClass_of_methodNamed B.named
  have hlocks := B.notSynchronized
  have hD := hD0.self (sz := s.heap.size)
  generalize hAe : va_A [(h0, .inr (3, [.ref lg, .ref fs, .ref ps, .long fa, .long fb, .int 0, .int re])), (fs, .inr (1, [.ref vt])), (vt, .inr (2, [.ref vf, .ref vv])), (vf, .inl (cJ, 1024, .inr (.inl fm))), (vv, .inl (cI, 1024, .inl vl))] s.heap.size = A at hD hZ ⊢
  have hA : ∀ q : Nat, s.heap.size ≤ q → A q := fun q h => by rw [← hAe]; exact Or.inr h
  have hS : va_S A s.heap s.heap [] := va_S.rf
  have hinX6 : ∀ w ∈ wsX60, w ∈ wsX6_bestMove := by decide +kernel
  have hfl72 : (Cond.fieldLink RX6 72 "Twistquad" "mustTurn" "Z").before ([.ref h0] : List Value).toArray s = true := hts _ (by decide +kernel)
  have hfl24 : (Cond.fieldLink RX6 24 "Twistquad" "formSolver" "LTwistquad$Solver;").before ([.ref h0] : List Value).toArray s = true := hts _ (by decide +kernel)
  have hl := lv_entry ([.ref h0]) (n := 7) (Nat.le_of_ble_eq_true rfl)
  rw [lg_entry_eq]
  generalize (lg_sl ([.ref h0]) ++ List.replicate (7 - (lg_sl ([.ref h0])).length) Slot.unset).toArray = ls at hl ⊢
  have hl : lv_has ls 7 [(0, .ref h0)] := hl
  refine lv_aload_n hx hb dX6_bestMove_0 rfl (lv_at hl 0 rfl) ?_
  have hPc : va_P D vwCl [(h0, .inr (3, [.ref lg, .ref fs, .ref ps, .long fa, .long fb, .int 0, .int re]))] s.heap := hP.sub (ws' := [(h0, .inr (3, [.ref lg, .ref fs, .ref ps, .long fa, .long fb, .int 0, .int re]))]) [0] rfl
  have hDc : va_D A [(h0, .inr (3, [.ref lg, .ref fs, .ref ps, .long fa, .long fb, .int 0, .int re]))] := hD.sub (ws' := [(h0, .inr (3, [.ref lg, .ref fs, .ref ps, .long fa, .long fb, .int 0, .int re]))]) [0] (by decide) rfl
  have hFc := va_free (wc := [(h0, .inr (3, [.ref lg, .ref fs, .ref ps, .long fa, .long fb, .int 0, .int re]))]) hD hS hA [0] rfl
  refine vx_callv (vx_runV (As := []) (rest := []) ⟨hx, hb, hml, hown, hts⟩ (c_X6_requireSolvable l hltr D cI cJ s.heap.size  h0 lg fs ps fa fb 0 re ) (cwV 0 hts gX6_bestMove_X6_requireSolvable rfl rfl rfl (by decide +kernel) ⟨Nat.le_of_ble_eq_true rfl, Nat.le_of_ble_eq_true rfl⟩) ⟨(px_blindX pv_blind), va_recv hK hPc (ci := 3) (q0 := 0) rfl rfl, fun U hU hW => ⟨rfl, hEX.warm hW, by rw [hU]; exact hZ.to hS hW.alike hFc, by rw [hU], by rw [hU]; exact hPc, va_K.moved hW.alike hK, hDc.weaken (fun _ _ _ _ => trivial)⟩⟩ rfl rfl hl.1 rfl (lv_room (Nat.le_of_ble_eq_true rfl)) dX6_bestMove_1 ⟨(Nat.le_of_ble_eq_true rfl), (Nat.le_of_ble_eq_true rfl)⟩) hS (fun q _ h => hFc q h) hFc (fun q _ h => hFc q h) (fun E ce q9 u9 t9 H1 locs hth hvm hpx hB9 hz1 hk1 hS hce hcv hcl => ?_) (fun u t9 H1 locs hth hvm hw1 hB9 hz1 hk1 hS => ?_)
  · obtain ⟨hb9, hP1, hK1, hD1⟩ := hB9
    rw [hth] at hP1
    obtain ⟨hP, hD⟩ := va_join (wr := [(fs, .inr (1, [.ref vt])), (vt, .inr (2, [.ref vf, .ref vv])), (vf, .inl (cJ, 1024, .inr (.inl fm))), (vv, .inl (cI, 1024, .inl vl))]) (w1 := [(h0, .inr (3, [.ref lg, .ref fs, .ref ps, .long fa, .long fb, .int 0, .int re]))]) hP hD [0] [1, 2, 3, 4] rfl rfl (by decide) (by decide) hk1 hFc hP1 hD1
    have hP : va_P D vwCl [(h0, .inr (3, [.ref lg, .ref fs, .ref ps, .long fa, .long fb, .int 0, .int re])), (fs, .inr (1, [.ref vt])), (vt, .inr (2, [.ref vf, .ref vv])), (vf, .inl (cJ, 1024, .inr (.inl fm))), (vv, .inl (cI, 1024, .inl vl))] H1 := hP.sub (ws' := [(h0, .inr (3, [.ref lg, .ref fs, .ref ps, .long fa, .long fb, .int 0, .int re])), (fs, .inr (1, [.ref vt])), (vt, .inr (2, [.ref vf, .ref vv])), (vf, .inl (cJ, 1024, .inr (.inl fm))), (vv, .inl (cI, 1024, .inl vl))]) [4, 0, 1, 2, 3] rfl
    have hD : va_D A [(h0, .inr (3, [.ref lg, .ref fs, .ref ps, .long fa, .long fb, .int 0, .int re])), (fs, .inr (1, [.ref vt])), (vt, .inr (2, [.ref vf, .ref vv])), (vf, .inl (cJ, 1024, .inr (.inl fm))), (vv, .inl (cI, 1024, .inl vl))] := hD.sub (ws' := [(h0, .inr (3, [.ref lg, .ref fs, .ref ps, .long fa, .long fb, .int 0, .int re])), (fs, .inr (1, [.ref vt])), (vt, .inr (2, [.ref vf, .ref vv])), (vf, .inl (cJ, 1024, .inr (.inl fm))), (vv, .inl (cI, 1024, .inl vl))]) [4, 0, 1, 2, 3] (by decide) rfl
    exact vx_out (fun x h => (htab x h).elim) hlocks hce hcv hcl (fun tt htt hvt => ⟨(), trivial, ⟨hb9, by rw [htt]; exact hP, va_K.moved hvt hK, hD⟩, hS.F htt⟩) hS.2.2 (Nat.le_of_ble_eq_true rfl) (Nat.le_of_ble_eq_true rfl)
  · try dsimp only at hw1
    obtain ⟨hP1, hK1, hD1⟩ := hB9
    rw [hth] at hP1
    obtain ⟨hP, hD⟩ := va_join (wr := [(fs, .inr (1, [.ref vt])), (vt, .inr (2, [.ref vf, .ref vv])), (vf, .inl (cJ, 1024, .inr (.inl fm))), (vv, .inl (cI, 1024, .inl vl))]) (w1 := [(h0, .inr (3, [.ref lg, .ref fs, .ref ps, .long fa, .long fb, .int 0, .int re]))]) hP hD [0] [1, 2, 3, 4] rfl rfl (by decide) (by decide) hk1 hFc hP1 hD1
    generalize H1 = H at hP hS ⊢
    have hP : va_P D vwCl [(h0, .inr (3, [.ref lg, .ref fs, .ref ps, .long fa, .long fb, .int 0, .int re])), (fs, .inr (1, [.ref vt])), (vt, .inr (2, [.ref vf, .ref vv])), (vf, .inl (cJ, 1024, .inr (.inl fm))), (vv, .inl (cI, 1024, .inl vl))] H := hP.sub (ws' := [(h0, .inr (3, [.ref lg, .ref fs, .ref ps, .long fa, .long fb, .int 0, .int re])), (fs, .inr (1, [.ref vt])), (vt, .inr (2, [.ref vf, .ref vv])), (vf, .inl (cJ, 1024, .inr (.inl fm))), (vv, .inl (cI, 1024, .inl vl))]) [4, 0, 1, 2, 3] rfl
    have hD : va_D A [(h0, .inr (3, [.ref lg, .ref fs, .ref ps, .long fa, .long fb, .int 0, .int re])), (fs, .inr (1, [.ref vt])), (vt, .inr (2, [.ref vf, .ref vv])), (vf, .inl (cJ, 1024, .inr (.inl fm))), (vv, .inl (cI, 1024, .inl vl))] := hD.sub (ws' := [(h0, .inr (3, [.ref lg, .ref fs, .ref ps, .long fa, .long fb, .int 0, .int re])), (fs, .inr (1, [.ref vt])), (vt, .inr (2, [.ref vf, .ref vv])), (vf, .inl (cJ, 1024, .inr (.inl fm))), (vv, .inl (cI, 1024, .inl vl))]) [4, 0, 1, 2, 3] (by decide) rfl
    refine lv_aload_n hx hb dX6_bestMove_4 rfl (lv_at hl 0 rfl) ?_
    refine vp_callSi (W.runV (As := []) (rest := []) ⟨hx, hb, hml, hown, hts⟩ (c_X6_sideToAct l D cI cJ h0 lg fs ps fa fb 0 re (Or.inl rfl)) (cwV 0 hts gX6_bestMove_X6_sideToAct rfl rfl rfl (by decide +kernel) ⟨Nat.le_of_ble_eq_true rfl, Nat.le_of_ble_eq_true rfl⟩) ⟨px_blindW, va_recv hK hP (ci := 3) (q0 := 0) rfl rfl, fun U hU hW => ⟨rfl, by rw [hU]; exact hP.sub (ws' := [(h0, .inr (3, [.ref lg, .ref fs, .ref ps, .long fa, .long fb, .int 0, .int re]))]) [0] rfl, va_K.moved hW.alike hK⟩⟩ rfl rfl hl.1 rfl (lv_room (Nat.le_of_ble_eq_true rfl)) dX6_bestMove_5 ⟨(Nat.le_of_ble_eq_true rfl), (Nat.le_of_ble_eq_true rfl)⟩) (fun r5 er5 => ?_)
    obtain rfl := er5.symm
    refine lv_istore_n (lv' := [(1, .int (cside (pop (fa ||| fb)) 0)), (0, .ref h0)]) hx hb dX6_bestMove_8 rfl hl (by decide) rfl (fun ls hl => ?_)
    refine lv_aload_n hx hb dX6_bestMove_9 rfl (lv_at hl 1 rfl) ?_
    refine lv_iload_n hx hb dX6_bestMove_10 rfl (lv_at hl 0 rfl) ?_
    refine vp_callSl (W.runV (As := [.int (cside (pop (fa ||| fb)) 0)]) (rest := []) ⟨hx, hb, hml, hown, hts⟩ (c_X6_marblesOf l D cI cJ h0 lg fs ps fa fb 0 re (cside (pop (fa ||| fb)) 0)) (cwV 1 hts gX6_bestMove_X6_marblesOf rfl rfl rfl (by decide +kernel) ⟨Nat.le_of_ble_eq_true rfl, Nat.le_of_ble_eq_true rfl⟩) ⟨px_blindW, va_recv hK hP (ci := 3) (q0 := 0) rfl rfl, fun U hU hW => ⟨rfl, by rw [hU]; exact hP.sub (ws' := [(h0, .inr (3, [.ref lg, .ref fs, .ref ps, .long fa, .long fb, .int 0, .int re]))]) [0] rfl, va_K.moved hW.alike hK⟩⟩ rfl rfl hl.1 rfl (lv_room (Nat.le_of_ble_eq_true rfl)) dX6_bestMove_11 ⟨(Nat.le_of_ble_eq_true rfl), (Nat.le_of_ble_eq_true rfl)⟩) (fun r11 er11 => ?_)
    obtain rfl := er11.symm
    refine pk_tl (y := (cown fa fb 0)) (rfl) ?_
    refine lv_lstore_n (lv' := [(2, .long (cown fa fb 0)), (1, .int (cside (pop (fa ||| fb)) 0)), (0, .ref h0)]) hx hb dX6_bestMove_14 rfl hl (by decide) rfl (fun ls hl => ?_)
    refine lv_aload_n hx hb dX6_bestMove_15 rfl (lv_at hl 2 rfl) ?_
    refine lv_iload_n hx hb dX6_bestMove_16 rfl (lv_at hl 1 rfl) ?_
    refine vp_callSi (W.runS (As := [.int (cside (pop (fa ||| fb)) 0)]) (rest := [.ref h0]) ⟨hx, hb, hml, hown, hts⟩ (c_X6_otherSide l (cside (pop (fa ||| fb)) 0)) (va_cwS 1 hts gX6_bestMove_X6_otherSide rfl rfl rfl (by decide +kernel) ⟨Nat.le_of_ble_eq_true rfl, Nat.le_of_ble_eq_true rfl⟩) ⟨px_blind0, fun U hU hW => ⟨rfl, trivial⟩⟩ rfl rfl hl.1 rfl (lv_room (Nat.le_of_ble_eq_true rfl)) dX6_bestMove_17 ⟨(Nat.le_of_ble_eq_true rfl), (Nat.le_of_ble_eq_true rfl)⟩) (fun r17 er17 => ?_)
    obtain rfl := er17.symm
    refine vp_callSl (W.runV (As := [.int (if (cside (pop (fa ||| fb)) 0) = 1 then 2 else 1)]) (rest := []) ⟨hx, hb, hml, hown, hts⟩ (c_X6_marblesOf l D cI cJ h0 lg fs ps fa fb 0 re (if (cside (pop (fa ||| fb)) 0) = 1 then 2 else 1)) (cwV 1 hts gX6_bestMove_X6_marblesOf rfl rfl rfl (by decide +kernel) ⟨Nat.le_of_ble_eq_true rfl, Nat.le_of_ble_eq_true rfl⟩) ⟨px_blindW, va_recv hK hP (ci := 3) (q0 := 0) rfl rfl, fun U hU hW => ⟨rfl, by rw [hU]; exact hP.sub (ws' := [(h0, .inr (3, [.ref lg, .ref fs, .ref ps, .long fa, .long fb, .int 0, .int re]))]) [0] rfl, va_K.moved hW.alike hK⟩⟩ rfl rfl hl.1 rfl (lv_room (Nat.le_of_ble_eq_true rfl)) dX6_bestMove_20 ⟨(Nat.le_of_ble_eq_true rfl), (Nat.le_of_ble_eq_true rfl)⟩) (fun r20 er20 => ?_)
    obtain rfl := er20.symm
    refine pk_tl (y := (coth fa fb 0)) (rfl) ?_
    refine lv_lstore (lv' := [(4, .long (coth fa fb 0)), (2, .long (cown fa fb 0)), (1, .int (cside (pop (fa ||| fb)) 0)), (0, .ref h0)]) hx hb dX6_bestMove_23 hl (by decide) rfl (fun ls hl => ?_)
    refine lv_aload_n hx hb dX6_bestMove_25 rfl (lv_at hl 3 rfl) ?_
    refine vp_callSl (W.runV (As := []) (rest := []) ⟨hx, hb, hml, hown, hts⟩ (c_X6_emptyCells l D cI cJ h0 lg fs ps fa fb 0 re ) (cwV 0 hts gX6_bestMove_X6_emptyCells rfl rfl rfl (by decide +kernel) ⟨Nat.le_of_ble_eq_true rfl, Nat.le_of_ble_eq_true rfl⟩) ⟨px_blindW, va_recv hK hP (ci := 3) (q0 := 0) rfl rfl, fun U hU hW => ⟨rfl, by rw [hU]; exact hP.sub (ws' := [(h0, .inr (3, [.ref lg, .ref fs, .ref ps, .long fa, .long fb, .int 0, .int re]))]) [0] rfl, va_K.moved hW.alike hK⟩⟩ rfl rfl hl.1 rfl (lv_room (Nat.le_of_ble_eq_true rfl)) dX6_bestMove_26 ⟨(Nat.le_of_ble_eq_true rfl), (Nat.le_of_ble_eq_true rfl)⟩) (fun r26 er26 => ?_)
    obtain rfl := er26.symm
    refine vp_callSi (W.runS (As := [.long (cempty fa fb)]) (rest := []) ⟨hx, hb, hml, hown, hts⟩ (c_J13_bitCount_95d88 l (cempty fa fb)) (va_cwS 1 hts gX6_bestMove_J13_bitCount_95d88 rfl rfl rfl (by decide +kernel) ⟨Nat.le_of_ble_eq_true rfl, Nat.le_of_ble_eq_true rfl⟩) ⟨px_blind0, fun U hU hW => ⟨rfl, trivial⟩⟩ rfl rfl hl.1 rfl (lv_room (Nat.le_of_ble_eq_true rfl)) dX6_bestMove_29 ⟨(Nat.le_of_ble_eq_true rfl), (Nat.le_of_ble_eq_true rfl)⟩) (fun r29 er29 => ?_)
    obtain rfl := er29.symm
    refine pk_ti (y := 2) (congrArg nI hn) ?_
    refine lv_istore (lv' := [(6, .int 2), (4, .long (coth fa fb 0)), (2, .long (cown fa fb 0)), (1, .int (cside (pop (fa ||| fb)) 0)), (0, .ref h0)]) hx hb dX6_bestMove_32 hl (by decide) rfl (fun ls hl => ?_)
    refine lv_aload_n hx hb dX6_bestMove_34 rfl (lv_at hl 4 rfl) ?_
    refine va_get (D := D) (ci := 3) (v := .int 0) (C := RX6) (T := TX6) (N := 7) hx hb hts hinX6 hown hK hP 0 rfl rfl 5 (by decide) hfl72 (fun _ h9 => h9) rfl dX6_bestMove_35 ?_
    refine lv_if_eq (tgt := 56) hx hb dX6_bestMove_38 (by decide) (fun c38 => ?_) (fun c38 => ?_)
    · refine lv_aload_n hx hb dX6_bestMove_56 rfl (lv_at hl 4 rfl) ?_
      refine va_get (D := D) (ci := 3) (v := .ref fs) (C := RX6) (T := TX6) (N := 7) hx hb hts hinX6 hown hK hP 0 rfl rfl 1 (by decide) hfl24 (fun _ h9 => h9) rfl dX6_bestMove_57 ?_
      refine lv_lload_n hx hb dX6_bestMove_60 rfl (lv_at hl 2 rfl) ?_
      refine lv_lload hx hb dX6_bestMove_61 (lv_at hl 1 rfl) ?_
      refine lv_iload hx hb dX6_bestMove_63 (lv_at hl 0 rfl) ?_
      have hPc := hP.sub (ws' := [(fs, .inr (1, [.ref vt])), (vt, .inr (2, [.ref vf, .ref vv])), (vf, .inl (cJ, 1024, .inr (.inl fm))), (vv, .inl (cI, 1024, .inl vl))]) [1, 2, 3, 4] rfl
      have hDc := hD.sub (ws' := [(fs, .inr (1, [.ref vt])), (vt, .inr (2, [.ref vf, .ref vv])), (vf, .inl (cJ, 1024, .inr (.inl fm))), (vv, .inl (cI, 1024, .inl vl))]) [1, 2, 3, 4] (by decide) rfl
      have hFc := va_free (wc := [(fs, .inr (1, [.ref vt])), (vt, .inr (2, [.ref vf, .ref vv])), (vf, .inl (cJ, 1024, .inr (.inl fm))), (vv, .inl (cI, 1024, .inl vl))]) hD hS hA [1, 2, 3, 4] rfl
      refine va_calli (va_runV (As := [.long (cown fa fb 0), .long (coth fa fb 0), .int 2]) (rest := []) ⟨hx, hb, hml, hown, hts⟩ (c_X3_lowestBestMove_f2 l D cI cJ H.size  fs vt vf vv fm vl hT (cown fa fb 0) (coth fa fb 0) hB) (cwV 3 hts gX6_bestMove_X3_lowestBestMove rfl rfl rfl (by decide +kernel) ⟨Nat.le_of_ble_eq_true rfl, Nat.le_of_ble_eq_true rfl⟩) ⟨(px_blindE pv_blind), va_recv hK hPc (ci := 1) (q0 := 0) rfl rfl, fun U hU hW => ⟨rfl, hEN.warm hW, by rw [hU], by rw [hU]; exact hPc, va_K.moved hW.alike hK, hDc.weaken (fun _ _ _ _ => trivial)⟩⟩ rfl rfl hl.1 rfl (lv_room (Nat.le_of_ble_eq_true rfl)) dX6_bestMove_65 ⟨(Nat.le_of_ble_eq_true rfl), (Nat.le_of_ble_eq_true rfl)⟩) hS (fun q _ h => hFc q h) hFc (fun r65 u t9 H1 locs hth hvm hw65 hB hz1 hk1 hS => ?_)
      obtain ⟨fm65, vl65⟩ := u
      try dsimp only at hw65
      obtain ⟨hP1, hK1, hD1⟩ := hB
      rw [hth] at hP1
      obtain ⟨hP, hD⟩ := va_join (wr := [(h0, .inr (3, [.ref lg, .ref fs, .ref ps, .long fa, .long fb, .int 0, .int re]))]) (w1 := [(fs, .inr (1, [.ref vt])), (vt, .inr (2, [.ref vf, .ref vv])), (vf, .inl (cJ, 1024, .inr (.inl fm65))), (vv, .inl (cI, 1024, .inl vl65))]) hP hD [1, 2, 3, 4] [0] rfl rfl (by decide) (by decide) hk1 hFc hP1 hD1
      generalize H1 = H at hP hS ⊢
      have hP : va_P D vwCl [(h0, .inr (3, [.ref lg, .ref fs, .ref ps, .long fa, .long fb, .int 0, .int re])), (fs, .inr (1, [.ref vt])), (vt, .inr (2, [.ref vf, .ref vv])), (vf, .inl (cJ, 1024, .inr (.inl fm65))), (vv, .inl (cI, 1024, .inl vl65))] H := hP.sub (ws' := [(h0, .inr (3, [.ref lg, .ref fs, .ref ps, .long fa, .long fb, .int 0, .int re])), (fs, .inr (1, [.ref vt])), (vt, .inr (2, [.ref vf, .ref vv])), (vf, .inl (cJ, 1024, .inr (.inl fm65))), (vv, .inl (cI, 1024, .inl vl65))]) [0, 1, 2, 3, 4] rfl
      have hD : va_D A [(h0, .inr (3, [.ref lg, .ref fs, .ref ps, .long fa, .long fb, .int 0, .int re])), (fs, .inr (1, [.ref vt])), (vt, .inr (2, [.ref vf, .ref vv])), (vf, .inl (cJ, 1024, .inr (.inl fm65))), (vv, .inl (cI, 1024, .inl vl65))] := hD.sub (ws' := [(h0, .inr (3, [.ref lg, .ref fs, .ref ps, .long fa, .long fb, .int 0, .int re])), (fs, .inr (1, [.ref vt])), (vt, .inr (2, [.ref vf, .ref vv])), (vf, .inl (cJ, 1024, .inr (.inl fm65))), (vv, .inl (cI, 1024, .inl vl65))]) [0, 1, 2, 3, 4] (by decide) rfl
      obtain ⟨hv9, hT65⟩ := hw65
      obtain rfl := hv9.symm
      refine vx_ret ?_
      refine W.widen (k := 1) (n := 6) (Nat.le_of_ble_eq_true rfl) (Nat.le_of_ble_eq_true rfl) ?_
      refine W.iret (v := (nI (mlow (vput 1) (cown fa fb 0) (coth fa fb 0) 288).2)) hx hb hr (fun tt ht hW => ⟨⟨(nI (mlow (vput 1) (cown fa fb 0) (coth fa fb 0) 288).2), (fm65, vl65), rfl, ?_, by rw [ht]; exact hP, va_K.moved hW.alike hK, hD⟩, hS.F ht⟩) hS.2.2 dX6_bestMove_68
      exact ⟨hw1.1, hw1.2, by { rw [hn]; exact cbest_0.symm }, hT65⟩
    · exact absurd c38 (by decide)

set_option maxHeartbeats 400000 in
set_option maxRecDepth 100000 in
theorem c_X6_bestMove_3_0 (l : Launch) (hltr : l.stackTraces = false) (D : va_G) (cI cJ : ClassId) (sz : Nat) (h0 lg fs ps vt vf vv : Nat) (fa fb : Int64) (re : Int32) (fm : Nat → Int64) (vl : Nat → Int32) (hT : TI fm vl)  (hn : pop (cempty fa fb) = 3) (hB : BV 3 (cown fa fb 0) (coth fa fb 0)) : vx_Met l yX6_bestMove wsX6_bestMove ({ frames := 16, cells := 1, slots := 6, locals := 465 } : Room) (va_Pc [.ref h0] (px_E (px_X (va_A [(h0, .inr (3, [.ref lg, .ref fs, .ref ps, .long fa, .long fb, .int 0, .int re])), (fs, .inr (1, [.ref vt])), (vt, .inr (2, [.ref vf, .ref vv])), (vf, .inl (cJ, 1024, .inr (.inl fm))), (vv, .inl (cI, 1024, .inl vl))] sz) (pv_C D cI cJ [(h0, .inr (3, [.ref lg, .ref fs, .ref ps, .long fa, .long fb, .int 0, .int re])), (fs, .inr (1, [.ref vt])), (vt, .inr (2, [.ref vf, .ref vv])), (vf, .inl (cJ, 1024, .inr (.inl fm))), (vv, .inl (cI, 1024, .inl vl))] sz)))) (va_Qi (fun (r : Int32) (u : (Nat → Int64) × (Nat → Int32)) => re = 0 ∧ pop (cempty fa fb) ≤ 3 ∧ r = cbest (pop (cempty fa fb)) fa fb 0 ∧ TI u.1 u.2) (fun (u : (Nat → Int64) × (Nat → Int32)) => pv_B D cI cJ (va_A [(h0, .inr (3, [.ref lg, .ref fs, .ref ps, .long fa, .long fb, .int 0, .int re])), (fs, .inr (1, [.ref vt])), (vt, .inr (2, [.ref vf, .ref vv])), (vf, .inl (cJ, 1024, .inr (.inl fm))), (vv, .inl (cI, 1024, .inl vl))] sz) [(h0, .inr (3, [.ref lg, .ref fs, .ref ps, .long fa, .long fb, .int 0, .int re])), (fs, .inr (1, [.ref vt])), (vt, .inr (2, [.ref vf, .ref vv])), (vf, .inl (cJ, 1024, .inr (.inl u.1))), (vv, .inl (cI, 1024, .inl u.2))]) (va_A [(h0, .inr (3, [.ref lg, .ref fs, .ref ps, .long fa, .long fb, .int 0, .int re])), (fs, .inr (1, [.ref vt])), (vt, .inr (2, [.ref vf, .ref vv])), (vf, .inl (cJ, 1024, .inr (.inl fm))), (vv, .inl (cI, 1024, .inl vl))] sz)) (vx_X (fun (_ : Unit) => True) (fun (E : String) (_ : Unit) (tt : State) => (E = nISE ∧ ¬ (re = 0 ∧ pop (cempty fa fb) ≤ 3)) ∧ pv_B D cI cJ (va_A [(h0, .inr (3, [.ref lg, .ref fs, .ref ps, .long fa, .long fb, .int 0, .int re])), (fs, .inr (1, [.ref vt])), (vt, .inr (2, [.ref vf, .ref vv])), (vf, .inl (cJ, 1024, .inr (.inl fm))), (vv, .inl (cI, 1024, .inl vl))] sz) [(h0, .inr (3, [.ref lg, .ref fs, .ref ps, .long fa, .long fb, .int 0, .int re])), (fs, .inr (1, [.ref vt])), (vt, .inr (2, [.ref vf, .ref vv])), (vf, .inl (cJ, 1024, .inr (.inl fm))), (vv, .inl (cI, 1024, .inl vl))] tt) (va_A [(h0, .inr (3, [.ref lg, .ref fs, .ref ps, .long fa, .long fb, .int 0, .int re])), (fs, .inr (1, [.ref vt])), (vt, .inr (2, [.ref vf, .ref vv])), (vf, .inl (cJ, 1024, .inr (.inl fm))), (vv, .inl (cI, 1024, .inl vl))] sz)) 1 6 (va_A [(h0, .inr (3, [.ref lg, .ref fs, .ref ps, .long fa, .long fb, .int 0, .int re])), (fs, .inr (1, [.ref vt])), (vt, .inr (2, [.ref vf, .ref vv])), (vf, .inl (cJ, 1024, .inr (.inl fm))), (vv, .inl (cI, 1024, .inl vl))] sz) := by
  refine vx_ofW (cc := cX6_bestMove) (maxL := 7) (ret := (some .int)) (by decide) rfl ?_
  intro p e s m args below meth c s₁ B hml htab hv
  obtain ⟨rfl, hEN, hEX, hZ, rfl, hP, hK, hD0⟩ := hv
  have hx := B.exec
  have hb := B.bytes
  have hr := B.returns
  have hts := atoms_spec (ws := wsX6_bestMove) B.pre
  have hown : s.vm.findClass RX6 = some m.cls := findClass_of_methodNamed B.named
  have hlocks := B.notSynchronized
  have hD := hD0.self (sz := s.heap.size)
  generalize hAe : va_A [(h0, .inr (3, [.ref lg, .ref fs, .ref ps, .long fa, .long fb, .int 0, .int re])), (fs, .inr (1, [.ref vt])), (vt, .inr (2, [.ref vf, .ref vv])), (vf, .inl (cJ, 1024, .inr (.inl fm))), (vv, .inl (cI, 1024, .inl vl))] s.heap.size = A at hD hZ ⊢
  have hA : ∀ q : Nat, s.heap.size ≤ q → A q := fun q h => by rw [← hAe]; exact Or.inr h
  have hS : va_S A s.heap s.heap [] := va_S.rf
  have hinX6 : ∀ w ∈ wsX60, w ∈ wsX6_bestMove := by decide +kernel
  have hfl72 : (Cond.fieldLink RX6 72 "Twistquad" "mustTurn" "Z").before ([.ref h0] : List Value).toArray s = true := hts _ (by decide +kernel)
  have hfl24 : (Cond.fieldLink RX6 24 "Twistquad" "formSolver" "LTwistquad$Solver;").before ([.ref h0] : List Value).toArray s = true := hts _ (by decide +kernel)
  have hl := lv_entry ([.ref h0]) (n := 7) (Nat.le_of_ble_eq_true rfl)
  rw [lg_entry_eq]
  generalize (lg_sl ([.ref h0]) ++ List.replicate (7 - (lg_sl ([.ref h0])).length) Slot.unset).toArray = ls at hl ⊢
  have hl : lv_has ls 7 [(0, .ref h0)] := hl
  refine lv_aload_n hx hb dX6_bestMove_0 rfl (lv_at hl 0 rfl) ?_
  have hPc : va_P D vwCl [(h0, .inr (3, [.ref lg, .ref fs, .ref ps, .long fa, .long fb, .int 0, .int re]))] s.heap := hP.sub (ws' := [(h0, .inr (3, [.ref lg, .ref fs, .ref ps, .long fa, .long fb, .int 0, .int re]))]) [0] rfl
  have hDc : va_D A [(h0, .inr (3, [.ref lg, .ref fs, .ref ps, .long fa, .long fb, .int 0, .int re]))] := hD.sub (ws' := [(h0, .inr (3, [.ref lg, .ref fs, .ref ps, .long fa, .long fb, .int 0, .int re]))]) [0] (by decide) rfl
  have hFc := va_free (wc := [(h0, .inr (3, [.ref lg, .ref fs, .ref ps, .long fa, .long fb, .int 0, .int re]))]) hD hS hA [0] rfl
  refine vx_callv (vx_runV (As := []) (rest := []) ⟨hx, hb, hml, hown, hts⟩ (c_X6_requireSolvable l hltr D cI cJ s.heap.size  h0 lg fs ps fa fb 0 re ) (cwV 0 hts gX6_bestMove_X6_requireSolvable rfl rfl rfl (by decide +kernel) ⟨Nat.le_of_ble_eq_true rfl, Nat.le_of_ble_eq_true rfl⟩) ⟨(px_blindX pv_blind), va_recv hK hPc (ci := 3) (q0 := 0) rfl rfl, fun U hU hW => ⟨rfl, hEX.warm hW, by rw [hU]; exact hZ.to hS hW.alike hFc, by rw [hU], by rw [hU]; exact hPc, va_K.moved hW.alike hK, hDc.weaken (fun _ _ _ _ => trivial)⟩⟩ rfl rfl hl.1 rfl (lv_room (Nat.le_of_ble_eq_true rfl)) dX6_bestMove_1 ⟨(Nat.le_of_ble_eq_true rfl), (Nat.le_of_ble_eq_true rfl)⟩) hS (fun q _ h => hFc q h) hFc (fun q _ h => hFc q h) (fun E ce q9 u9 t9 H1 locs hth hvm hpx hB9 hz1 hk1 hS hce hcv hcl => ?_) (fun u t9 H1 locs hth hvm hw1 hB9 hz1 hk1 hS => ?_)
  · obtain ⟨hb9, hP1, hK1, hD1⟩ := hB9
    rw [hth] at hP1
    obtain ⟨hP, hD⟩ := va_join (wr := [(fs, .inr (1, [.ref vt])), (vt, .inr (2, [.ref vf, .ref vv])), (vf, .inl (cJ, 1024, .inr (.inl fm))), (vv, .inl (cI, 1024, .inl vl))]) (w1 := [(h0, .inr (3, [.ref lg, .ref fs, .ref ps, .long fa, .long fb, .int 0, .int re]))]) hP hD [0] [1, 2, 3, 4] rfl rfl (by decide) (by decide) hk1 hFc hP1 hD1
    have hP : va_P D vwCl [(h0, .inr (3, [.ref lg, .ref fs, .ref ps, .long fa, .long fb, .int 0, .int re])), (fs, .inr (1, [.ref vt])), (vt, .inr (2, [.ref vf, .ref vv])), (vf, .inl (cJ, 1024, .inr (.inl fm))), (vv, .inl (cI, 1024, .inl vl))] H1 := hP.sub (ws' := [(h0, .inr (3, [.ref lg, .ref fs, .ref ps, .long fa, .long fb, .int 0, .int re])), (fs, .inr (1, [.ref vt])), (vt, .inr (2, [.ref vf, .ref vv])), (vf, .inl (cJ, 1024, .inr (.inl fm))), (vv, .inl (cI, 1024, .inl vl))]) [4, 0, 1, 2, 3] rfl
    have hD : va_D A [(h0, .inr (3, [.ref lg, .ref fs, .ref ps, .long fa, .long fb, .int 0, .int re])), (fs, .inr (1, [.ref vt])), (vt, .inr (2, [.ref vf, .ref vv])), (vf, .inl (cJ, 1024, .inr (.inl fm))), (vv, .inl (cI, 1024, .inl vl))] := hD.sub (ws' := [(h0, .inr (3, [.ref lg, .ref fs, .ref ps, .long fa, .long fb, .int 0, .int re])), (fs, .inr (1, [.ref vt])), (vt, .inr (2, [.ref vf, .ref vv])), (vf, .inl (cJ, 1024, .inr (.inl fm))), (vv, .inl (cI, 1024, .inl vl))]) [4, 0, 1, 2, 3] (by decide) rfl
    exact vx_out (fun x h => (htab x h).elim) hlocks hce hcv hcl (fun tt htt hvt => ⟨(), trivial, ⟨hb9, by rw [htt]; exact hP, va_K.moved hvt hK, hD⟩, hS.F htt⟩) hS.2.2 (Nat.le_of_ble_eq_true rfl) (Nat.le_of_ble_eq_true rfl)
  · try dsimp only at hw1
    obtain ⟨hP1, hK1, hD1⟩ := hB9
    rw [hth] at hP1
    obtain ⟨hP, hD⟩ := va_join (wr := [(fs, .inr (1, [.ref vt])), (vt, .inr (2, [.ref vf, .ref vv])), (vf, .inl (cJ, 1024, .inr (.inl fm))), (vv, .inl (cI, 1024, .inl vl))]) (w1 := [(h0, .inr (3, [.ref lg, .ref fs, .ref ps, .long fa, .long fb, .int 0, .int re]))]) hP hD [0] [1, 2, 3, 4] rfl rfl (by decide) (by decide) hk1 hFc hP1 hD1
    generalize H1 = H at hP hS ⊢
    have hP : va_P D vwCl [(h0, .inr (3, [.ref lg, .ref fs, .ref ps, .long fa, .long fb, .int 0, .int re])), (fs, .inr (1, [.ref vt])), (vt, .inr (2, [.ref vf, .ref vv])), (vf, .inl (cJ, 1024, .inr (.inl fm))), (vv, .inl (cI, 1024, .inl vl))] H := hP.sub (ws' := [(h0, .inr (3, [.ref lg, .ref fs, .ref ps, .long fa, .long fb, .int 0, .int re])), (fs, .inr (1, [.ref vt])), (vt, .inr (2, [.ref vf, .ref vv])), (vf, .inl (cJ, 1024, .inr (.inl fm))), (vv, .inl (cI, 1024, .inl vl))]) [4, 0, 1, 2, 3] rfl
    have hD : va_D A [(h0, .inr (3, [.ref lg, .ref fs, .ref ps, .long fa, .long fb, .int 0, .int re])), (fs, .inr (1, [.ref vt])), (vt, .inr (2, [.ref vf, .ref vv])), (vf, .inl (cJ, 1024, .inr (.inl fm))), (vv, .inl (cI, 1024, .inl vl))] := hD.sub (ws' := [(h0, .inr (3, [.ref lg, .ref fs, .ref ps, .long fa, .long fb, .int 0, .int re])), (fs, .inr (1, [.ref vt])), (vt, .inr (2, [.ref vf, .ref vv])), (vf, .inl (cJ, 1024, .inr (.inl fm))), (vv, .inl (cI, 1024, .inl vl))]) [4, 0, 1, 2, 3] (by decide) rfl
    refine lv_aload_n hx hb dX6_bestMove_4 rfl (lv_at hl 0 rfl) ?_
    refine vp_callSi (W.runV (As := []) (rest := []) ⟨hx, hb, hml, hown, hts⟩ (c_X6_sideToAct l D cI cJ h0 lg fs ps fa fb 0 re (Or.inl rfl)) (cwV 0 hts gX6_bestMove_X6_sideToAct rfl rfl rfl (by decide +kernel) ⟨Nat.le_of_ble_eq_true rfl, Nat.le_of_ble_eq_true rfl⟩) ⟨px_blindW, va_recv hK hP (ci := 3) (q0 := 0) rfl rfl, fun U hU hW => ⟨rfl, by rw [hU]; exact hP.sub (ws' := [(h0, .inr (3, [.ref lg, .ref fs, .ref ps, .long fa, .long fb, .int 0, .int re]))]) [0] rfl, va_K.moved hW.alike hK⟩⟩ rfl rfl hl.1 rfl (lv_room (Nat.le_of_ble_eq_true rfl)) dX6_bestMove_5 ⟨(Nat.le_of_ble_eq_true rfl), (Nat.le_of_ble_eq_true rfl)⟩) (fun r5 er5 => ?_)
    obtain rfl := er5.symm
    refine lv_istore_n (lv' := [(1, .int (cside (pop (fa ||| fb)) 0)), (0, .ref h0)]) hx hb dX6_bestMove_8 rfl hl (by decide) rfl (fun ls hl => ?_)
    refine lv_aload_n hx hb dX6_bestMove_9 rfl (lv_at hl 1 rfl) ?_
    refine lv_iload_n hx hb dX6_bestMove_10 rfl (lv_at hl 0 rfl) ?_
    refine vp_callSl (W.runV (As := [.int (cside (pop (fa ||| fb)) 0)]) (rest := []) ⟨hx, hb, hml, hown, hts⟩ (c_X6_marblesOf l D cI cJ h0 lg fs ps fa fb 0 re (cside (pop (fa ||| fb)) 0)) (cwV 1 hts gX6_bestMove_X6_marblesOf rfl rfl rfl (by decide +kernel) ⟨Nat.le_of_ble_eq_true rfl, Nat.le_of_ble_eq_true rfl⟩) ⟨px_blindW, va_recv hK hP (ci := 3) (q0 := 0) rfl rfl, fun U hU hW => ⟨rfl, by rw [hU]; exact hP.sub (ws' := [(h0, .inr (3, [.ref lg, .ref fs, .ref ps, .long fa, .long fb, .int 0, .int re]))]) [0] rfl, va_K.moved hW.alike hK⟩⟩ rfl rfl hl.1 rfl (lv_room (Nat.le_of_ble_eq_true rfl)) dX6_bestMove_11 ⟨(Nat.le_of_ble_eq_true rfl), (Nat.le_of_ble_eq_true rfl)⟩) (fun r11 er11 => ?_)
    obtain rfl := er11.symm
    refine pk_tl (y := (cown fa fb 0)) (rfl) ?_
    refine lv_lstore_n (lv' := [(2, .long (cown fa fb 0)), (1, .int (cside (pop (fa ||| fb)) 0)), (0, .ref h0)]) hx hb dX6_bestMove_14 rfl hl (by decide) rfl (fun ls hl => ?_)
    refine lv_aload_n hx hb dX6_bestMove_15 rfl (lv_at hl 2 rfl) ?_
    refine lv_iload_n hx hb dX6_bestMove_16 rfl (lv_at hl 1 rfl) ?_
    refine vp_callSi (W.runS (As := [.int (cside (pop (fa ||| fb)) 0)]) (rest := [.ref h0]) ⟨hx, hb, hml, hown, hts⟩ (c_X6_otherSide l (cside (pop (fa ||| fb)) 0)) (va_cwS 1 hts gX6_bestMove_X6_otherSide rfl rfl rfl (by decide +kernel) ⟨Nat.le_of_ble_eq_true rfl, Nat.le_of_ble_eq_true rfl⟩) ⟨px_blind0, fun U hU hW => ⟨rfl, trivial⟩⟩ rfl rfl hl.1 rfl (lv_room (Nat.le_of_ble_eq_true rfl)) dX6_bestMove_17 ⟨(Nat.le_of_ble_eq_true rfl), (Nat.le_of_ble_eq_true rfl)⟩) (fun r17 er17 => ?_)
    obtain rfl := er17.symm
    refine vp_callSl (W.runV (As := [.int (if (cside (pop (fa ||| fb)) 0) = 1 then 2 else 1)]) (rest := []) ⟨hx, hb, hml, hown, hts⟩ (c_X6_marblesOf l D cI cJ h0 lg fs ps fa fb 0 re (if (cside (pop (fa ||| fb)) 0) = 1 then 2 else 1)) (cwV 1 hts gX6_bestMove_X6_marblesOf rfl rfl rfl (by decide +kernel) ⟨Nat.le_of_ble_eq_true rfl, Nat.le_of_ble_eq_true rfl⟩) ⟨px_blindW, va_recv hK hP (ci := 3) (q0 := 0) rfl rfl, fun U hU hW => ⟨rfl, by rw [hU]; exact hP.sub (ws' := [(h0, .inr (3, [.ref lg, .ref fs, .ref ps, .long fa, .long fb, .int 0, .int re]))]) [0] rfl, va_K.moved hW.alike hK⟩⟩ rfl rfl hl.1 rfl (lv_room (Nat.le_of_ble_eq_true rfl)) dX6_bestMove_20 ⟨(Nat.le_of_ble_eq_true rfl), (Nat.le_of_ble_eq_true rfl)⟩) (fun r20 er20 => ?_)
    obtain rfl := er20.symm
    refine pk_tl (y := (coth fa fb 0)) (rfl) ?_
    refine lv_lstore (lv' := [(4, .long (coth fa fb 0)), (2, .long (cown fa fb 0)), (1, .int (cside (pop (fa ||| fb)) 0)), (0, .ref h0)]) hx hb dX6_bestMove_23 hl (by decide) rfl (fun ls hl => ?_)
    refine lv_aload_n hx hb dX6_bestMove_25 rfl (lv_at hl 3 rfl) ?_
    refine vp_callSl (W.runV (As := []) (rest := []) ⟨hx, hb, hml, hown, hts⟩ (c_X6_emptyCells l D cI cJ h0 lg fs ps fa fb 0 re ) (cwV 0 hts gX6_bestMove_X6_emptyCells rfl rfl rfl (by decide +kernel) ⟨Nat.le_of_ble_eq_true rfl, Nat.le_of_ble_eq_true rfl⟩) ⟨px_blindW, va_recv hK hP (ci := 3) (q0 := 0) rfl rfl, fun U hU hW => ⟨rfl, by rw [hU]; exact hP.sub (ws' := [(h0, .inr (3, [.ref lg, .ref fs, .ref ps, .long fa, .long fb, .int 0, .int re]))]) [0] rfl, va_K.moved hW.alike hK⟩⟩ rfl rfl hl.1 rfl (lv_room (Nat.le_of_ble_eq_true rfl)) dX6_bestMove_26 ⟨(Nat.le_of_ble_eq_true rfl), (Nat.le_of_ble_eq_true rfl)⟩) (fun r26 er26 => ?_)
    obtain rfl := er26.symm
    refine vp_callSi (W.runS (As := [.long (cempty fa fb)]) (rest := []) ⟨hx, hb, hml, hown, hts⟩ (c_J13_bitCount_95d88 l (cempty fa fb)) (va_cwS 1 hts gX6_bestMove_J13_bitCount_95d88 rfl rfl rfl (by decide +kernel) ⟨Nat.le_of_ble_eq_true rfl, Nat.le_of_ble_eq_true rfl⟩) ⟨px_blind0, fun U hU hW => ⟨rfl, trivial⟩⟩ rfl rfl hl.1 rfl (lv_room (Nat.le_of_ble_eq_true rfl)) dX6_bestMove_29 ⟨(Nat.le_of_ble_eq_true rfl), (Nat.le_of_ble_eq_true rfl)⟩) (fun r29 er29 => ?_)
    obtain rfl := er29.symm
    refine pk_ti (y := 3) (congrArg nI hn) ?_
    refine lv_istore (lv' := [(6, .int 3), (4, .long (coth fa fb 0)), (2, .long (cown fa fb 0)), (1, .int (cside (pop (fa ||| fb)) 0)), (0, .ref h0)]) hx hb dX6_bestMove_32 hl (by decide) rfl (fun ls hl => ?_)
    refine lv_aload_n hx hb dX6_bestMove_34 rfl (lv_at hl 4 rfl) ?_
    refine va_get (D := D) (ci := 3) (v := .int 0) (C := RX6) (T := TX6) (N := 7) hx hb hts hinX6 hown hK hP 0 rfl rfl 5 (by decide) hfl72 (fun _ h9 => h9) rfl dX6_bestMove_35 ?_
    refine lv_if_eq (tgt := 56) hx hb dX6_bestMove_38 (by decide) (fun c38 => ?_) (fun c38 => ?_)
    · refine lv_aload_n hx hb dX6_bestMove_56 rfl (lv_at hl 4 rfl) ?_
      refine va_get (D := D) (ci := 3) (v := .ref fs) (C := RX6) (T := TX6) (N := 7) hx hb hts hinX6 hown hK hP 0 rfl rfl 1 (by decide) hfl24 (fun _ h9 => h9) rfl dX6_bestMove_57 ?_
      refine lv_lload_n hx hb dX6_bestMove_60 rfl (lv_at hl 2 rfl) ?_
      refine lv_lload hx hb dX6_bestMove_61 (lv_at hl 1 rfl) ?_
      refine lv_iload hx hb dX6_bestMove_63 (lv_at hl 0 rfl) ?_
      have hPc := hP.sub (ws' := [(fs, .inr (1, [.ref vt])), (vt, .inr (2, [.ref vf, .ref vv])), (vf, .inl (cJ, 1024, .inr (.inl fm))), (vv, .inl (cI, 1024, .inl vl))]) [1, 2, 3, 4] rfl
      have hDc := hD.sub (ws' := [(fs, .inr (1, [.ref vt])), (vt, .inr (2, [.ref vf, .ref vv])), (vf, .inl (cJ, 1024, .inr (.inl fm))), (vv, .inl (cI, 1024, .inl vl))]) [1, 2, 3, 4] (by decide) rfl
      have hFc := va_free (wc := [(fs, .inr (1, [.ref vt])), (vt, .inr (2, [.ref vf, .ref vv])), (vf, .inl (cJ, 1024, .inr (.inl fm))), (vv, .inl (cI, 1024, .inl vl))]) hD hS hA [1, 2, 3, 4] rfl
      refine va_calli (va_runV (As := [.long (cown fa fb 0), .long (coth fa fb 0), .int 3]) (rest := []) ⟨hx, hb, hml, hown, hts⟩ (c_X3_lowestBestMove_f3 l D cI cJ H.size  fs vt vf vv fm vl hT (cown fa fb 0) (coth fa fb 0) hB) (cwV 3 hts gX6_bestMove_X3_lowestBestMove rfl rfl rfl (by decide +kernel) ⟨Nat.le_of_ble_eq_true rfl, Nat.le_of_ble_eq_true rfl⟩) ⟨(px_blindE pv_blind), va_recv hK hPc (ci := 1) (q0 := 0) rfl rfl, fun U hU hW => ⟨rfl, hEN.warm hW, by rw [hU], by rw [hU]; exact hPc, va_K.moved hW.alike hK, hDc.weaken (fun _ _ _ _ => trivial)⟩⟩ rfl rfl hl.1 rfl (lv_room (Nat.le_of_ble_eq_true rfl)) dX6_bestMove_65 ⟨(Nat.le_of_ble_eq_true rfl), (Nat.le_of_ble_eq_true rfl)⟩) hS (fun q _ h => hFc q h) hFc (fun r65 u t9 H1 locs hth hvm hw65 hB hz1 hk1 hS => ?_)
      obtain ⟨fm65, vl65⟩ := u
      try dsimp only at hw65
      obtain ⟨hP1, hK1, hD1⟩ := hB
      rw [hth] at hP1
      obtain ⟨hP, hD⟩ := va_join (wr := [(h0, .inr (3, [.ref lg, .ref fs, .ref ps, .long fa, .long fb, .int 0, .int re]))]) (w1 := [(fs, .inr (1, [.ref vt])), (vt, .inr (2, [.ref vf, .ref vv])), (vf, .inl (cJ, 1024, .inr (.inl fm65))), (vv, .inl (cI, 1024, .inl vl65))]) hP hD [1, 2, 3, 4] [0] rfl rfl (by decide) (by decide) hk1 hFc hP1 hD1
      generalize H1 = H at hP hS ⊢
      have hP : va_P D vwCl [(h0, .inr (3, [.ref lg, .ref fs, .ref ps, .long fa, .long fb, .int 0, .int re])), (fs, .inr (1, [.ref vt])), (vt, .inr (2, [.ref vf, .ref vv])), (vf, .inl (cJ, 1024, .inr (.inl fm65))), (vv, .inl (cI, 1024, .inl vl65))] H := hP.sub (ws' := [(h0, .inr (3, [.ref lg, .ref fs, .ref ps, .long fa, .long fb, .int 0, .int re])), (fs, .inr (1, [.ref vt])), (vt, .inr (2, [.ref vf, .ref vv])), (vf, .inl (cJ, 1024, .inr (.inl fm65))), (vv, .inl (cI, 1024, .inl vl65))]) [0, 1, 2, 3, 4] rfl
      have hD : va_D A [(h0, .inr (3, [.ref lg, .ref fs, .ref ps, .long fa, .long fb, .int 0, .int re])), (fs, .inr (1, [.ref vt])), (vt, .inr (2, [.ref vf, .ref vv])), (vf, .inl (cJ, 1024, .inr (.inl fm65))), (vv, .inl (cI, 1024, .inl vl65))] := hD.sub (ws' := [(h0, .inr (3, [.ref lg, .ref fs, .ref ps, .long fa, .long fb, .int 0, .int re])), (fs, .inr (1, [.ref vt])), (vt, .inr (2, [.ref vf, .ref vv])), (vf, .inl (cJ, 1024, .inr (.inl fm65))), (vv, .inl (cI, 1024, .inl vl65))]) [0, 1, 2, 3, 4] (by decide) rfl
      obtain ⟨hv9, hT65⟩ := hw65
      obtain rfl := hv9.symm
      refine vx_ret ?_
      refine W.widen (k := 1) (n := 6) (Nat.le_of_ble_eq_true rfl) (Nat.le_of_ble_eq_true rfl) ?_
      refine W.iret (v := (nI (mlow (vput 2) (cown fa fb 0) (coth fa fb 0) 288).2)) hx hb hr (fun tt ht hW => ⟨⟨(nI (mlow (vput 2) (cown fa fb 0) (coth fa fb 0) 288).2), (fm65, vl65), rfl, ?_, by rw [ht]; exact hP, va_K.moved hW.alike hK, hD⟩, hS.F ht⟩) hS.2.2 dX6_bestMove_68
      exact ⟨hw1.1, hw1.2, by { rw [hn]; exact cbest_0.symm }, hT65⟩
    · exact absurd c38 (by decide)

set_option maxHeartbeats 400000 in
set_option maxRecDepth 100000 in
theorem c_X6_bestMove_big_0 (l : Launch) (hltr : l.stackTraces = false) (D : va_G) (cI cJ : ClassId) (sz : Nat) (h0 lg fs ps vt vf vv : Nat) (fa fb : Int64) (re : Int32) (fm : Nat → Int64) (vl : Nat → Int32) (hT : TI fm vl)  (hn : 3 < pop (cempty fa fb) ∨ ¬ re = 0) : vx_Met l yX6_bestMove wsX6_bestMove ({ frames := 16, cells := 1, slots := 6, locals := 465 } : Room) (va_Pc [.ref h0] (px_E (px_X (va_A [(h0, .inr (3, [.ref lg, .ref fs, .ref ps, .long fa, .long fb, .int 0, .int re])), (fs, .inr (1, [.ref vt])), (vt, .inr (2, [.ref vf, .ref vv])), (vf, .inl (cJ, 1024, .inr (.inl fm))), (vv, .inl (cI, 1024, .inl vl))] sz) (pv_C D cI cJ [(h0, .inr (3, [.ref lg, .ref fs, .ref ps, .long fa, .long fb, .int 0, .int re])), (fs, .inr (1, [.ref vt])), (vt, .inr (2, [.ref vf, .ref vv])), (vf, .inl (cJ, 1024, .inr (.inl fm))), (vv, .inl (cI, 1024, .inl vl))] sz)))) (va_Qi (fun (r : Int32) (u : (Nat → Int64) × (Nat → Int32)) => re = 0 ∧ pop (cempty fa fb) ≤ 3 ∧ r = cbest (pop (cempty fa fb)) fa fb 0 ∧ TI u.1 u.2) (fun (u : (Nat → Int64) × (Nat → Int32)) => pv_B D cI cJ (va_A [(h0, .inr (3, [.ref lg, .ref fs, .ref ps, .long fa, .long fb, .int 0, .int re])), (fs, .inr (1, [.ref vt])), (vt, .inr (2, [.ref vf, .ref vv])), (vf, .inl (cJ, 1024, .inr (.inl fm))), (vv, .inl (cI, 1024, .inl vl))] sz) [(h0, .inr (3, [.ref lg, .ref fs, .ref ps, .long fa, .long fb, .int 0, .int re])), (fs, .inr (1, [.ref vt])), (vt, .inr (2, [.ref vf, .ref vv])), (vf, .inl (cJ, 1024, .inr (.inl u.1))), (vv, .inl (cI, 1024, .inl u.2))]) (va_A [(h0, .inr (3, [.ref lg, .ref fs, .ref ps, .long fa, .long fb, .int 0, .int re])), (fs, .inr (1, [.ref vt])), (vt, .inr (2, [.ref vf, .ref vv])), (vf, .inl (cJ, 1024, .inr (.inl fm))), (vv, .inl (cI, 1024, .inl vl))] sz)) (vx_X (fun (_ : Unit) => True) (fun (E : String) (_ : Unit) (tt : State) => (E = nISE ∧ ¬ (re = 0 ∧ pop (cempty fa fb) ≤ 3)) ∧ pv_B D cI cJ (va_A [(h0, .inr (3, [.ref lg, .ref fs, .ref ps, .long fa, .long fb, .int 0, .int re])), (fs, .inr (1, [.ref vt])), (vt, .inr (2, [.ref vf, .ref vv])), (vf, .inl (cJ, 1024, .inr (.inl fm))), (vv, .inl (cI, 1024, .inl vl))] sz) [(h0, .inr (3, [.ref lg, .ref fs, .ref ps, .long fa, .long fb, .int 0, .int re])), (fs, .inr (1, [.ref vt])), (vt, .inr (2, [.ref vf, .ref vv])), (vf, .inl (cJ, 1024, .inr (.inl fm))), (vv, .inl (cI, 1024, .inl vl))] tt) (va_A [(h0, .inr (3, [.ref lg, .ref fs, .ref ps, .long fa, .long fb, .int 0, .int re])), (fs, .inr (1, [.ref vt])), (vt, .inr (2, [.ref vf, .ref vv])), (vf, .inl (cJ, 1024, .inr (.inl fm))), (vv, .inl (cI, 1024, .inl vl))] sz)) 1 6 (va_A [(h0, .inr (3, [.ref lg, .ref fs, .ref ps, .long fa, .long fb, .int 0, .int re])), (fs, .inr (1, [.ref vt])), (vt, .inr (2, [.ref vf, .ref vv])), (vf, .inl (cJ, 1024, .inr (.inl fm))), (vv, .inl (cI, 1024, .inl vl))] sz) := by
  refine vx_ofW (cc := cX6_bestMove) (maxL := 7) (ret := (some .int)) (by decide) rfl ?_
  intro p e s m args below meth c s₁ B hml htab hv
  obtain ⟨rfl, hEN, hEX, hZ, rfl, hP, hK, hD0⟩ := hv
  have hx := B.exec
  have hb := B.bytes
  have hr := B.returns
  have hts := atoms_spec (ws := wsX6_bestMove) B.pre
  have hown : s.vm.findClass RX6 = some m.cls := findClass_of_methodNamed B.named
  have hlocks := B.notSynchronized
  have hD := hD0.self (sz := s.heap.size)
  generalize hAe : va_A [(h0, .inr (3, [.ref lg, .ref fs, .ref ps, .long fa, .long fb, .int 0, .int re])), (fs, .inr (1, [.ref vt])), (vt, .inr (2, [.ref vf, .ref vv])), (vf, .inl (cJ, 1024, .inr (.inl fm))), (vv, .inl (cI, 1024, .inl vl))] s.heap.size = A at hD hZ ⊢
  have hA : ∀ q : Nat, s.heap.size ≤ q → A q := fun q h => by rw [← hAe]; exact Or.inr h
  have hS : va_S A s.heap s.heap [] := va_S.rf
  have hl := lv_entry ([.ref h0]) (n := 7) (Nat.le_of_ble_eq_true rfl)
  rw [lg_entry_eq]
  generalize (lg_sl ([.ref h0]) ++ List.replicate (7 - (lg_sl ([.ref h0])).length) Slot.unset).toArray = ls at hl ⊢
  have hl : lv_has ls 7 [(0, .ref h0)] := hl
  refine lv_aload_n hx hb dX6_bestMove_0 rfl (lv_at hl 0 rfl) ?_
  have hPc : va_P D vwCl [(h0, .inr (3, [.ref lg, .ref fs, .ref ps, .long fa, .long fb, .int 0, .int re]))] s.heap := hP.sub (ws' := [(h0, .inr (3, [.ref lg, .ref fs, .ref ps, .long fa, .long fb, .int 0, .int re]))]) [0] rfl
  have hDc : va_D A [(h0, .inr (3, [.ref lg, .ref fs, .ref ps, .long fa, .long fb, .int 0, .int re]))] := hD.sub (ws' := [(h0, .inr (3, [.ref lg, .ref fs, .ref ps, .long fa, .long fb, .int 0, .int re]))]) [0] (by decide) rfl
  have hFc := va_free (wc := [(h0, .inr (3, [.ref lg, .ref fs, .ref ps, .long fa, .long fb, .int 0, .int re]))]) hD hS hA [0] rfl
  refine vx_callv (vx_runV (As := []) (rest := []) ⟨hx, hb, hml, hown, hts⟩ (c_X6_requireSolvable l hltr D cI cJ s.heap.size  h0 lg fs ps fa fb 0 re ) (cwV 0 hts gX6_bestMove_X6_requireSolvable rfl rfl rfl (by decide +kernel) ⟨Nat.le_of_ble_eq_true rfl, Nat.le_of_ble_eq_true rfl⟩) ⟨(px_blindX pv_blind), va_recv hK hPc (ci := 3) (q0 := 0) rfl rfl, fun U hU hW => ⟨rfl, hEX.warm hW, by rw [hU]; exact hZ.to hS hW.alike hFc, by rw [hU], by rw [hU]; exact hPc, va_K.moved hW.alike hK, hDc.weaken (fun _ _ _ _ => trivial)⟩⟩ rfl rfl hl.1 rfl (lv_room (Nat.le_of_ble_eq_true rfl)) dX6_bestMove_1 ⟨(Nat.le_of_ble_eq_true rfl), (Nat.le_of_ble_eq_true rfl)⟩) hS (fun q _ h => hFc q h) hFc (fun q _ h => hFc q h) (fun E ce q9 u9 t9 H1 locs hth hvm hpx hB9 hz1 hk1 hS hce hcv hcl => ?_) (fun u t9 H1 locs hth hvm hw1 hB9 hz1 hk1 hS => ?_)
  · obtain ⟨hb9, hP1, hK1, hD1⟩ := hB9
    rw [hth] at hP1
    obtain ⟨hP, hD⟩ := va_join (wr := [(fs, .inr (1, [.ref vt])), (vt, .inr (2, [.ref vf, .ref vv])), (vf, .inl (cJ, 1024, .inr (.inl fm))), (vv, .inl (cI, 1024, .inl vl))]) (w1 := [(h0, .inr (3, [.ref lg, .ref fs, .ref ps, .long fa, .long fb, .int 0, .int re]))]) hP hD [0] [1, 2, 3, 4] rfl rfl (by decide) (by decide) hk1 hFc hP1 hD1
    have hP : va_P D vwCl [(h0, .inr (3, [.ref lg, .ref fs, .ref ps, .long fa, .long fb, .int 0, .int re])), (fs, .inr (1, [.ref vt])), (vt, .inr (2, [.ref vf, .ref vv])), (vf, .inl (cJ, 1024, .inr (.inl fm))), (vv, .inl (cI, 1024, .inl vl))] H1 := hP.sub (ws' := [(h0, .inr (3, [.ref lg, .ref fs, .ref ps, .long fa, .long fb, .int 0, .int re])), (fs, .inr (1, [.ref vt])), (vt, .inr (2, [.ref vf, .ref vv])), (vf, .inl (cJ, 1024, .inr (.inl fm))), (vv, .inl (cI, 1024, .inl vl))]) [4, 0, 1, 2, 3] rfl
    have hD : va_D A [(h0, .inr (3, [.ref lg, .ref fs, .ref ps, .long fa, .long fb, .int 0, .int re])), (fs, .inr (1, [.ref vt])), (vt, .inr (2, [.ref vf, .ref vv])), (vf, .inl (cJ, 1024, .inr (.inl fm))), (vv, .inl (cI, 1024, .inl vl))] := hD.sub (ws' := [(h0, .inr (3, [.ref lg, .ref fs, .ref ps, .long fa, .long fb, .int 0, .int re])), (fs, .inr (1, [.ref vt])), (vt, .inr (2, [.ref vf, .ref vv])), (vf, .inl (cJ, 1024, .inr (.inl fm))), (vv, .inl (cI, 1024, .inl vl))]) [4, 0, 1, 2, 3] (by decide) rfl
    exact vx_out (fun x h => (htab x h).elim) hlocks hce hcv hcl (fun tt htt hvt => ⟨(), trivial, ⟨hb9, by rw [htt]; exact hP, va_K.moved hvt hK, hD⟩, hS.F htt⟩) hS.2.2 (Nat.le_of_ble_eq_true rfl) (Nat.le_of_ble_eq_true rfl)
  · try dsimp only at hw1
    exact absurd hw1 (fun h => hn.elim (fun h2 => absurd h.2 (by omega)) (fun h2 => h2 h.1))

set_option maxHeartbeats 400000 in
set_option maxRecDepth 100000 in
theorem c_X6_bestMove_0_1 (l : Launch) (hltr : l.stackTraces = false) (D : va_G) (cI cJ : ClassId) (sz : Nat) (h0 lg fs ps vt vf vv : Nat) (fa fb : Int64) (re : Int32) (fm : Nat → Int64) (vl : Nat → Int32) (hT : TI fm vl) (hp : 0 < pop (fa ||| fb)) (hn : pop (cempty fa fb) = 0) (hB : BH 0 (cown fa fb 1) (coth fa fb 1)) : vx_Met l yX6_bestMove wsX6_bestMove ({ frames := 16, cells := 1, slots := 6, locals := 465 } : Room) (va_Pc [.ref h0] (px_E (px_X (va_A [(h0, .inr (3, [.ref lg, .ref fs, .ref ps, .long fa, .long fb, .int 1, .int re])), (fs, .inr (1, [.ref vt])), (vt, .inr (2, [.ref vf, .ref vv])), (vf, .inl (cJ, 1024, .inr (.inl fm))), (vv, .inl (cI, 1024, .inl vl))] sz) (pv_C D cI cJ [(h0, .inr (3, [.ref lg, .ref fs, .ref ps, .long fa, .long fb, .int 1, .int re])), (fs, .inr (1, [.ref vt])), (vt, .inr (2, [.ref vf, .ref vv])), (vf, .inl (cJ, 1024, .inr (.inl fm))), (vv, .inl (cI, 1024, .inl vl))] sz)))) (va_Qi (fun (r : Int32) (u : (Nat → Int64) × (Nat → Int32)) => re = 0 ∧ pop (cempty fa fb) ≤ 3 ∧ r = cbest (pop (cempty fa fb)) fa fb 1 ∧ TI u.1 u.2) (fun (u : (Nat → Int64) × (Nat → Int32)) => pv_B D cI cJ (va_A [(h0, .inr (3, [.ref lg, .ref fs, .ref ps, .long fa, .long fb, .int 1, .int re])), (fs, .inr (1, [.ref vt])), (vt, .inr (2, [.ref vf, .ref vv])), (vf, .inl (cJ, 1024, .inr (.inl fm))), (vv, .inl (cI, 1024, .inl vl))] sz) [(h0, .inr (3, [.ref lg, .ref fs, .ref ps, .long fa, .long fb, .int 1, .int re])), (fs, .inr (1, [.ref vt])), (vt, .inr (2, [.ref vf, .ref vv])), (vf, .inl (cJ, 1024, .inr (.inl u.1))), (vv, .inl (cI, 1024, .inl u.2))]) (va_A [(h0, .inr (3, [.ref lg, .ref fs, .ref ps, .long fa, .long fb, .int 1, .int re])), (fs, .inr (1, [.ref vt])), (vt, .inr (2, [.ref vf, .ref vv])), (vf, .inl (cJ, 1024, .inr (.inl fm))), (vv, .inl (cI, 1024, .inl vl))] sz)) (vx_X (fun (_ : Unit) => True) (fun (E : String) (_ : Unit) (tt : State) => (E = nISE ∧ ¬ (re = 0 ∧ pop (cempty fa fb) ≤ 3)) ∧ pv_B D cI cJ (va_A [(h0, .inr (3, [.ref lg, .ref fs, .ref ps, .long fa, .long fb, .int 1, .int re])), (fs, .inr (1, [.ref vt])), (vt, .inr (2, [.ref vf, .ref vv])), (vf, .inl (cJ, 1024, .inr (.inl fm))), (vv, .inl (cI, 1024, .inl vl))] sz) [(h0, .inr (3, [.ref lg, .ref fs, .ref ps, .long fa, .long fb, .int 1, .int re])), (fs, .inr (1, [.ref vt])), (vt, .inr (2, [.ref vf, .ref vv])), (vf, .inl (cJ, 1024, .inr (.inl fm))), (vv, .inl (cI, 1024, .inl vl))] tt) (va_A [(h0, .inr (3, [.ref lg, .ref fs, .ref ps, .long fa, .long fb, .int 1, .int re])), (fs, .inr (1, [.ref vt])), (vt, .inr (2, [.ref vf, .ref vv])), (vf, .inl (cJ, 1024, .inr (.inl fm))), (vv, .inl (cI, 1024, .inl vl))] sz)) 1 6 (va_A [(h0, .inr (3, [.ref lg, .ref fs, .ref ps, .long fa, .long fb, .int 1, .int re])), (fs, .inr (1, [.ref vt])), (vt, .inr (2, [.ref vf, .ref vv])), (vf, .inl (cJ, 1024, .inr (.inl fm))), (vv, .inl (cI, 1024, .inl vl))] sz) := by
  refine vx_ofW (cc := cX6_bestMove) (maxL := 7) (ret := (some .int)) (by decide) rfl ?_
  intro p e s m args below meth c s₁ B hml htab hv
  obtain ⟨rfl, hEN, hEX, hZ, rfl, hP, hK, hD0⟩ := hv
  have hx := B.exec
  have hb := B.bytes
  have hr := B.returns
  have hts := atoms_spec (ws := wsX6_bestMove) B.pre
  have hown : s.vm.findClass RX6 = some m.cls := findClass_of_methodNamed B.named
  have hlocks := B.notSynchronized
  have hD := hD0.self (sz := s.heap.size)
  generalize hAe : va_A [(h0, .inr (3, [.ref lg, .ref fs, .ref ps, .long fa, .long fb, .int 1, .int re])), (fs, .inr (1, [.ref vt])), (vt, .inr (2, [.ref vf, .ref vv])), (vf, .inl (cJ, 1024, .inr (.inl fm))), (vv, .inl (cI, 1024, .inl vl))] s.heap.size = A at hD hZ ⊢
  have hA : ∀ q : Nat, s.heap.size ≤ q → A q := fun q h => by rw [← hAe]; exact Or.inr h
  have hS : va_S A s.heap s.heap [] := va_S.rf
  have hinX6 : ∀ w ∈ wsX60, w ∈ wsX6_bestMove := by decide +kernel
  have hfl72 : (Cond.fieldLink RX6 72 "Twistquad" "mustTurn" "Z").before ([.ref h0] : List Value).toArray s = true := hts _ (by decide +kernel)
  have hfl24 : (Cond.fieldLink RX6 24 "Twistquad" "formSolver" "LTwistquad$Solver;").before ([.ref h0] : List Value).toArray s = true := hts _ (by decide +kernel)
  have hl := lv_entry ([.ref h0]) (n := 7) (Nat.le_of_ble_eq_true rfl)
  rw [lg_entry_eq]
  generalize (lg_sl ([.ref h0]) ++ List.replicate (7 - (lg_sl ([.ref h0])).length) Slot.unset).toArray = ls at hl ⊢
  have hl : lv_has ls 7 [(0, .ref h0)] := hl
  refine lv_aload_n hx hb dX6_bestMove_0 rfl (lv_at hl 0 rfl) ?_
  have hPc : va_P D vwCl [(h0, .inr (3, [.ref lg, .ref fs, .ref ps, .long fa, .long fb, .int 1, .int re]))] s.heap := hP.sub (ws' := [(h0, .inr (3, [.ref lg, .ref fs, .ref ps, .long fa, .long fb, .int 1, .int re]))]) [0] rfl
  have hDc : va_D A [(h0, .inr (3, [.ref lg, .ref fs, .ref ps, .long fa, .long fb, .int 1, .int re]))] := hD.sub (ws' := [(h0, .inr (3, [.ref lg, .ref fs, .ref ps, .long fa, .long fb, .int 1, .int re]))]) [0] (by decide) rfl
  have hFc := va_free (wc := [(h0, .inr (3, [.ref lg, .ref fs, .ref ps, .long fa, .long fb, .int 1, .int re]))]) hD hS hA [0] rfl
  refine vx_callv (vx_runV (As := []) (rest := []) ⟨hx, hb, hml, hown, hts⟩ (c_X6_requireSolvable l hltr D cI cJ s.heap.size  h0 lg fs ps fa fb 1 re ) (cwV 0 hts gX6_bestMove_X6_requireSolvable rfl rfl rfl (by decide +kernel) ⟨Nat.le_of_ble_eq_true rfl, Nat.le_of_ble_eq_true rfl⟩) ⟨(px_blindX pv_blind), va_recv hK hPc (ci := 3) (q0 := 0) rfl rfl, fun U hU hW => ⟨rfl, hEX.warm hW, by rw [hU]; exact hZ.to hS hW.alike hFc, by rw [hU], by rw [hU]; exact hPc, va_K.moved hW.alike hK, hDc.weaken (fun _ _ _ _ => trivial)⟩⟩ rfl rfl hl.1 rfl (lv_room (Nat.le_of_ble_eq_true rfl)) dX6_bestMove_1 ⟨(Nat.le_of_ble_eq_true rfl), (Nat.le_of_ble_eq_true rfl)⟩) hS (fun q _ h => hFc q h) hFc (fun q _ h => hFc q h) (fun E ce q9 u9 t9 H1 locs hth hvm hpx hB9 hz1 hk1 hS hce hcv hcl => ?_) (fun u t9 H1 locs hth hvm hw1 hB9 hz1 hk1 hS => ?_)
  · obtain ⟨hb9, hP1, hK1, hD1⟩ := hB9
    rw [hth] at hP1
    obtain ⟨hP, hD⟩ := va_join (wr := [(fs, .inr (1, [.ref vt])), (vt, .inr (2, [.ref vf, .ref vv])), (vf, .inl (cJ, 1024, .inr (.inl fm))), (vv, .inl (cI, 1024, .inl vl))]) (w1 := [(h0, .inr (3, [.ref lg, .ref fs, .ref ps, .long fa, .long fb, .int 1, .int re]))]) hP hD [0] [1, 2, 3, 4] rfl rfl (by decide) (by decide) hk1 hFc hP1 hD1
    have hP : va_P D vwCl [(h0, .inr (3, [.ref lg, .ref fs, .ref ps, .long fa, .long fb, .int 1, .int re])), (fs, .inr (1, [.ref vt])), (vt, .inr (2, [.ref vf, .ref vv])), (vf, .inl (cJ, 1024, .inr (.inl fm))), (vv, .inl (cI, 1024, .inl vl))] H1 := hP.sub (ws' := [(h0, .inr (3, [.ref lg, .ref fs, .ref ps, .long fa, .long fb, .int 1, .int re])), (fs, .inr (1, [.ref vt])), (vt, .inr (2, [.ref vf, .ref vv])), (vf, .inl (cJ, 1024, .inr (.inl fm))), (vv, .inl (cI, 1024, .inl vl))]) [4, 0, 1, 2, 3] rfl
    have hD : va_D A [(h0, .inr (3, [.ref lg, .ref fs, .ref ps, .long fa, .long fb, .int 1, .int re])), (fs, .inr (1, [.ref vt])), (vt, .inr (2, [.ref vf, .ref vv])), (vf, .inl (cJ, 1024, .inr (.inl fm))), (vv, .inl (cI, 1024, .inl vl))] := hD.sub (ws' := [(h0, .inr (3, [.ref lg, .ref fs, .ref ps, .long fa, .long fb, .int 1, .int re])), (fs, .inr (1, [.ref vt])), (vt, .inr (2, [.ref vf, .ref vv])), (vf, .inl (cJ, 1024, .inr (.inl fm))), (vv, .inl (cI, 1024, .inl vl))]) [4, 0, 1, 2, 3] (by decide) rfl
    exact vx_out (fun x h => (htab x h).elim) hlocks hce hcv hcl (fun tt htt hvt => ⟨(), trivial, ⟨hb9, by rw [htt]; exact hP, va_K.moved hvt hK, hD⟩, hS.F htt⟩) hS.2.2 (Nat.le_of_ble_eq_true rfl) (Nat.le_of_ble_eq_true rfl)
  · try dsimp only at hw1
    obtain ⟨hP1, hK1, hD1⟩ := hB9
    rw [hth] at hP1
    obtain ⟨hP, hD⟩ := va_join (wr := [(fs, .inr (1, [.ref vt])), (vt, .inr (2, [.ref vf, .ref vv])), (vf, .inl (cJ, 1024, .inr (.inl fm))), (vv, .inl (cI, 1024, .inl vl))]) (w1 := [(h0, .inr (3, [.ref lg, .ref fs, .ref ps, .long fa, .long fb, .int 1, .int re]))]) hP hD [0] [1, 2, 3, 4] rfl rfl (by decide) (by decide) hk1 hFc hP1 hD1
    generalize H1 = H at hP hS ⊢
    have hP : va_P D vwCl [(h0, .inr (3, [.ref lg, .ref fs, .ref ps, .long fa, .long fb, .int 1, .int re])), (fs, .inr (1, [.ref vt])), (vt, .inr (2, [.ref vf, .ref vv])), (vf, .inl (cJ, 1024, .inr (.inl fm))), (vv, .inl (cI, 1024, .inl vl))] H := hP.sub (ws' := [(h0, .inr (3, [.ref lg, .ref fs, .ref ps, .long fa, .long fb, .int 1, .int re])), (fs, .inr (1, [.ref vt])), (vt, .inr (2, [.ref vf, .ref vv])), (vf, .inl (cJ, 1024, .inr (.inl fm))), (vv, .inl (cI, 1024, .inl vl))]) [4, 0, 1, 2, 3] rfl
    have hD : va_D A [(h0, .inr (3, [.ref lg, .ref fs, .ref ps, .long fa, .long fb, .int 1, .int re])), (fs, .inr (1, [.ref vt])), (vt, .inr (2, [.ref vf, .ref vv])), (vf, .inl (cJ, 1024, .inr (.inl fm))), (vv, .inl (cI, 1024, .inl vl))] := hD.sub (ws' := [(h0, .inr (3, [.ref lg, .ref fs, .ref ps, .long fa, .long fb, .int 1, .int re])), (fs, .inr (1, [.ref vt])), (vt, .inr (2, [.ref vf, .ref vv])), (vf, .inl (cJ, 1024, .inr (.inl fm))), (vv, .inl (cI, 1024, .inl vl))]) [4, 0, 1, 2, 3] (by decide) rfl
    refine lv_aload_n hx hb dX6_bestMove_4 rfl (lv_at hl 0 rfl) ?_
    refine vp_callSi (W.runV (As := []) (rest := []) ⟨hx, hb, hml, hown, hts⟩ (c_X6_sideToAct l D cI cJ h0 lg fs ps fa fb 1 re (Or.inr hp)) (cwV 0 hts gX6_bestMove_X6_sideToAct rfl rfl rfl (by decide +kernel) ⟨Nat.le_of_ble_eq_true rfl, Nat.le_of_ble_eq_true rfl⟩) ⟨px_blindW, va_recv hK hP (ci := 3) (q0 := 0) rfl rfl, fun U hU hW => ⟨rfl, by rw [hU]; exact hP.sub (ws' := [(h0, .inr (3, [.ref lg, .ref fs, .ref ps, .long fa, .long fb, .int 1, .int re]))]) [0] rfl, va_K.moved hW.alike hK⟩⟩ rfl rfl hl.1 rfl (lv_room (Nat.le_of_ble_eq_true rfl)) dX6_bestMove_5 ⟨(Nat.le_of_ble_eq_true rfl), (Nat.le_of_ble_eq_true rfl)⟩) (fun r5 er5 => ?_)
    obtain rfl := er5.symm
    refine lv_istore_n (lv' := [(1, .int (cside (pop (fa ||| fb)) 1)), (0, .ref h0)]) hx hb dX6_bestMove_8 rfl hl (by decide) rfl (fun ls hl => ?_)
    refine lv_aload_n hx hb dX6_bestMove_9 rfl (lv_at hl 1 rfl) ?_
    refine lv_iload_n hx hb dX6_bestMove_10 rfl (lv_at hl 0 rfl) ?_
    refine vp_callSl (W.runV (As := [.int (cside (pop (fa ||| fb)) 1)]) (rest := []) ⟨hx, hb, hml, hown, hts⟩ (c_X6_marblesOf l D cI cJ h0 lg fs ps fa fb 1 re (cside (pop (fa ||| fb)) 1)) (cwV 1 hts gX6_bestMove_X6_marblesOf rfl rfl rfl (by decide +kernel) ⟨Nat.le_of_ble_eq_true rfl, Nat.le_of_ble_eq_true rfl⟩) ⟨px_blindW, va_recv hK hP (ci := 3) (q0 := 0) rfl rfl, fun U hU hW => ⟨rfl, by rw [hU]; exact hP.sub (ws' := [(h0, .inr (3, [.ref lg, .ref fs, .ref ps, .long fa, .long fb, .int 1, .int re]))]) [0] rfl, va_K.moved hW.alike hK⟩⟩ rfl rfl hl.1 rfl (lv_room (Nat.le_of_ble_eq_true rfl)) dX6_bestMove_11 ⟨(Nat.le_of_ble_eq_true rfl), (Nat.le_of_ble_eq_true rfl)⟩) (fun r11 er11 => ?_)
    obtain rfl := er11.symm
    refine pk_tl (y := (cown fa fb 1)) (rfl) ?_
    refine lv_lstore_n (lv' := [(2, .long (cown fa fb 1)), (1, .int (cside (pop (fa ||| fb)) 1)), (0, .ref h0)]) hx hb dX6_bestMove_14 rfl hl (by decide) rfl (fun ls hl => ?_)
    refine lv_aload_n hx hb dX6_bestMove_15 rfl (lv_at hl 2 rfl) ?_
    refine lv_iload_n hx hb dX6_bestMove_16 rfl (lv_at hl 1 rfl) ?_
    refine vp_callSi (W.runS (As := [.int (cside (pop (fa ||| fb)) 1)]) (rest := [.ref h0]) ⟨hx, hb, hml, hown, hts⟩ (c_X6_otherSide l (cside (pop (fa ||| fb)) 1)) (va_cwS 1 hts gX6_bestMove_X6_otherSide rfl rfl rfl (by decide +kernel) ⟨Nat.le_of_ble_eq_true rfl, Nat.le_of_ble_eq_true rfl⟩) ⟨px_blind0, fun U hU hW => ⟨rfl, trivial⟩⟩ rfl rfl hl.1 rfl (lv_room (Nat.le_of_ble_eq_true rfl)) dX6_bestMove_17 ⟨(Nat.le_of_ble_eq_true rfl), (Nat.le_of_ble_eq_true rfl)⟩) (fun r17 er17 => ?_)
    obtain rfl := er17.symm
    refine vp_callSl (W.runV (As := [.int (if (cside (pop (fa ||| fb)) 1) = 1 then 2 else 1)]) (rest := []) ⟨hx, hb, hml, hown, hts⟩ (c_X6_marblesOf l D cI cJ h0 lg fs ps fa fb 1 re (if (cside (pop (fa ||| fb)) 1) = 1 then 2 else 1)) (cwV 1 hts gX6_bestMove_X6_marblesOf rfl rfl rfl (by decide +kernel) ⟨Nat.le_of_ble_eq_true rfl, Nat.le_of_ble_eq_true rfl⟩) ⟨px_blindW, va_recv hK hP (ci := 3) (q0 := 0) rfl rfl, fun U hU hW => ⟨rfl, by rw [hU]; exact hP.sub (ws' := [(h0, .inr (3, [.ref lg, .ref fs, .ref ps, .long fa, .long fb, .int 1, .int re]))]) [0] rfl, va_K.moved hW.alike hK⟩⟩ rfl rfl hl.1 rfl (lv_room (Nat.le_of_ble_eq_true rfl)) dX6_bestMove_20 ⟨(Nat.le_of_ble_eq_true rfl), (Nat.le_of_ble_eq_true rfl)⟩) (fun r20 er20 => ?_)
    obtain rfl := er20.symm
    refine pk_tl (y := (coth fa fb 1)) (rfl) ?_
    refine lv_lstore (lv' := [(4, .long (coth fa fb 1)), (2, .long (cown fa fb 1)), (1, .int (cside (pop (fa ||| fb)) 1)), (0, .ref h0)]) hx hb dX6_bestMove_23 hl (by decide) rfl (fun ls hl => ?_)
    refine lv_aload_n hx hb dX6_bestMove_25 rfl (lv_at hl 3 rfl) ?_
    refine vp_callSl (W.runV (As := []) (rest := []) ⟨hx, hb, hml, hown, hts⟩ (c_X6_emptyCells l D cI cJ h0 lg fs ps fa fb 1 re ) (cwV 0 hts gX6_bestMove_X6_emptyCells rfl rfl rfl (by decide +kernel) ⟨Nat.le_of_ble_eq_true rfl, Nat.le_of_ble_eq_true rfl⟩) ⟨px_blindW, va_recv hK hP (ci := 3) (q0 := 0) rfl rfl, fun U hU hW => ⟨rfl, by rw [hU]; exact hP.sub (ws' := [(h0, .inr (3, [.ref lg, .ref fs, .ref ps, .long fa, .long fb, .int 1, .int re]))]) [0] rfl, va_K.moved hW.alike hK⟩⟩ rfl rfl hl.1 rfl (lv_room (Nat.le_of_ble_eq_true rfl)) dX6_bestMove_26 ⟨(Nat.le_of_ble_eq_true rfl), (Nat.le_of_ble_eq_true rfl)⟩) (fun r26 er26 => ?_)
    obtain rfl := er26.symm
    refine vp_callSi (W.runS (As := [.long (cempty fa fb)]) (rest := []) ⟨hx, hb, hml, hown, hts⟩ (c_J13_bitCount_95d88 l (cempty fa fb)) (va_cwS 1 hts gX6_bestMove_J13_bitCount_95d88 rfl rfl rfl (by decide +kernel) ⟨Nat.le_of_ble_eq_true rfl, Nat.le_of_ble_eq_true rfl⟩) ⟨px_blind0, fun U hU hW => ⟨rfl, trivial⟩⟩ rfl rfl hl.1 rfl (lv_room (Nat.le_of_ble_eq_true rfl)) dX6_bestMove_29 ⟨(Nat.le_of_ble_eq_true rfl), (Nat.le_of_ble_eq_true rfl)⟩) (fun r29 er29 => ?_)
    obtain rfl := er29.symm
    refine pk_ti (y := 0) (congrArg nI hn) ?_
    refine lv_istore (lv' := [(6, .int 0), (4, .long (coth fa fb 1)), (2, .long (cown fa fb 1)), (1, .int (cside (pop (fa ||| fb)) 1)), (0, .ref h0)]) hx hb dX6_bestMove_32 hl (by decide) rfl (fun ls hl => ?_)
    refine lv_aload_n hx hb dX6_bestMove_34 rfl (lv_at hl 4 rfl) ?_
    refine va_get (D := D) (ci := 3) (v := .int 1) (C := RX6) (T := TX6) (N := 7) hx hb hts hinX6 hown hK hP 0 rfl rfl 5 (by decide) hfl72 (fun _ h9 => h9) rfl dX6_bestMove_35 ?_
    refine lv_if_eq (tgt := 56) hx hb dX6_bestMove_38 (by decide) (fun c38 => ?_) (fun c38 => ?_)
    · exact absurd c38 (by decide)
    · refine lv_aload_n hx hb dX6_bestMove_41 rfl (lv_at hl 4 rfl) ?_
      refine va_get (D := D) (ci := 3) (v := .ref fs) (C := RX6) (T := TX6) (N := 7) hx hb hts hinX6 hown hK hP 0 rfl rfl 1 (by decide) hfl24 (fun _ h9 => h9) rfl dX6_bestMove_42 ?_
      refine lv_lload_n hx hb dX6_bestMove_45 rfl (lv_at hl 2 rfl) ?_
      refine lv_lload hx hb dX6_bestMove_46 (lv_at hl 1 rfl) ?_
      refine lv_iload hx hb dX6_bestMove_48 (lv_at hl 0 rfl) ?_
      have hPc := hP.sub (ws' := [(fs, .inr (1, [.ref vt])), (vt, .inr (2, [.ref vf, .ref vv])), (vf, .inl (cJ, 1024, .inr (.inl fm))), (vv, .inl (cI, 1024, .inl vl))]) [1, 2, 3, 4] rfl
      have hDc := hD.sub (ws' := [(fs, .inr (1, [.ref vt])), (vt, .inr (2, [.ref vf, .ref vv])), (vf, .inl (cJ, 1024, .inr (.inl fm))), (vv, .inl (cI, 1024, .inl vl))]) [1, 2, 3, 4] (by decide) rfl
      have hFc := va_free (wc := [(fs, .inr (1, [.ref vt])), (vt, .inr (2, [.ref vf, .ref vv])), (vf, .inl (cJ, 1024, .inr (.inl fm))), (vv, .inl (cI, 1024, .inl vl))]) hD hS hA [1, 2, 3, 4] rfl
      refine va_calli (va_runV (As := [.long (cown fa fb 1), .long (coth fa fb 1), .int 0]) (rest := []) ⟨hx, hb, hml, hown, hts⟩ (c_X3_lowestBestTurn_f0 l D cI cJ H.size  fs vt vf vv fm vl hT (cown fa fb 1) (coth fa fb 1) hB) (cwV 3 hts gX6_bestMove_X3_lowestBestTurn rfl rfl rfl (by decide +kernel) ⟨Nat.le_of_ble_eq_true rfl, Nat.le_of_ble_eq_true rfl⟩) ⟨(px_blindE pv_blind), va_recv hK hPc (ci := 1) (q0 := 0) rfl rfl, fun U hU hW => ⟨rfl, hEN.warm hW, by rw [hU], by rw [hU]; exact hPc, va_K.moved hW.alike hK, hDc.weaken (fun _ _ _ _ => trivial)⟩⟩ rfl rfl hl.1 rfl (lv_room (Nat.le_of_ble_eq_true rfl)) dX6_bestMove_50 ⟨(Nat.le_of_ble_eq_true rfl), (Nat.le_of_ble_eq_true rfl)⟩) hS (fun q _ h => hFc q h) hFc (fun r50 u t9 H1 locs hth hvm hw50 hB hz1 hk1 hS => ?_)
      obtain ⟨fm50, vl50⟩ := u
      try dsimp only at hw50
      obtain ⟨hP1, hK1, hD1⟩ := hB
      rw [hth] at hP1
      obtain ⟨hP, hD⟩ := va_join (wr := [(h0, .inr (3, [.ref lg, .ref fs, .ref ps, .long fa, .long fb, .int 1, .int re]))]) (w1 := [(fs, .inr (1, [.ref vt])), (vt, .inr (2, [.ref vf, .ref vv])), (vf, .inl (cJ, 1024, .inr (.inl fm50))), (vv, .inl (cI, 1024, .inl vl50))]) hP hD [1, 2, 3, 4] [0] rfl rfl (by decide) (by decide) hk1 hFc hP1 hD1
      generalize H1 = H at hP hS ⊢
      have hP : va_P D vwCl [(h0, .inr (3, [.ref lg, .ref fs, .ref ps, .long fa, .long fb, .int 1, .int re])), (fs, .inr (1, [.ref vt])), (vt, .inr (2, [.ref vf, .ref vv])), (vf, .inl (cJ, 1024, .inr (.inl fm50))), (vv, .inl (cI, 1024, .inl vl50))] H := hP.sub (ws' := [(h0, .inr (3, [.ref lg, .ref fs, .ref ps, .long fa, .long fb, .int 1, .int re])), (fs, .inr (1, [.ref vt])), (vt, .inr (2, [.ref vf, .ref vv])), (vf, .inl (cJ, 1024, .inr (.inl fm50))), (vv, .inl (cI, 1024, .inl vl50))]) [0, 1, 2, 3, 4] rfl
      have hD : va_D A [(h0, .inr (3, [.ref lg, .ref fs, .ref ps, .long fa, .long fb, .int 1, .int re])), (fs, .inr (1, [.ref vt])), (vt, .inr (2, [.ref vf, .ref vv])), (vf, .inl (cJ, 1024, .inr (.inl fm50))), (vv, .inl (cI, 1024, .inl vl50))] := hD.sub (ws' := [(h0, .inr (3, [.ref lg, .ref fs, .ref ps, .long fa, .long fb, .int 1, .int re])), (fs, .inr (1, [.ref vt])), (vt, .inr (2, [.ref vf, .ref vv])), (vf, .inl (cJ, 1024, .inr (.inl fm50))), (vv, .inl (cI, 1024, .inl vl50))]) [0, 1, 2, 3, 4] (by decide) rfl
      obtain ⟨hv9, hT50⟩ := hw50
      obtain rfl := hv9.symm
      refine lv_goto (tgt := 68) hx hb dX6_bestMove_53 (by decide) ?_
      refine vx_ret ?_
      refine W.widen (k := 1) (n := 6) (Nat.le_of_ble_eq_true rfl) (Nat.le_of_ble_eq_true rfl) ?_
      refine W.iret (v := (nI (tlow (vput 0) (cown fa fb 1) (coth fa fb 1) 8).2)) hx hb hr (fun tt ht hW => ⟨⟨(nI (tlow (vput 0) (cown fa fb 1) (coth fa fb 1) 8).2), (fm50, vl50), rfl, ?_, by rw [ht]; exact hP, va_K.moved hW.alike hK, hD⟩, hS.F ht⟩) hS.2.2 dX6_bestMove_68
      exact ⟨hw1.1, hw1.2, by { rw [hn]; exact cbest_1.symm }, hT50⟩

set_option maxHeartbeats 400000 in
set_option maxRecDepth 100000 in
theorem c_X6_bestMove_1_1 (l : Launch) (hltr : l.stackTraces = false) (D : va_G) (cI cJ : ClassId) (sz : Nat) (h0 lg fs ps vt vf vv : Nat) (fa fb : Int64) (re : Int32) (fm : Nat → Int64) (vl : Nat → Int32) (hT : TI fm vl) (hp : 0 < pop (fa ||| fb)) (hn : pop (cempty fa fb) = 1) (hB : BH 1 (cown fa fb 1) (coth fa fb 1)) : vx_Met l yX6_bestMove wsX6_bestMove ({ frames := 16, cells := 1, slots := 6, locals := 465 } : Room) (va_Pc [.ref h0] (px_E (px_X (va_A [(h0, .inr (3, [.ref lg, .ref fs, .ref ps, .long fa, .long fb, .int 1, .int re])), (fs, .inr (1, [.ref vt])), (vt, .inr (2, [.ref vf, .ref vv])), (vf, .inl (cJ, 1024, .inr (.inl fm))), (vv, .inl (cI, 1024, .inl vl))] sz) (pv_C D cI cJ [(h0, .inr (3, [.ref lg, .ref fs, .ref ps, .long fa, .long fb, .int 1, .int re])), (fs, .inr (1, [.ref vt])), (vt, .inr (2, [.ref vf, .ref vv])), (vf, .inl (cJ, 1024, .inr (.inl fm))), (vv, .inl (cI, 1024, .inl vl))] sz)))) (va_Qi (fun (r : Int32) (u : (Nat → Int64) × (Nat → Int32)) => re = 0 ∧ pop (cempty fa fb) ≤ 3 ∧ r = cbest (pop (cempty fa fb)) fa fb 1 ∧ TI u.1 u.2) (fun (u : (Nat → Int64) × (Nat → Int32)) => pv_B D cI cJ (va_A [(h0, .inr (3, [.ref lg, .ref fs, .ref ps, .long fa, .long fb, .int 1, .int re])), (fs, .inr (1, [.ref vt])), (vt, .inr (2, [.ref vf, .ref vv])), (vf, .inl (cJ, 1024, .inr (.inl fm))), (vv, .inl (cI, 1024, .inl vl))] sz) [(h0, .inr (3, [.ref lg, .ref fs, .ref ps, .long fa, .long fb, .int 1, .int re])), (fs, .inr (1, [.ref vt])), (vt, .inr (2, [.ref vf, .ref vv])), (vf, .inl (cJ, 1024, .inr (.inl u.1))), (vv, .inl (cI, 1024, .inl u.2))]) (va_A [(h0, .inr (3, [.ref lg, .ref fs, .ref ps, .long fa, .long fb, .int 1, .int re])), (fs, .inr (1, [.ref vt])), (vt, .inr (2, [.ref vf, .ref vv])), (vf, .inl (cJ, 1024, .inr (.inl fm))), (vv, .inl (cI, 1024, .inl vl))] sz)) (vx_X (fun (_ : Unit) => True) (fun (E : String) (_ : Unit) (tt : State) => (E = nISE ∧ ¬ (re = 0 ∧ pop (cempty fa fb) ≤ 3)) ∧ pv_B D cI cJ (va_A [(h0, .inr (3, [.ref lg, .ref fs, .ref ps, .long fa, .long fb, .int 1, .int re])), (fs, .inr (1, [.ref vt])), (vt, .inr (2, [.ref vf, .ref vv])), (vf, .inl (cJ, 1024, .inr (.inl fm))), (vv, .inl (cI, 1024, .inl vl))] sz) [(h0, .inr (3, [.ref lg, .ref fs, .ref ps, .long fa, .long fb, .int 1, .int re])), (fs, .inr (1, [.ref vt])), (vt, .inr (2, [.ref vf, .ref vv])), (vf, .inl (cJ, 1024, .inr (.inl fm))), (vv, .inl (cI, 1024, .inl vl))] tt) (va_A [(h0, .inr (3, [.ref lg, .ref fs, .ref ps, .long fa, .long fb, .int 1, .int re])), (fs, .inr (1, [.ref vt])), (vt, .inr (2, [.ref vf, .ref vv])), (vf, .inl (cJ, 1024, .inr (.inl fm))), (vv, .inl (cI, 1024, .inl vl))] sz)) 1 6 (va_A [(h0, .inr (3, [.ref lg, .ref fs, .ref ps, .long fa, .long fb, .int 1, .int re])), (fs, .inr (1, [.ref vt])), (vt, .inr (2, [.ref vf, .ref vv])), (vf, .inl (cJ, 1024, .inr (.inl fm))), (vv, .inl (cI, 1024, .inl vl))] sz) := by
  refine vx_ofW (cc := cX6_bestMove) (maxL := 7) (ret := (some .int)) (by decide) rfl ?_
  intro p e s m args below meth c s₁ B hml htab hv
  obtain ⟨rfl, hEN, hEX, hZ, rfl, hP, hK, hD0⟩ := hv
  have hx := B.exec
  have hb := B.bytes
  have hr := B.returns
  have hts := atoms_spec (ws := wsX6_bestMove) B.pre
  have hown : s.vm.findClass RX6 = some m.cls := findClass_of_methodNamed B.named
  have hlocks := B.notSynchronized
  have hD := hD0.self (sz := s.heap.size)
  generalize hAe : va_A [(h0, .inr (3, [.ref lg, .ref fs, .ref ps, .long fa, .long fb, .int 1, .int re])), (fs, .inr (1, [.ref vt])), (vt, .inr (2, [.ref vf, .ref vv])), (vf, .inl (cJ, 1024, .inr (.inl fm))), (vv, .inl (cI, 1024, .inl vl))] s.heap.size = A at hD hZ ⊢
  have hA : ∀ q : Nat, s.heap.size ≤ q → A q := fun q h => by rw [← hAe]; exact Or.inr h
  have hS : va_S A s.heap s.heap [] := va_S.rf
  have hinX6 : ∀ w ∈ wsX60, w ∈ wsX6_bestMove := by decide +kernel
  have hfl72 : (Cond.fieldLink RX6 72 "Twistquad" "mustTurn" "Z").before ([.ref h0] : List Value).toArray s = true := hts _ (by decide +kernel)
  have hfl24 : (Cond.fieldLink RX6 24 "Twistquad" "formSolver" "LTwistquad$Solver;").before ([.ref h0] : List Value).toArray s = true := hts _ (by decide +kernel)
  have hl := lv_entry ([.ref h0]) (n := 7) (Nat.le_of_ble_eq_true rfl)
  rw [lg_entry_eq]
  generalize (lg_sl ([.ref h0]) ++ List.replicate (7 - (lg_sl ([.ref h0])).length) Slot.unset).toArray = ls at hl ⊢
  have hl : lv_has ls 7 [(0, .ref h0)] := hl
  refine lv_aload_n hx hb dX6_bestMove_0 rfl (lv_at hl 0 rfl) ?_
  have hPc : va_P D vwCl [(h0, .inr (3, [.ref lg, .ref fs, .ref ps, .long fa, .long fb, .int 1, .int re]))] s.heap := hP.sub (ws' := [(h0, .inr (3, [.ref lg, .ref fs, .ref ps, .long fa, .long fb, .int 1, .int re]))]) [0] rfl
  have hDc : va_D A [(h0, .inr (3, [.ref lg, .ref fs, .ref ps, .long fa, .long fb, .int 1, .int re]))] := hD.sub (ws' := [(h0, .inr (3, [.ref lg, .ref fs, .ref ps, .long fa, .long fb, .int 1, .int re]))]) [0] (by decide) rfl
  have hFc := va_free (wc := [(h0, .inr (3, [.ref lg, .ref fs, .ref ps, .long fa, .long fb, .int 1, .int re]))]) hD hS hA [0] rfl
  refine vx_callv (vx_runV (As := []) (rest := []) ⟨hx, hb, hml, hown, hts⟩ (c_X6_requireSolvable l hltr D cI cJ s.heap.size  h0 lg fs ps fa fb 1 re ) (cwV 0 hts gX6_bestMove_X6_requireSolvable rfl rfl rfl (by decide +kernel) ⟨Nat.le_of_ble_eq_true rfl, Nat.le_of_ble_eq_true rfl⟩) ⟨(px_blindX pv_blind), va_recv hK hPc (ci := 3) (q0 := 0) rfl rfl, fun U hU hW => ⟨rfl, hEX.warm hW, by rw [hU]; exact hZ.to hS hW.alike hFc, by rw [hU], by rw [hU]; exact hPc, va_K.moved hW.alike hK, hDc.weaken (fun _ _ _ _ => trivial)⟩⟩ rfl rfl hl.1 rfl (lv_room (Nat.le_of_ble_eq_true rfl)) dX6_bestMove_1 ⟨(Nat.le_of_ble_eq_true rfl), (Nat.le_of_ble_eq_true rfl)⟩) hS (fun q _ h => hFc q h) hFc (fun q _ h => hFc q h) (fun E ce q9 u9 t9 H1 locs hth hvm hpx hB9 hz1 hk1 hS hce hcv hcl => ?_) (fun u t9 H1 locs hth hvm hw1 hB9 hz1 hk1 hS => ?_)
  · obtain ⟨hb9, hP1, hK1, hD1⟩ := hB9
    rw [hth] at hP1
    obtain ⟨hP, hD⟩ := va_join (wr := [(fs, .inr (1, [.ref vt])), (vt, .inr (2, [.ref vf, .ref vv])), (vf, .inl (cJ, 1024, .inr (.inl fm))), (vv, .inl (cI, 1024, .inl vl))]) (w1 := [(h0, .inr (3, [.ref lg, .ref fs, .ref ps, .long fa, .long fb, .int 1, .int re]))]) hP hD [0] [1, 2, 3, 4] rfl rfl (by decide) (by decide) hk1 hFc hP1 hD1
    have hP : va_P D vwCl [(h0, .inr (3, [.ref lg, .ref fs, .ref ps, .long fa, .long fb, .int 1, .int re])), (fs, .inr (1, [.ref vt])), (vt, .inr (2, [.ref vf, .ref vv])), (vf, .inl (cJ, 1024, .inr (.inl fm))), (vv, .inl (cI, 1024, .inl vl))] H1 := hP.sub (ws' := [(h0, .inr (3, [.ref lg, .ref fs, .ref ps, .long fa, .long fb, .int 1, .int re])), (fs, .inr (1, [.ref vt])), (vt, .inr (2, [.ref vf, .ref vv])), (vf, .inl (cJ, 1024, .inr (.inl fm))), (vv, .inl (cI, 1024, .inl vl))]) [4, 0, 1, 2, 3] rfl
    have hD : va_D A [(h0, .inr (3, [.ref lg, .ref fs, .ref ps, .long fa, .long fb, .int 1, .int re])), (fs, .inr (1, [.ref vt])), (vt, .inr (2, [.ref vf, .ref vv])), (vf, .inl (cJ, 1024, .inr (.inl fm))), (vv, .inl (cI, 1024, .inl vl))] := hD.sub (ws' := [(h0, .inr (3, [.ref lg, .ref fs, .ref ps, .long fa, .long fb, .int 1, .int re])), (fs, .inr (1, [.ref vt])), (vt, .inr (2, [.ref vf, .ref vv])), (vf, .inl (cJ, 1024, .inr (.inl fm))), (vv, .inl (cI, 1024, .inl vl))]) [4, 0, 1, 2, 3] (by decide) rfl
    exact vx_out (fun x h => (htab x h).elim) hlocks hce hcv hcl (fun tt htt hvt => ⟨(), trivial, ⟨hb9, by rw [htt]; exact hP, va_K.moved hvt hK, hD⟩, hS.F htt⟩) hS.2.2 (Nat.le_of_ble_eq_true rfl) (Nat.le_of_ble_eq_true rfl)
  · try dsimp only at hw1
    obtain ⟨hP1, hK1, hD1⟩ := hB9
    rw [hth] at hP1
    obtain ⟨hP, hD⟩ := va_join (wr := [(fs, .inr (1, [.ref vt])), (vt, .inr (2, [.ref vf, .ref vv])), (vf, .inl (cJ, 1024, .inr (.inl fm))), (vv, .inl (cI, 1024, .inl vl))]) (w1 := [(h0, .inr (3, [.ref lg, .ref fs, .ref ps, .long fa, .long fb, .int 1, .int re]))]) hP hD [0] [1, 2, 3, 4] rfl rfl (by decide) (by decide) hk1 hFc hP1 hD1
    generalize H1 = H at hP hS ⊢
    have hP : va_P D vwCl [(h0, .inr (3, [.ref lg, .ref fs, .ref ps, .long fa, .long fb, .int 1, .int re])), (fs, .inr (1, [.ref vt])), (vt, .inr (2, [.ref vf, .ref vv])), (vf, .inl (cJ, 1024, .inr (.inl fm))), (vv, .inl (cI, 1024, .inl vl))] H := hP.sub (ws' := [(h0, .inr (3, [.ref lg, .ref fs, .ref ps, .long fa, .long fb, .int 1, .int re])), (fs, .inr (1, [.ref vt])), (vt, .inr (2, [.ref vf, .ref vv])), (vf, .inl (cJ, 1024, .inr (.inl fm))), (vv, .inl (cI, 1024, .inl vl))]) [4, 0, 1, 2, 3] rfl
    have hD : va_D A [(h0, .inr (3, [.ref lg, .ref fs, .ref ps, .long fa, .long fb, .int 1, .int re])), (fs, .inr (1, [.ref vt])), (vt, .inr (2, [.ref vf, .ref vv])), (vf, .inl (cJ, 1024, .inr (.inl fm))), (vv, .inl (cI, 1024, .inl vl))] := hD.sub (ws' := [(h0, .inr (3, [.ref lg, .ref fs, .ref ps, .long fa, .long fb, .int 1, .int re])), (fs, .inr (1, [.ref vt])), (vt, .inr (2, [.ref vf, .ref vv])), (vf, .inl (cJ, 1024, .inr (.inl fm))), (vv, .inl (cI, 1024, .inl vl))]) [4, 0, 1, 2, 3] (by decide) rfl
    refine lv_aload_n hx hb dX6_bestMove_4 rfl (lv_at hl 0 rfl) ?_
    refine vp_callSi (W.runV (As := []) (rest := []) ⟨hx, hb, hml, hown, hts⟩ (c_X6_sideToAct l D cI cJ h0 lg fs ps fa fb 1 re (Or.inr hp)) (cwV 0 hts gX6_bestMove_X6_sideToAct rfl rfl rfl (by decide +kernel) ⟨Nat.le_of_ble_eq_true rfl, Nat.le_of_ble_eq_true rfl⟩) ⟨px_blindW, va_recv hK hP (ci := 3) (q0 := 0) rfl rfl, fun U hU hW => ⟨rfl, by rw [hU]; exact hP.sub (ws' := [(h0, .inr (3, [.ref lg, .ref fs, .ref ps, .long fa, .long fb, .int 1, .int re]))]) [0] rfl, va_K.moved hW.alike hK⟩⟩ rfl rfl hl.1 rfl (lv_room (Nat.le_of_ble_eq_true rfl)) dX6_bestMove_5 ⟨(Nat.le_of_ble_eq_true rfl), (Nat.le_of_ble_eq_true rfl)⟩) (fun r5 er5 => ?_)
    obtain rfl := er5.symm
    refine lv_istore_n (lv' := [(1, .int (cside (pop (fa ||| fb)) 1)), (0, .ref h0)]) hx hb dX6_bestMove_8 rfl hl (by decide) rfl (fun ls hl => ?_)
    refine lv_aload_n hx hb dX6_bestMove_9 rfl (lv_at hl 1 rfl) ?_
    refine lv_iload_n hx hb dX6_bestMove_10 rfl (lv_at hl 0 rfl) ?_
    refine vp_callSl (W.runV (As := [.int (cside (pop (fa ||| fb)) 1)]) (rest := []) ⟨hx, hb, hml, hown, hts⟩ (c_X6_marblesOf l D cI cJ h0 lg fs ps fa fb 1 re (cside (pop (fa ||| fb)) 1)) (cwV 1 hts gX6_bestMove_X6_marblesOf rfl rfl rfl (by decide +kernel) ⟨Nat.le_of_ble_eq_true rfl, Nat.le_of_ble_eq_true rfl⟩) ⟨px_blindW, va_recv hK hP (ci := 3) (q0 := 0) rfl rfl, fun U hU hW => ⟨rfl, by rw [hU]; exact hP.sub (ws' := [(h0, .inr (3, [.ref lg, .ref fs, .ref ps, .long fa, .long fb, .int 1, .int re]))]) [0] rfl, va_K.moved hW.alike hK⟩⟩ rfl rfl hl.1 rfl (lv_room (Nat.le_of_ble_eq_true rfl)) dX6_bestMove_11 ⟨(Nat.le_of_ble_eq_true rfl), (Nat.le_of_ble_eq_true rfl)⟩) (fun r11 er11 => ?_)
    obtain rfl := er11.symm
    refine pk_tl (y := (cown fa fb 1)) (rfl) ?_
    refine lv_lstore_n (lv' := [(2, .long (cown fa fb 1)), (1, .int (cside (pop (fa ||| fb)) 1)), (0, .ref h0)]) hx hb dX6_bestMove_14 rfl hl (by decide) rfl (fun ls hl => ?_)
    refine lv_aload_n hx hb dX6_bestMove_15 rfl (lv_at hl 2 rfl) ?_
    refine lv_iload_n hx hb dX6_bestMove_16 rfl (lv_at hl 1 rfl) ?_
    refine vp_callSi (W.runS (As := [.int (cside (pop (fa ||| fb)) 1)]) (rest := [.ref h0]) ⟨hx, hb, hml, hown, hts⟩ (c_X6_otherSide l (cside (pop (fa ||| fb)) 1)) (va_cwS 1 hts gX6_bestMove_X6_otherSide rfl rfl rfl (by decide +kernel) ⟨Nat.le_of_ble_eq_true rfl, Nat.le_of_ble_eq_true rfl⟩) ⟨px_blind0, fun U hU hW => ⟨rfl, trivial⟩⟩ rfl rfl hl.1 rfl (lv_room (Nat.le_of_ble_eq_true rfl)) dX6_bestMove_17 ⟨(Nat.le_of_ble_eq_true rfl), (Nat.le_of_ble_eq_true rfl)⟩) (fun r17 er17 => ?_)
    obtain rfl := er17.symm
    refine vp_callSl (W.runV (As := [.int (if (cside (pop (fa ||| fb)) 1) = 1 then 2 else 1)]) (rest := []) ⟨hx, hb, hml, hown, hts⟩ (c_X6_marblesOf l D cI cJ h0 lg fs ps fa fb 1 re (if (cside (pop (fa ||| fb)) 1) = 1 then 2 else 1)) (cwV 1 hts gX6_bestMove_X6_marblesOf rfl rfl rfl (by decide +kernel) ⟨Nat.le_of_ble_eq_true rfl, Nat.le_of_ble_eq_true rfl⟩) ⟨px_blindW, va_recv hK hP (ci := 3) (q0 := 0) rfl rfl, fun U hU hW => ⟨rfl, by rw [hU]; exact hP.sub (ws' := [(h0, .inr (3, [.ref lg, .ref fs, .ref ps, .long fa, .long fb, .int 1, .int re]))]) [0] rfl, va_K.moved hW.alike hK⟩⟩ rfl rfl hl.1 rfl (lv_room (Nat.le_of_ble_eq_true rfl)) dX6_bestMove_20 ⟨(Nat.le_of_ble_eq_true rfl), (Nat.le_of_ble_eq_true rfl)⟩) (fun r20 er20 => ?_)
    obtain rfl := er20.symm
    refine pk_tl (y := (coth fa fb 1)) (rfl) ?_
    refine lv_lstore (lv' := [(4, .long (coth fa fb 1)), (2, .long (cown fa fb 1)), (1, .int (cside (pop (fa ||| fb)) 1)), (0, .ref h0)]) hx hb dX6_bestMove_23 hl (by decide) rfl (fun ls hl => ?_)
    refine lv_aload_n hx hb dX6_bestMove_25 rfl (lv_at hl 3 rfl) ?_
    refine vp_callSl (W.runV (As := []) (rest := []) ⟨hx, hb, hml, hown, hts⟩ (c_X6_emptyCells l D cI cJ h0 lg fs ps fa fb 1 re ) (cwV 0 hts gX6_bestMove_X6_emptyCells rfl rfl rfl (by decide +kernel) ⟨Nat.le_of_ble_eq_true rfl, Nat.le_of_ble_eq_true rfl⟩) ⟨px_blindW, va_recv hK hP (ci := 3) (q0 := 0) rfl rfl, fun U hU hW => ⟨rfl, by rw [hU]; exact hP.sub (ws' := [(h0, .inr (3, [.ref lg, .ref fs, .ref ps, .long fa, .long fb, .int 1, .int re]))]) [0] rfl, va_K.moved hW.alike hK⟩⟩ rfl rfl hl.1 rfl (lv_room (Nat.le_of_ble_eq_true rfl)) dX6_bestMove_26 ⟨(Nat.le_of_ble_eq_true rfl), (Nat.le_of_ble_eq_true rfl)⟩) (fun r26 er26 => ?_)
    obtain rfl := er26.symm
    refine vp_callSi (W.runS (As := [.long (cempty fa fb)]) (rest := []) ⟨hx, hb, hml, hown, hts⟩ (c_J13_bitCount_95d88 l (cempty fa fb)) (va_cwS 1 hts gX6_bestMove_J13_bitCount_95d88 rfl rfl rfl (by decide +kernel) ⟨Nat.le_of_ble_eq_true rfl, Nat.le_of_ble_eq_true rfl⟩) ⟨px_blind0, fun U hU hW => ⟨rfl, trivial⟩⟩ rfl rfl hl.1 rfl (lv_room (Nat.le_of_ble_eq_true rfl)) dX6_bestMove_29 ⟨(Nat.le_of_ble_eq_true rfl), (Nat.le_of_ble_eq_true rfl)⟩) (fun r29 er29 => ?_)
    obtain rfl := er29.symm
    refine pk_ti (y := 1) (congrArg nI hn) ?_
    refine lv_istore (lv' := [(6, .int 1), (4, .long (coth fa fb 1)), (2, .long (cown fa fb 1)), (1, .int (cside (pop (fa ||| fb)) 1)), (0, .ref h0)]) hx hb dX6_bestMove_32 hl (by decide) rfl (fun ls hl => ?_)
    refine lv_aload_n hx hb dX6_bestMove_34 rfl (lv_at hl 4 rfl) ?_
    refine va_get (D := D) (ci := 3) (v := .int 1) (C := RX6) (T := TX6) (N := 7) hx hb hts hinX6 hown hK hP 0 rfl rfl 5 (by decide) hfl72 (fun _ h9 => h9) rfl dX6_bestMove_35 ?_
    refine lv_if_eq (tgt := 56) hx hb dX6_bestMove_38 (by decide) (fun c38 => ?_) (fun c38 => ?_)
    · exact absurd c38 (by decide)
    · refine lv_aload_n hx hb dX6_bestMove_41 rfl (lv_at hl 4 rfl) ?_
      refine va_get (D := D) (ci := 3) (v := .ref fs) (C := RX6) (T := TX6) (N := 7) hx hb hts hinX6 hown hK hP 0 rfl rfl 1 (by decide) hfl24 (fun _ h9 => h9) rfl dX6_bestMove_42 ?_
      refine lv_lload_n hx hb dX6_bestMove_45 rfl (lv_at hl 2 rfl) ?_
      refine lv_lload hx hb dX6_bestMove_46 (lv_at hl 1 rfl) ?_
      refine lv_iload hx hb dX6_bestMove_48 (lv_at hl 0 rfl) ?_
      have hPc := hP.sub (ws' := [(fs, .inr (1, [.ref vt])), (vt, .inr (2, [.ref vf, .ref vv])), (vf, .inl (cJ, 1024, .inr (.inl fm))), (vv, .inl (cI, 1024, .inl vl))]) [1, 2, 3, 4] rfl
      have hDc := hD.sub (ws' := [(fs, .inr (1, [.ref vt])), (vt, .inr (2, [.ref vf, .ref vv])), (vf, .inl (cJ, 1024, .inr (.inl fm))), (vv, .inl (cI, 1024, .inl vl))]) [1, 2, 3, 4] (by decide) rfl
      have hFc := va_free (wc := [(fs, .inr (1, [.ref vt])), (vt, .inr (2, [.ref vf, .ref vv])), (vf, .inl (cJ, 1024, .inr (.inl fm))), (vv, .inl (cI, 1024, .inl vl))]) hD hS hA [1, 2, 3, 4] rfl
      refine va_calli (va_runV (As := [.long (cown fa fb 1), .long (coth fa fb 1), .int 1]) (rest := []) ⟨hx, hb, hml, hown, hts⟩ (c_X3_lowestBestTurn_f1 l D cI cJ H.size  fs vt vf vv fm vl hT (cown fa fb 1) (coth fa fb 1) hB) (cwV 3 hts gX6_bestMove_X3_lowestBestTurn rfl rfl rfl (by decide +kernel) ⟨Nat.le_of_ble_eq_true rfl, Nat.le_of_ble_eq_true rfl⟩) ⟨(px_blindE pv_blind), va_recv hK hPc (ci := 1) (q0 := 0) rfl rfl, fun U hU hW => ⟨rfl, hEN.warm hW, by rw [hU], by rw [hU]; exact hPc, va_K.moved hW.alike hK, hDc.weaken (fun _ _ _ _ => trivial)⟩⟩ rfl rfl hl.1 rfl (lv_room (Nat.le_of_ble_eq_true rfl)) dX6_bestMove_50 ⟨(Nat.le_of_ble_eq_true rfl), (Nat.le_of_ble_eq_true rfl)⟩) hS (fun q _ h => hFc q h) hFc (fun r50 u t9 H1 locs hth hvm hw50 hB hz1 hk1 hS => ?_)
      obtain ⟨fm50, vl50⟩ := u
      try dsimp only at hw50
      obtain ⟨hP1, hK1, hD1⟩ := hB
      rw [hth] at hP1
      obtain ⟨hP, hD⟩ := va_join (wr := [(h0, .inr (3, [.ref lg, .ref fs, .ref ps, .long fa, .long fb, .int 1, .int re]))]) (w1 := [(fs, .inr (1, [.ref vt])), (vt, .inr (2, [.ref vf, .ref vv])), (vf, .inl (cJ, 1024, .inr (.inl fm50))), (vv, .inl (cI, 1024, .inl vl50))]) hP hD [1, 2, 3, 4] [0] rfl rfl (by decide) (by decide) hk1 hFc hP1 hD1
      generalize H1 = H at hP hS ⊢
      have hP : va_P D vwCl [(h0, .inr (3, [.ref lg, .ref fs, .ref ps, .long fa, .long fb, .int 1, .int re])), (fs, .inr (1, [.ref vt])), (vt, .inr (2, [.ref vf, .ref vv])), (vf, .inl (cJ, 1024, .inr (.inl fm50))), (vv, .inl (cI, 1024, .inl vl50))] H := hP.sub (ws' := [(h0, .inr (3, [.ref lg, .ref fs, .ref ps, .long fa, .long fb, .int 1, .int re])), (fs, .inr (1, [.ref vt])), (vt, .inr (2, [.ref vf, .ref vv])), (vf, .inl (cJ, 1024, .inr (.inl fm50))), (vv, .inl (cI, 1024, .inl vl50))]) [0, 1, 2, 3, 4] rfl
      have hD : va_D A [(h0, .inr (3, [.ref lg, .ref fs, .ref ps, .long fa, .long fb, .int 1, .int re])), (fs, .inr (1, [.ref vt])), (vt, .inr (2, [.ref vf, .ref vv])), (vf, .inl (cJ, 1024, .inr (.inl fm50))), (vv, .inl (cI, 1024, .inl vl50))] := hD.sub (ws' := [(h0, .inr (3, [.ref lg, .ref fs, .ref ps, .long fa, .long fb, .int 1, .int re])), (fs, .inr (1, [.ref vt])), (vt, .inr (2, [.ref vf, .ref vv])), (vf, .inl (cJ, 1024, .inr (.inl fm50))), (vv, .inl (cI, 1024, .inl vl50))]) [0, 1, 2, 3, 4] (by decide) rfl
      obtain ⟨hv9, hT50⟩ := hw50
      obtain rfl := hv9.symm
      refine lv_goto (tgt := 68) hx hb dX6_bestMove_53 (by decide) ?_
      refine vx_ret ?_
      refine W.widen (k := 1) (n := 6) (Nat.le_of_ble_eq_true rfl) (Nat.le_of_ble_eq_true rfl) ?_
      refine W.iret (v := (nI (tlow (vput 1) (cown fa fb 1) (coth fa fb 1) 8).2)) hx hb hr (fun tt ht hW => ⟨⟨(nI (tlow (vput 1) (cown fa fb 1) (coth fa fb 1) 8).2), (fm50, vl50), rfl, ?_, by rw [ht]; exact hP, va_K.moved hW.alike hK, hD⟩, hS.F ht⟩) hS.2.2 dX6_bestMove_68
      exact ⟨hw1.1, hw1.2, by { rw [hn]; exact cbest_1.symm }, hT50⟩

set_option maxHeartbeats 400000 in
set_option maxRecDepth 100000 in
theorem c_X6_bestMove_2_1 (l : Launch) (hltr : l.stackTraces = false) (D : va_G) (cI cJ : ClassId) (sz : Nat) (h0 lg fs ps vt vf vv : Nat) (fa fb : Int64) (re : Int32) (fm : Nat → Int64) (vl : Nat → Int32) (hT : TI fm vl) (hp : 0 < pop (fa ||| fb)) (hn : pop (cempty fa fb) = 2) (hB : BH 2 (cown fa fb 1) (coth fa fb 1)) : vx_Met l yX6_bestMove wsX6_bestMove ({ frames := 16, cells := 1, slots := 6, locals := 465 } : Room) (va_Pc [.ref h0] (px_E (px_X (va_A [(h0, .inr (3, [.ref lg, .ref fs, .ref ps, .long fa, .long fb, .int 1, .int re])), (fs, .inr (1, [.ref vt])), (vt, .inr (2, [.ref vf, .ref vv])), (vf, .inl (cJ, 1024, .inr (.inl fm))), (vv, .inl (cI, 1024, .inl vl))] sz) (pv_C D cI cJ [(h0, .inr (3, [.ref lg, .ref fs, .ref ps, .long fa, .long fb, .int 1, .int re])), (fs, .inr (1, [.ref vt])), (vt, .inr (2, [.ref vf, .ref vv])), (vf, .inl (cJ, 1024, .inr (.inl fm))), (vv, .inl (cI, 1024, .inl vl))] sz)))) (va_Qi (fun (r : Int32) (u : (Nat → Int64) × (Nat → Int32)) => re = 0 ∧ pop (cempty fa fb) ≤ 3 ∧ r = cbest (pop (cempty fa fb)) fa fb 1 ∧ TI u.1 u.2) (fun (u : (Nat → Int64) × (Nat → Int32)) => pv_B D cI cJ (va_A [(h0, .inr (3, [.ref lg, .ref fs, .ref ps, .long fa, .long fb, .int 1, .int re])), (fs, .inr (1, [.ref vt])), (vt, .inr (2, [.ref vf, .ref vv])), (vf, .inl (cJ, 1024, .inr (.inl fm))), (vv, .inl (cI, 1024, .inl vl))] sz) [(h0, .inr (3, [.ref lg, .ref fs, .ref ps, .long fa, .long fb, .int 1, .int re])), (fs, .inr (1, [.ref vt])), (vt, .inr (2, [.ref vf, .ref vv])), (vf, .inl (cJ, 1024, .inr (.inl u.1))), (vv, .inl (cI, 1024, .inl u.2))]) (va_A [(h0, .inr (3, [.ref lg, .ref fs, .ref ps, .long fa, .long fb, .int 1, .int re])), (fs, .inr (1, [.ref vt])), (vt, .inr (2, [.ref vf, .ref vv])), (vf, .inl (cJ, 1024, .inr (.inl fm))), (vv, .inl (cI, 1024, .inl vl))] sz)) (vx_X (fun (_ : Unit) => True) (fun (E : String) (_ : Unit) (tt : State) => (E = nISE ∧ ¬ (re = 0 ∧ pop (cempty fa fb) ≤ 3)) ∧ pv_B D cI cJ (va_A [(h0, .inr (3, [.ref lg, .ref fs, .ref ps, .long fa, .long fb, .int 1, .int re])), (fs, .inr (1, [.ref vt])), (vt, .inr (2, [.ref vf, .ref vv])), (vf, .inl (cJ, 1024, .inr (.inl fm))), (vv, .inl (cI, 1024, .inl vl))] sz) [(h0, .inr (3, [.ref lg, .ref fs, .ref ps, .long fa, .long fb, .int 1, .int re])), (fs, .inr (1, [.ref vt])), (vt, .inr (2, [.ref vf, .ref vv])), (vf, .inl (cJ, 1024, .inr (.inl fm))), (vv, .inl (cI, 1024, .inl vl))] tt) (va_A [(h0, .inr (3, [.ref lg, .ref fs, .ref ps, .long fa, .long fb, .int 1, .int re])), (fs, .inr (1, [.ref vt])), (vt, .inr (2, [.ref vf, .ref vv])), (vf, .inl (cJ, 1024, .inr (.inl fm))), (vv, .inl (cI, 1024, .inl vl))] sz)) 1 6 (va_A [(h0, .inr (3, [.ref lg, .ref fs, .ref ps, .long fa, .long fb, .int 1, .int re])), (fs, .inr (1, [.ref vt])), (vt, .inr (2, [.ref vf, .ref vv])), (vf, .inl (cJ, 1024, .inr (.inl fm))), (vv, .inl (cI, 1024, .inl vl))] sz) := by
  refine vx_ofW (cc := cX6_bestMove) (maxL := 7) (ret := (some .int)) (by decide) rfl ?_
  intro p e s m args below meth c s₁ B hml htab hv
  obtain ⟨rfl, hEN, hEX, hZ, rfl, hP, hK, hD0⟩ := hv
  have hx := B.exec
  have hb := B.bytes
  have hr := B.returns
  have hts := atoms_spec (ws := wsX6_bestMove) B.pre
  have hown : s.vm.findClass RX6 = some m.cls := findClass_of_methodNamed B.named
  have hlocks := B.notSynchronized
  have hD := hD0.self (sz := s.heap.size)
  generalize hAe : va_A [(h0, .inr (3, [.ref lg, .ref fs, .ref ps, .long fa, .long fb, .int 1, .int re])), (fs, .inr (1, [.ref vt])), (vt, .inr (2, [.ref vf, .ref vv])), (vf, .inl (cJ, 1024, .inr (.inl fm))), (vv, .inl (cI, 1024, .inl vl))] s.heap.size = A at hD hZ ⊢
  have hA : ∀ q : Nat, s.heap.size ≤ q → A q := fun q h => by rw [← hAe]; exact Or.inr h
  have hS : va_S A s.heap s.heap [] := va_S.rf
  have hinX6 : ∀ w ∈ wsX60, w ∈ wsX6_bestMove := by decide +kernel
  have hfl72 : (Cond.fieldLink RX6 72 "Twistquad" "mustTurn" "Z").before ([.ref h0] : List Value).toArray s = true := hts _ (by decide +kernel)
  have hfl24 : (Cond.fieldLink RX6 24 "Twistquad" "formSolver" "LTwistquad$Solver;").before ([.ref h0] : List Value).toArray s = true := hts _ (by decide +kernel)
  have hl := lv_entry ([.ref h0]) (n := 7) (Nat.le_of_ble_eq_true rfl)
  rw [lg_entry_eq]
  generalize (lg_sl ([.ref h0]) ++ List.replicate (7 - (lg_sl ([.ref h0])).length) Slot.unset).toArray = ls at hl ⊢
  have hl : lv_has ls 7 [(0, .ref h0)] := hl
  refine lv_aload_n hx hb dX6_bestMove_0 rfl (lv_at hl 0 rfl) ?_
  have hPc : va_P D vwCl [(h0, .inr (3, [.ref lg, .ref fs, .ref ps, .long fa, .long fb, .int 1, .int re]))] s.heap := hP.sub (ws' := [(h0, .inr (3, [.ref lg, .ref fs, .ref ps, .long fa, .long fb, .int 1, .int re]))]) [0] rfl
  have hDc : va_D A [(h0, .inr (3, [.ref lg, .ref fs, .ref ps, .long fa, .long fb, .int 1, .int re]))] := hD.sub (ws' := [(h0, .inr (3, [.ref lg, .ref fs, .ref ps, .long fa, .long fb, .int 1, .int re]))]) [0] (by decide) rfl
  have hFc := va_free (wc := [(h0, .inr (3, [.ref lg, .ref fs, .ref ps, .long fa, .long fb, .int 1, .int re]))]) hD hS hA [0] rfl
  refine vx_callv (vx_runV (As := []) (rest := []) ⟨hx, hb, hml, hown, hts⟩ (c_X6_requireSolvable l hltr D cI cJ s.heap.size  h0 lg fs ps fa fb 1 re ) (cwV 0 hts gX6_bestMove_X6_requireSolvable rfl rfl rfl (by decide +kernel) ⟨Nat.le_of_ble_eq_true rfl, Nat.le_of_ble_eq_true rfl⟩) ⟨(px_blindX pv_blind), va_recv hK hPc (ci := 3) (q0 := 0) rfl rfl, fun U hU hW => ⟨rfl, hEX.warm hW, by rw [hU]; exact hZ.to hS hW.alike hFc, by rw [hU], by rw [hU]; exact hPc, va_K.moved hW.alike hK, hDc.weaken (fun _ _ _ _ => trivial)⟩⟩ rfl rfl hl.1 rfl (lv_room (Nat.le_of_ble_eq_true rfl)) dX6_bestMove_1 ⟨(Nat.le_of_ble_eq_true rfl), (Nat.le_of_ble_eq_true rfl)⟩) hS (fun q _ h => hFc q h) hFc (fun q _ h => hFc q h) (fun E ce q9 u9 t9 H1 locs hth hvm hpx hB9 hz1 hk1 hS hce hcv hcl => ?_) (fun u t9 H1 locs hth hvm hw1 hB9 hz1 hk1 hS => ?_)
  · obtain ⟨hb9, hP1, hK1, hD1⟩ := hB9
    rw [hth] at hP1
    obtain ⟨hP, hD⟩ := va_join (wr := [(fs, .inr (1, [.ref vt])), (vt, .inr (2, [.ref vf, .ref vv])), (vf, .inl (cJ, 1024, .inr (.inl fm))), (vv, .inl (cI, 1024, .inl vl))]) (w1 := [(h0, .inr (3, [.ref lg, .ref fs, .ref ps, .long fa, .long fb, .int 1, .int re]))]) hP hD [0] [1, 2, 3, 4] rfl rfl (by decide) (by decide) hk1 hFc hP1 hD1
    have hP : va_P D vwCl [(h0, .inr (3, [.ref lg, .ref fs, .ref ps, .long fa, .long fb, .int 1, .int re])), (fs, .inr (1, [.ref vt])), (vt, .inr (2, [.ref vf, .ref vv])), (vf, .inl (cJ, 1024, .inr (.inl fm))), (vv, .inl (cI, 1024, .inl vl))] H1 := hP.sub (ws' := [(h0, .inr (3, [.ref lg, .ref fs, .ref ps, .long fa, .long fb, .int 1, .int re])), (fs, .inr (1, [.ref vt])), (vt, .inr (2, [.ref vf, .ref vv])), (vf, .inl (cJ, 1024, .inr (.inl fm))), (vv, .inl (cI, 1024, .inl vl))]) [4, 0, 1, 2, 3] rfl
    have hD : va_D A [(h0, .inr (3, [.ref lg, .ref fs, .ref ps, .long fa, .long fb, .int 1, .int re])), (fs, .inr (1, [.ref vt])), (vt, .inr (2, [.ref vf, .ref vv])), (vf, .inl (cJ, 1024, .inr (.inl fm))), (vv, .inl (cI, 1024, .inl vl))] := hD.sub (ws' := [(h0, .inr (3, [.ref lg, .ref fs, .ref ps, .long fa, .long fb, .int 1, .int re])), (fs, .inr (1, [.ref vt])), (vt, .inr (2, [.ref vf, .ref vv])), (vf, .inl (cJ, 1024, .inr (.inl fm))), (vv, .inl (cI, 1024, .inl vl))]) [4, 0, 1, 2, 3] (by decide) rfl
    exact vx_out (fun x h => (htab x h).elim) hlocks hce hcv hcl (fun tt htt hvt => ⟨(), trivial, ⟨hb9, by rw [htt]; exact hP, va_K.moved hvt hK, hD⟩, hS.F htt⟩) hS.2.2 (Nat.le_of_ble_eq_true rfl) (Nat.le_of_ble_eq_true rfl)
  · try dsimp only at hw1
    obtain ⟨hP1, hK1, hD1⟩ := hB9
    rw [hth] at hP1
    obtain ⟨hP, hD⟩ := va_join (wr := [(fs, .inr (1, [.ref vt])), (vt, .inr (2, [.ref vf, .ref vv])), (vf, .inl (cJ, 1024, .inr (.inl fm))), (vv, .inl (cI, 1024, .inl vl))]) (w1 := [(h0, .inr (3, [.ref lg, .ref fs, .ref ps, .long fa, .long fb, .int 1, .int re]))]) hP hD [0] [1, 2, 3, 4] rfl rfl (by decide) (by decide) hk1 hFc hP1 hD1
    generalize H1 = H at hP hS ⊢
    have hP : va_P D vwCl [(h0, .inr (3, [.ref lg, .ref fs, .ref ps, .long fa, .long fb, .int 1, .int re])), (fs, .inr (1, [.ref vt])), (vt, .inr (2, [.ref vf, .ref vv])), (vf, .inl (cJ, 1024, .inr (.inl fm))), (vv, .inl (cI, 1024, .inl vl))] H := hP.sub (ws' := [(h0, .inr (3, [.ref lg, .ref fs, .ref ps, .long fa, .long fb, .int 1, .int re])), (fs, .inr (1, [.ref vt])), (vt, .inr (2, [.ref vf, .ref vv])), (vf, .inl (cJ, 1024, .inr (.inl fm))), (vv, .inl (cI, 1024, .inl vl))]) [4, 0, 1, 2, 3] rfl
    have hD : va_D A [(h0, .inr (3, [.ref lg, .ref fs, .ref ps, .long fa, .long fb, .int 1, .int re])), (fs, .inr (1, [.ref vt])), (vt, .inr (2, [.ref vf, .ref vv])), (vf, .inl (cJ, 1024, .inr (.inl fm))), (vv, .inl (cI, 1024, .inl vl))] := hD.sub (ws' := [(h0, .inr (3, [.ref lg, .ref fs, .ref ps, .long fa, .long fb, .int 1, .int re])), (fs, .inr (1, [.ref vt])), (vt, .inr (2, [.ref vf, .ref vv])), (vf, .inl (cJ, 1024, .inr (.inl fm))), (vv, .inl (cI, 1024, .inl vl))]) [4, 0, 1, 2, 3] (by decide) rfl
    refine lv_aload_n hx hb dX6_bestMove_4 rfl (lv_at hl 0 rfl) ?_
    refine vp_callSi (W.runV (As := []) (rest := []) ⟨hx, hb, hml, hown, hts⟩ (c_X6_sideToAct l D cI cJ h0 lg fs ps fa fb 1 re (Or.inr hp)) (cwV 0 hts gX6_bestMove_X6_sideToAct rfl rfl rfl (by decide +kernel) ⟨Nat.le_of_ble_eq_true rfl, Nat.le_of_ble_eq_true rfl⟩) ⟨px_blindW, va_recv hK hP (ci := 3) (q0 := 0) rfl rfl, fun U hU hW => ⟨rfl, by rw [hU]; exact hP.sub (ws' := [(h0, .inr (3, [.ref lg, .ref fs, .ref ps, .long fa, .long fb, .int 1, .int re]))]) [0] rfl, va_K.moved hW.alike hK⟩⟩ rfl rfl hl.1 rfl (lv_room (Nat.le_of_ble_eq_true rfl)) dX6_bestMove_5 ⟨(Nat.le_of_ble_eq_true rfl), (Nat.le_of_ble_eq_true rfl)⟩) (fun r5 er5 => ?_)
    obtain rfl := er5.symm
    refine lv_istore_n (lv' := [(1, .int (cside (pop (fa ||| fb)) 1)), (0, .ref h0)]) hx hb dX6_bestMove_8 rfl hl (by decide) rfl (fun ls hl => ?_)
    refine lv_aload_n hx hb dX6_bestMove_9 rfl (lv_at hl 1 rfl) ?_
    refine lv_iload_n hx hb dX6_bestMove_10 rfl (lv_at hl 0 rfl) ?_
    refine vp_callSl (W.runV (As := [.int (cside (pop (fa ||| fb)) 1)]) (rest := []) ⟨hx, hb, hml, hown, hts⟩ (c_X6_marblesOf l D cI cJ h0 lg fs ps fa fb 1 re (cside (pop (fa ||| fb)) 1)) (cwV 1 hts gX6_bestMove_X6_marblesOf rfl rfl rfl (by decide +kernel) ⟨Nat.le_of_ble_eq_true rfl, Nat.le_of_ble_eq_true rfl⟩) ⟨px_blindW, va_recv hK hP (ci := 3) (q0 := 0) rfl rfl, fun U hU hW => ⟨rfl, by rw [hU]; exact hP.sub (ws' := [(h0, .inr (3, [.ref lg, .ref fs, .ref ps, .long fa, .long fb, .int 1, .int re]))]) [0] rfl, va_K.moved hW.alike hK⟩⟩ rfl rfl hl.1 rfl (lv_room (Nat.le_of_ble_eq_true rfl)) dX6_bestMove_11 ⟨(Nat.le_of_ble_eq_true rfl), (Nat.le_of_ble_eq_true rfl)⟩) (fun r11 er11 => ?_)
    obtain rfl := er11.symm
    refine pk_tl (y := (cown fa fb 1)) (rfl) ?_
    refine lv_lstore_n (lv' := [(2, .long (cown fa fb 1)), (1, .int (cside (pop (fa ||| fb)) 1)), (0, .ref h0)]) hx hb dX6_bestMove_14 rfl hl (by decide) rfl (fun ls hl => ?_)
    refine lv_aload_n hx hb dX6_bestMove_15 rfl (lv_at hl 2 rfl) ?_
    refine lv_iload_n hx hb dX6_bestMove_16 rfl (lv_at hl 1 rfl) ?_
    refine vp_callSi (W.runS (As := [.int (cside (pop (fa ||| fb)) 1)]) (rest := [.ref h0]) ⟨hx, hb, hml, hown, hts⟩ (c_X6_otherSide l (cside (pop (fa ||| fb)) 1)) (va_cwS 1 hts gX6_bestMove_X6_otherSide rfl rfl rfl (by decide +kernel) ⟨Nat.le_of_ble_eq_true rfl, Nat.le_of_ble_eq_true rfl⟩) ⟨px_blind0, fun U hU hW => ⟨rfl, trivial⟩⟩ rfl rfl hl.1 rfl (lv_room (Nat.le_of_ble_eq_true rfl)) dX6_bestMove_17 ⟨(Nat.le_of_ble_eq_true rfl), (Nat.le_of_ble_eq_true rfl)⟩) (fun r17 er17 => ?_)
    obtain rfl := er17.symm
    refine vp_callSl (W.runV (As := [.int (if (cside (pop (fa ||| fb)) 1) = 1 then 2 else 1)]) (rest := []) ⟨hx, hb, hml, hown, hts⟩ (c_X6_marblesOf l D cI cJ h0 lg fs ps fa fb 1 re (if (cside (pop (fa ||| fb)) 1) = 1 then 2 else 1)) (cwV 1 hts gX6_bestMove_X6_marblesOf rfl rfl rfl (by decide +kernel) ⟨Nat.le_of_ble_eq_true rfl, Nat.le_of_ble_eq_true rfl⟩) ⟨px_blindW, va_recv hK hP (ci := 3) (q0 := 0) rfl rfl, fun U hU hW => ⟨rfl, by rw [hU]; exact hP.sub (ws' := [(h0, .inr (3, [.ref lg, .ref fs, .ref ps, .long fa, .long fb, .int 1, .int re]))]) [0] rfl, va_K.moved hW.alike hK⟩⟩ rfl rfl hl.1 rfl (lv_room (Nat.le_of_ble_eq_true rfl)) dX6_bestMove_20 ⟨(Nat.le_of_ble_eq_true rfl), (Nat.le_of_ble_eq_true rfl)⟩) (fun r20 er20 => ?_)
    obtain rfl := er20.symm
    refine pk_tl (y := (coth fa fb 1)) (rfl) ?_
    refine lv_lstore (lv' := [(4, .long (coth fa fb 1)), (2, .long (cown fa fb 1)), (1, .int (cside (pop (fa ||| fb)) 1)), (0, .ref h0)]) hx hb dX6_bestMove_23 hl (by decide) rfl (fun ls hl => ?_)
    refine lv_aload_n hx hb dX6_bestMove_25 rfl (lv_at hl 3 rfl) ?_
    refine vp_callSl (W.runV (As := []) (rest := []) ⟨hx, hb, hml, hown, hts⟩ (c_X6_emptyCells l D cI cJ h0 lg fs ps fa fb 1 re ) (cwV 0 hts gX6_bestMove_X6_emptyCells rfl rfl rfl (by decide +kernel) ⟨Nat.le_of_ble_eq_true rfl, Nat.le_of_ble_eq_true rfl⟩) ⟨px_blindW, va_recv hK hP (ci := 3) (q0 := 0) rfl rfl, fun U hU hW => ⟨rfl, by rw [hU]; exact hP.sub (ws' := [(h0, .inr (3, [.ref lg, .ref fs, .ref ps, .long fa, .long fb, .int 1, .int re]))]) [0] rfl, va_K.moved hW.alike hK⟩⟩ rfl rfl hl.1 rfl (lv_room (Nat.le_of_ble_eq_true rfl)) dX6_bestMove_26 ⟨(Nat.le_of_ble_eq_true rfl), (Nat.le_of_ble_eq_true rfl)⟩) (fun r26 er26 => ?_)
    obtain rfl := er26.symm
    refine vp_callSi (W.runS (As := [.long (cempty fa fb)]) (rest := []) ⟨hx, hb, hml, hown, hts⟩ (c_J13_bitCount_95d88 l (cempty fa fb)) (va_cwS 1 hts gX6_bestMove_J13_bitCount_95d88 rfl rfl rfl (by decide +kernel) ⟨Nat.le_of_ble_eq_true rfl, Nat.le_of_ble_eq_true rfl⟩) ⟨px_blind0, fun U hU hW => ⟨rfl, trivial⟩⟩ rfl rfl hl.1 rfl (lv_room (Nat.le_of_ble_eq_true rfl)) dX6_bestMove_29 ⟨(Nat.le_of_ble_eq_true rfl), (Nat.le_of_ble_eq_true rfl)⟩) (fun r29 er29 => ?_)
    obtain rfl := er29.symm
    refine pk_ti (y := 2) (congrArg nI hn) ?_
    refine lv_istore (lv' := [(6, .int 2), (4, .long (coth fa fb 1)), (2, .long (cown fa fb 1)), (1, .int (cside (pop (fa ||| fb)) 1)), (0, .ref h0)]) hx hb dX6_bestMove_32 hl (by decide) rfl (fun ls hl => ?_)
    refine lv_aload_n hx hb dX6_bestMove_34 rfl (lv_at hl 4 rfl) ?_
    refine va_get (D := D) (ci := 3) (v := .int 1) (C := RX6) (T := TX6) (N := 7) hx hb hts hinX6 hown hK hP 0 rfl rfl 5 (by decide) hfl72 (fun _ h9 => h9) rfl dX6_bestMove_35 ?_
    refine lv_if_eq (tgt := 56) hx hb dX6_bestMove_38 (by decide) (fun c38 => ?_) (fun c38 => ?_)
    · exact absurd c38 (by decide)
    · refine lv_aload_n hx hb dX6_bestMove_41 rfl (lv_at hl 4 rfl) ?_
      refine va_get (D := D) (ci := 3) (v := .ref fs) (C := RX6) (T := TX6) (N := 7) hx hb hts hinX6 hown hK hP 0 rfl rfl 1 (by decide) hfl24 (fun _ h9 => h9) rfl dX6_bestMove_42 ?_
      refine lv_lload_n hx hb dX6_bestMove_45 rfl (lv_at hl 2 rfl) ?_
      refine lv_lload hx hb dX6_bestMove_46 (lv_at hl 1 rfl) ?_
      refine lv_iload hx hb dX6_bestMove_48 (lv_at hl 0 rfl) ?_
      have hPc := hP.sub (ws' := [(fs, .inr (1, [.ref vt])), (vt, .inr (2, [.ref vf, .ref vv])), (vf, .inl (cJ, 1024, .inr (.inl fm))), (vv, .inl (cI, 1024, .inl vl))]) [1, 2, 3, 4] rfl
      have hDc := hD.sub (ws' := [(fs, .inr (1, [.ref vt])), (vt, .inr (2, [.ref vf, .ref vv])), (vf, .inl (cJ, 1024, .inr (.inl fm))), (vv, .inl (cI, 1024, .inl vl))]) [1, 2, 3, 4] (by decide) rfl
      have hFc := va_free (wc := [(fs, .inr (1, [.ref vt])), (vt, .inr (2, [.ref vf, .ref vv])), (vf, .inl (cJ, 1024, .inr (.inl fm))), (vv, .inl (cI, 1024, .inl vl))]) hD hS hA [1, 2, 3, 4] rfl
      refine va_calli (va_runV (As := [.long (cown fa fb 1), .long (coth fa fb 1), .int 2]) (rest := []) ⟨hx, hb, hml, hown, hts⟩ (c_X3_lowestBestTurn_f2 l D cI cJ H.size  fs vt vf vv fm vl hT (cown fa fb 1) (coth fa fb 1) hB) (cwV 3 hts gX6_bestMove_X3_lowestBestTurn rfl rfl rfl (by decide +kernel) ⟨Nat.le_of_ble_eq_true rfl, Nat.le_of_ble_eq_true rfl⟩) ⟨(px_blindE pv_blind), va_recv hK hPc (ci := 1) (q0 := 0) rfl rfl, fun U hU hW => ⟨rfl, hEN.warm hW, by rw [hU], by rw [hU]; exact hPc, va_K.moved hW.alike hK, hDc.weaken (fun _ _ _ _ => trivial)⟩⟩ rfl rfl hl.1 rfl (lv_room (Nat.le_of_ble_eq_true rfl)) dX6_bestMove_50 ⟨(Nat.le_of_ble_eq_true rfl), (Nat.le_of_ble_eq_true rfl)⟩) hS (fun q _ h => hFc q h) hFc (fun r50 u t9 H1 locs hth hvm hw50 hB hz1 hk1 hS => ?_)
      obtain ⟨fm50, vl50⟩ := u
      try dsimp only at hw50
      obtain ⟨hP1, hK1, hD1⟩ := hB
      rw [hth] at hP1
      obtain ⟨hP, hD⟩ := va_join (wr := [(h0, .inr (3, [.ref lg, .ref fs, .ref ps, .long fa, .long fb, .int 1, .int re]))]) (w1 := [(fs, .inr (1, [.ref vt])), (vt, .inr (2, [.ref vf, .ref vv])), (vf, .inl (cJ, 1024, .inr (.inl fm50))), (vv, .inl (cI, 1024, .inl vl50))]) hP hD [1, 2, 3, 4] [0] rfl rfl (by decide) (by decide) hk1 hFc hP1 hD1
      generalize H1 = H at hP hS ⊢
      have hP : va_P D vwCl [(h0, .inr (3, [.ref lg, .ref fs, .ref ps, .long fa, .long fb, .int 1, .int re])), (fs, .inr (1, [.ref vt])), (vt, .inr (2, [.ref vf, .ref vv])), (vf, .inl (cJ, 1024, .inr (.inl fm50))), (vv, .inl (cI, 1024, .inl vl50))] H := hP.sub (ws' := [(h0, .inr (3, [.ref lg, .ref fs, .ref ps, .long fa, .long fb, .int 1, .int re])), (fs, .inr (1, [.ref vt])), (vt, .inr (2, [.ref vf, .ref vv])), (vf, .inl (cJ, 1024, .inr (.inl fm50))), (vv, .inl (cI, 1024, .inl vl50))]) [0, 1, 2, 3, 4] rfl
      have hD : va_D A [(h0, .inr (3, [.ref lg, .ref fs, .ref ps, .long fa, .long fb, .int 1, .int re])), (fs, .inr (1, [.ref vt])), (vt, .inr (2, [.ref vf, .ref vv])), (vf, .inl (cJ, 1024, .inr (.inl fm50))), (vv, .inl (cI, 1024, .inl vl50))] := hD.sub (ws' := [(h0, .inr (3, [.ref lg, .ref fs, .ref ps, .long fa, .long fb, .int 1, .int re])), (fs, .inr (1, [.ref vt])), (vt, .inr (2, [.ref vf, .ref vv])), (vf, .inl (cJ, 1024, .inr (.inl fm50))), (vv, .inl (cI, 1024, .inl vl50))]) [0, 1, 2, 3, 4] (by decide) rfl
      obtain ⟨hv9, hT50⟩ := hw50
      obtain rfl := hv9.symm
      refine lv_goto (tgt := 68) hx hb dX6_bestMove_53 (by decide) ?_
      refine vx_ret ?_
      refine W.widen (k := 1) (n := 6) (Nat.le_of_ble_eq_true rfl) (Nat.le_of_ble_eq_true rfl) ?_
      refine W.iret (v := (nI (tlow (vput 2) (cown fa fb 1) (coth fa fb 1) 8).2)) hx hb hr (fun tt ht hW => ⟨⟨(nI (tlow (vput 2) (cown fa fb 1) (coth fa fb 1) 8).2), (fm50, vl50), rfl, ?_, by rw [ht]; exact hP, va_K.moved hW.alike hK, hD⟩, hS.F ht⟩) hS.2.2 dX6_bestMove_68
      exact ⟨hw1.1, hw1.2, by { rw [hn]; exact cbest_1.symm }, hT50⟩

set_option maxHeartbeats 400000 in
set_option maxRecDepth 100000 in
theorem c_X6_bestMove_3_1 (l : Launch) (hltr : l.stackTraces = false) (D : va_G) (cI cJ : ClassId) (sz : Nat) (h0 lg fs ps vt vf vv : Nat) (fa fb : Int64) (re : Int32) (fm : Nat → Int64) (vl : Nat → Int32) (hT : TI fm vl) (hp : 0 < pop (fa ||| fb)) (hn : pop (cempty fa fb) = 3) (hB : BH 3 (cown fa fb 1) (coth fa fb 1)) : vx_Met l yX6_bestMove wsX6_bestMove ({ frames := 16, cells := 1, slots := 6, locals := 465 } : Room) (va_Pc [.ref h0] (px_E (px_X (va_A [(h0, .inr (3, [.ref lg, .ref fs, .ref ps, .long fa, .long fb, .int 1, .int re])), (fs, .inr (1, [.ref vt])), (vt, .inr (2, [.ref vf, .ref vv])), (vf, .inl (cJ, 1024, .inr (.inl fm))), (vv, .inl (cI, 1024, .inl vl))] sz) (pv_C D cI cJ [(h0, .inr (3, [.ref lg, .ref fs, .ref ps, .long fa, .long fb, .int 1, .int re])), (fs, .inr (1, [.ref vt])), (vt, .inr (2, [.ref vf, .ref vv])), (vf, .inl (cJ, 1024, .inr (.inl fm))), (vv, .inl (cI, 1024, .inl vl))] sz)))) (va_Qi (fun (r : Int32) (u : (Nat → Int64) × (Nat → Int32)) => re = 0 ∧ pop (cempty fa fb) ≤ 3 ∧ r = cbest (pop (cempty fa fb)) fa fb 1 ∧ TI u.1 u.2) (fun (u : (Nat → Int64) × (Nat → Int32)) => pv_B D cI cJ (va_A [(h0, .inr (3, [.ref lg, .ref fs, .ref ps, .long fa, .long fb, .int 1, .int re])), (fs, .inr (1, [.ref vt])), (vt, .inr (2, [.ref vf, .ref vv])), (vf, .inl (cJ, 1024, .inr (.inl fm))), (vv, .inl (cI, 1024, .inl vl))] sz) [(h0, .inr (3, [.ref lg, .ref fs, .ref ps, .long fa, .long fb, .int 1, .int re])), (fs, .inr (1, [.ref vt])), (vt, .inr (2, [.ref vf, .ref vv])), (vf, .inl (cJ, 1024, .inr (.inl u.1))), (vv, .inl (cI, 1024, .inl u.2))]) (va_A [(h0, .inr (3, [.ref lg, .ref fs, .ref ps, .long fa, .long fb, .int 1, .int re])), (fs, .inr (1, [.ref vt])), (vt, .inr (2, [.ref vf, .ref vv])), (vf, .inl (cJ, 1024, .inr (.inl fm))), (vv, .inl (cI, 1024, .inl vl))] sz)) (vx_X (fun (_ : Unit) => True) (fun (E : String) (_ : Unit) (tt : State) => (E = nISE ∧ ¬ (re = 0 ∧ pop (cempty fa fb) ≤ 3)) ∧ pv_B D cI cJ (va_A [(h0, .inr (3, [.ref lg, .ref fs, .ref ps, .long fa, .long fb, .int 1, .int re])), (fs, .inr (1, [.ref vt])), (vt, .inr (2, [.ref vf, .ref vv])), (vf, .inl (cJ, 1024, .inr (.inl fm))), (vv, .inl (cI, 1024, .inl vl))] sz) [(h0, .inr (3, [.ref lg, .ref fs, .ref ps, .long fa, .long fb, .int 1, .int re])), (fs, .inr (1, [.ref vt])), (vt, .inr (2, [.ref vf, .ref vv])), (vf, .inl (cJ, 1024, .inr (.inl fm))), (vv, .inl (cI, 1024, .inl vl))] tt) (va_A [(h0, .inr (3, [.ref lg, .ref fs, .ref ps, .long fa, .long fb, .int 1, .int re])), (fs, .inr (1, [.ref vt])), (vt, .inr (2, [.ref vf, .ref vv])), (vf, .inl (cJ, 1024, .inr (.inl fm))), (vv, .inl (cI, 1024, .inl vl))] sz)) 1 6 (va_A [(h0, .inr (3, [.ref lg, .ref fs, .ref ps, .long fa, .long fb, .int 1, .int re])), (fs, .inr (1, [.ref vt])), (vt, .inr (2, [.ref vf, .ref vv])), (vf, .inl (cJ, 1024, .inr (.inl fm))), (vv, .inl (cI, 1024, .inl vl))] sz) := by
  refine vx_ofW (cc := cX6_bestMove) (maxL := 7) (ret := (some .int)) (by decide) rfl ?_
  intro p e s m args below meth c s₁ B hml htab hv
  obtain ⟨rfl, hEN, hEX, hZ, rfl, hP, hK, hD0⟩ := hv
  have hx := B.exec
  have hb := B.bytes
  have hr := B.returns
  have hts := atoms_spec (ws := wsX6_bestMove) B.pre
  have hown : s.vm.findClass RX6 = some m.cls := findClass_of_methodNamed B.named
  have hlocks := B.notSynchronized
  have hD := hD0.self (sz := s.heap.size)
  generalize hAe : va_A [(h0, .inr (3, [.ref lg, .ref fs, .ref ps, .long fa, .long fb, .int 1, .int re])), (fs, .inr (1, [.ref vt])), (vt, .inr (2, [.ref vf, .ref vv])), (vf, .inl (cJ, 1024, .inr (.inl fm))), (vv, .inl (cI, 1024, .inl vl))] s.heap.size = A at hD hZ ⊢
  have hA : ∀ q : Nat, s.heap.size ≤ q → A q := fun q h => by rw [← hAe]; exact Or.inr h
  have hS : va_S A s.heap s.heap [] := va_S.rf
  have hinX6 : ∀ w ∈ wsX60, w ∈ wsX6_bestMove := by decide +kernel
  have hfl72 : (Cond.fieldLink RX6 72 "Twistquad" "mustTurn" "Z").before ([.ref h0] : List Value).toArray s = true := hts _ (by decide +kernel)
  have hfl24 : (Cond.fieldLink RX6 24 "Twistquad" "formSolver" "LTwistquad$Solver;").before ([.ref h0] : List Value).toArray s = true := hts _ (by decide +kernel)
  have hl := lv_entry ([.ref h0]) (n := 7) (Nat.le_of_ble_eq_true rfl)
  rw [lg_entry_eq]
  generalize (lg_sl ([.ref h0]) ++ List.replicate (7 - (lg_sl ([.ref h0])).length) Slot.unset).toArray = ls at hl ⊢
  have hl : lv_has ls 7 [(0, .ref h0)] := hl
  refine lv_aload_n hx hb dX6_bestMove_0 rfl (lv_at hl 0 rfl) ?_
  have hPc : va_P D vwCl [(h0, .inr (3, [.ref lg, .ref fs, .ref ps, .long fa, .long fb, .int 1, .int re]))] s.heap := hP.sub (ws' := [(h0, .inr (3, [.ref lg, .ref fs, .ref ps, .long fa, .long fb, .int 1, .int re]))]) [0] rfl
  have hDc : va_D A [(h0, .inr (3, [.ref lg, .ref fs, .ref ps, .long fa, .long fb, .int 1, .int re]))] := hD.sub (ws' := [(h0, .inr (3, [.ref lg, .ref fs, .ref ps, .long fa, .long fb, .int 1, .int re]))]) [0] (by decide) rfl
  have hFc := va_free (wc := [(h0, .inr (3, [.ref lg, .ref fs, .ref ps, .long fa, .long fb, .int 1, .int re]))]) hD hS hA [0] rfl
  refine vx_callv (vx_runV (As := []) (rest := []) ⟨hx, hb, hml, hown, hts⟩ (c_X6_requireSolvable l hltr D cI cJ s.heap.size  h0 lg fs ps fa fb 1 re ) (cwV 0 hts gX6_bestMove_X6_requireSolvable rfl rfl rfl (by decide +kernel) ⟨Nat.le_of_ble_eq_true rfl, Nat.le_of_ble_eq_true rfl⟩) ⟨(px_blindX pv_blind), va_recv hK hPc (ci := 3) (q0 := 0) rfl rfl, fun U hU hW => ⟨rfl, hEX.warm hW, by rw [hU]; exact hZ.to hS hW.alike hFc, by rw [hU], by rw [hU]; exact hPc, va_K.moved hW.alike hK, hDc.weaken (fun _ _ _ _ => trivial)⟩⟩ rfl rfl hl.1 rfl (lv_room (Nat.le_of_ble_eq_true rfl)) dX6_bestMove_1 ⟨(Nat.le_of_ble_eq_true rfl), (Nat.le_of_ble_eq_true rfl)⟩) hS (fun q _ h => hFc q h) hFc (fun q _ h => hFc q h) (fun E ce q9 u9 t9 H1 locs hth hvm hpx hB9 hz1 hk1 hS hce hcv hcl => ?_) (fun u t9 H1 locs hth hvm hw1 hB9 hz1 hk1 hS => ?_)
  · obtain ⟨hb9, hP1, hK1, hD1⟩ := hB9
    rw [hth] at hP1
    obtain ⟨hP, hD⟩ := va_join (wr := [(fs, .inr (1, [.ref vt])), (vt, .inr (2, [.ref vf, .ref vv])), (vf, .inl (cJ, 1024, .inr (.inl fm))), (vv, .inl (cI, 1024, .inl vl))]) (w1 := [(h0, .inr (3, [.ref lg, .ref fs, .ref ps, .long fa, .long fb, .int 1, .int re]))]) hP hD [0] [1, 2, 3, 4] rfl rfl (by decide) (by decide) hk1 hFc hP1 hD1
    have hP : va_P D vwCl [(h0, .inr (3, [.ref lg, .ref fs, .ref ps, .long fa, .long fb, .int 1, .int re])), (fs, .inr (1, [.ref vt])), (vt, .inr (2, [.ref vf, .ref vv])), (vf, .inl (cJ, 1024, .inr (.inl fm))), (vv, .inl (cI, 1024, .inl vl))] H1 := hP.sub (ws' := [(h0, .inr (3, [.ref lg, .ref fs, .ref ps, .long fa, .long fb, .int 1, .int re])), (fs, .inr (1, [.ref vt])), (vt, .inr (2, [.ref vf, .ref vv])), (vf, .inl (cJ, 1024, .inr (.inl fm))), (vv, .inl (cI, 1024, .inl vl))]) [4, 0, 1, 2, 3] rfl
    have hD : va_D A [(h0, .inr (3, [.ref lg, .ref fs, .ref ps, .long fa, .long fb, .int 1, .int re])), (fs, .inr (1, [.ref vt])), (vt, .inr (2, [.ref vf, .ref vv])), (vf, .inl (cJ, 1024, .inr (.inl fm))), (vv, .inl (cI, 1024, .inl vl))] := hD.sub (ws' := [(h0, .inr (3, [.ref lg, .ref fs, .ref ps, .long fa, .long fb, .int 1, .int re])), (fs, .inr (1, [.ref vt])), (vt, .inr (2, [.ref vf, .ref vv])), (vf, .inl (cJ, 1024, .inr (.inl fm))), (vv, .inl (cI, 1024, .inl vl))]) [4, 0, 1, 2, 3] (by decide) rfl
    exact vx_out (fun x h => (htab x h).elim) hlocks hce hcv hcl (fun tt htt hvt => ⟨(), trivial, ⟨hb9, by rw [htt]; exact hP, va_K.moved hvt hK, hD⟩, hS.F htt⟩) hS.2.2 (Nat.le_of_ble_eq_true rfl) (Nat.le_of_ble_eq_true rfl)
  · try dsimp only at hw1
    obtain ⟨hP1, hK1, hD1⟩ := hB9
    rw [hth] at hP1
    obtain ⟨hP, hD⟩ := va_join (wr := [(fs, .inr (1, [.ref vt])), (vt, .inr (2, [.ref vf, .ref vv])), (vf, .inl (cJ, 1024, .inr (.inl fm))), (vv, .inl (cI, 1024, .inl vl))]) (w1 := [(h0, .inr (3, [.ref lg, .ref fs, .ref ps, .long fa, .long fb, .int 1, .int re]))]) hP hD [0] [1, 2, 3, 4] rfl rfl (by decide) (by decide) hk1 hFc hP1 hD1
    generalize H1 = H at hP hS ⊢
    have hP : va_P D vwCl [(h0, .inr (3, [.ref lg, .ref fs, .ref ps, .long fa, .long fb, .int 1, .int re])), (fs, .inr (1, [.ref vt])), (vt, .inr (2, [.ref vf, .ref vv])), (vf, .inl (cJ, 1024, .inr (.inl fm))), (vv, .inl (cI, 1024, .inl vl))] H := hP.sub (ws' := [(h0, .inr (3, [.ref lg, .ref fs, .ref ps, .long fa, .long fb, .int 1, .int re])), (fs, .inr (1, [.ref vt])), (vt, .inr (2, [.ref vf, .ref vv])), (vf, .inl (cJ, 1024, .inr (.inl fm))), (vv, .inl (cI, 1024, .inl vl))]) [4, 0, 1, 2, 3] rfl
    have hD : va_D A [(h0, .inr (3, [.ref lg, .ref fs, .ref ps, .long fa, .long fb, .int 1, .int re])), (fs, .inr (1, [.ref vt])), (vt, .inr (2, [.ref vf, .ref vv])), (vf, .inl (cJ, 1024, .inr (.inl fm))), (vv, .inl (cI, 1024, .inl vl))] := hD.sub (ws' := [(h0, .inr (3, [.ref lg, .ref fs, .ref ps, .long fa, .long fb, .int 1, .int re])), (fs, .inr (1, [.ref vt])), (vt, .inr (2, [.ref vf, .ref vv])), (vf, .inl (cJ, 1024, .inr (.inl fm))), (vv, .inl (cI, 1024, .inl vl))]) [4, 0, 1, 2, 3] (by decide) rfl
    refine lv_aload_n hx hb dX6_bestMove_4 rfl (lv_at hl 0 rfl) ?_
    refine vp_callSi (W.runV (As := []) (rest := []) ⟨hx, hb, hml, hown, hts⟩ (c_X6_sideToAct l D cI cJ h0 lg fs ps fa fb 1 re (Or.inr hp)) (cwV 0 hts gX6_bestMove_X6_sideToAct rfl rfl rfl (by decide +kernel) ⟨Nat.le_of_ble_eq_true rfl, Nat.le_of_ble_eq_true rfl⟩) ⟨px_blindW, va_recv hK hP (ci := 3) (q0 := 0) rfl rfl, fun U hU hW => ⟨rfl, by rw [hU]; exact hP.sub (ws' := [(h0, .inr (3, [.ref lg, .ref fs, .ref ps, .long fa, .long fb, .int 1, .int re]))]) [0] rfl, va_K.moved hW.alike hK⟩⟩ rfl rfl hl.1 rfl (lv_room (Nat.le_of_ble_eq_true rfl)) dX6_bestMove_5 ⟨(Nat.le_of_ble_eq_true rfl), (Nat.le_of_ble_eq_true rfl)⟩) (fun r5 er5 => ?_)
    obtain rfl := er5.symm
    refine lv_istore_n (lv' := [(1, .int (cside (pop (fa ||| fb)) 1)), (0, .ref h0)]) hx hb dX6_bestMove_8 rfl hl (by decide) rfl (fun ls hl => ?_)
    refine lv_aload_n hx hb dX6_bestMove_9 rfl (lv_at hl 1 rfl) ?_
    refine lv_iload_n hx hb dX6_bestMove_10 rfl (lv_at hl 0 rfl) ?_
    refine vp_callSl (W.runV (As := [.int (cside (pop (fa ||| fb)) 1)]) (rest := []) ⟨hx, hb, hml, hown, hts⟩ (c_X6_marblesOf l D cI cJ h0 lg fs ps fa fb 1 re (cside (pop (fa ||| fb)) 1)) (cwV 1 hts gX6_bestMove_X6_marblesOf rfl rfl rfl (by decide +kernel) ⟨Nat.le_of_ble_eq_true rfl, Nat.le_of_ble_eq_true rfl⟩) ⟨px_blindW, va_recv hK hP (ci := 3) (q0 := 0) rfl rfl, fun U hU hW => ⟨rfl, by rw [hU]; exact hP.sub (ws' := [(h0, .inr (3, [.ref lg, .ref fs, .ref ps, .long fa, .long fb, .int 1, .int re]))]) [0] rfl, va_K.moved hW.alike hK⟩⟩ rfl rfl hl.1 rfl (lv_room (Nat.le_of_ble_eq_true rfl)) dX6_bestMove_11 ⟨(Nat.le_of_ble_eq_true rfl), (Nat.le_of_ble_eq_true rfl)⟩) (fun r11 er11 => ?_)
    obtain rfl := er11.symm
    refine pk_tl (y := (cown fa fb 1)) (rfl) ?_
    refine lv_lstore_n (lv' := [(2, .long (cown fa fb 1)), (1, .int (cside (pop (fa ||| fb)) 1)), (0, .ref h0)]) hx hb dX6_bestMove_14 rfl hl (by decide) rfl (fun ls hl => ?_)
    refine lv_aload_n hx hb dX6_bestMove_15 rfl (lv_at hl 2 rfl) ?_
    refine lv_iload_n hx hb dX6_bestMove_16 rfl (lv_at hl 1 rfl) ?_
    refine vp_callSi (W.runS (As := [.int (cside (pop (fa ||| fb)) 1)]) (rest := [.ref h0]) ⟨hx, hb, hml, hown, hts⟩ (c_X6_otherSide l (cside (pop (fa ||| fb)) 1)) (va_cwS 1 hts gX6_bestMove_X6_otherSide rfl rfl rfl (by decide +kernel) ⟨Nat.le_of_ble_eq_true rfl, Nat.le_of_ble_eq_true rfl⟩) ⟨px_blind0, fun U hU hW => ⟨rfl, trivial⟩⟩ rfl rfl hl.1 rfl (lv_room (Nat.le_of_ble_eq_true rfl)) dX6_bestMove_17 ⟨(Nat.le_of_ble_eq_true rfl), (Nat.le_of_ble_eq_true rfl)⟩) (fun r17 er17 => ?_)
    obtain rfl := er17.symm
    refine vp_callSl (W.runV (As := [.int (if (cside (pop (fa ||| fb)) 1) = 1 then 2 else 1)]) (rest := []) ⟨hx, hb, hml, hown, hts⟩ (c_X6_marblesOf l D cI cJ h0 lg fs ps fa fb 1 re (if (cside (pop (fa ||| fb)) 1) = 1 then 2 else 1)) (cwV 1 hts gX6_bestMove_X6_marblesOf rfl rfl rfl (by decide +kernel) ⟨Nat.le_of_ble_eq_true rfl, Nat.le_of_ble_eq_true rfl⟩) ⟨px_blindW, va_recv hK hP (ci := 3) (q0 := 0) rfl rfl, fun U hU hW => ⟨rfl, by rw [hU]; exact hP.sub (ws' := [(h0, .inr (3, [.ref lg, .ref fs, .ref ps, .long fa, .long fb, .int 1, .int re]))]) [0] rfl, va_K.moved hW.alike hK⟩⟩ rfl rfl hl.1 rfl (lv_room (Nat.le_of_ble_eq_true rfl)) dX6_bestMove_20 ⟨(Nat.le_of_ble_eq_true rfl), (Nat.le_of_ble_eq_true rfl)⟩) (fun r20 er20 => ?_)
    obtain rfl := er20.symm
    refine pk_tl (y := (coth fa fb 1)) (rfl) ?_
    refine lv_lstore (lv' := [(4, .long (coth fa fb 1)), (2, .long (cown fa fb 1)), (1, .int (cside (pop (fa ||| fb)) 1)), (0, .ref h0)]) hx hb dX6_bestMove_23 hl (by decide) rfl (fun ls hl => ?_)
    refine lv_aload_n hx hb dX6_bestMove_25 rfl (lv_at hl 3 rfl) ?_
    refine vp_callSl (W.runV (As := []) (rest := []) ⟨hx, hb, hml, hown, hts⟩ (c_X6_emptyCells l D cI cJ h0 lg fs ps fa fb 1 re ) (cwV 0 hts gX6_bestMove_X6_emptyCells rfl rfl rfl (by decide +kernel) ⟨Nat.le_of_ble_eq_true rfl, Nat.le_of_ble_eq_true rfl⟩) ⟨px_blindW, va_recv hK hP (ci := 3) (q0 := 0) rfl rfl, fun U hU hW => ⟨rfl, by rw [hU]; exact hP.sub (ws' := [(h0, .inr (3, [.ref lg, .ref fs, .ref ps, .long fa, .long fb, .int 1, .int re]))]) [0] rfl, va_K.moved hW.alike hK⟩⟩ rfl rfl hl.1 rfl (lv_room (Nat.le_of_ble_eq_true rfl)) dX6_bestMove_26 ⟨(Nat.le_of_ble_eq_true rfl), (Nat.le_of_ble_eq_true rfl)⟩) (fun r26 er26 => ?_)
    obtain rfl := er26.symm
    refine vp_callSi (W.runS (As := [.long (cempty fa fb)]) (rest := []) ⟨hx, hb, hml, hown, hts⟩ (c_J13_bitCount_95d88 l (cempty fa fb)) (va_cwS 1 hts gX6_bestMove_J13_bitCount_95d88 rfl rfl rfl (by decide +kernel) ⟨Nat.le_of_ble_eq_true rfl, Nat.le_of_ble_eq_true rfl⟩) ⟨px_blind0, fun U hU hW => ⟨rfl, trivial⟩⟩ rfl rfl hl.1 rfl (lv_room (Nat.le_of_ble_eq_true rfl)) dX6_bestMove_29 ⟨(Nat.le_of_ble_eq_true rfl), (Nat.le_of_ble_eq_true rfl)⟩) (fun r29 er29 => ?_)
    obtain rfl := er29.symm
    refine pk_ti (y := 3) (congrArg nI hn) ?_
    refine lv_istore (lv' := [(6, .int 3), (4, .long (coth fa fb 1)), (2, .long (cown fa fb 1)), (1, .int (cside (pop (fa ||| fb)) 1)), (0, .ref h0)]) hx hb dX6_bestMove_32 hl (by decide) rfl (fun ls hl => ?_)
    refine lv_aload_n hx hb dX6_bestMove_34 rfl (lv_at hl 4 rfl) ?_
    refine va_get (D := D) (ci := 3) (v := .int 1) (C := RX6) (T := TX6) (N := 7) hx hb hts hinX6 hown hK hP 0 rfl rfl 5 (by decide) hfl72 (fun _ h9 => h9) rfl dX6_bestMove_35 ?_
    refine lv_if_eq (tgt := 56) hx hb dX6_bestMove_38 (by decide) (fun c38 => ?_) (fun c38 => ?_)
    · exact absurd c38 (by decide)
    · refine lv_aload_n hx hb dX6_bestMove_41 rfl (lv_at hl 4 rfl) ?_
      refine va_get (D := D) (ci := 3) (v := .ref fs) (C := RX6) (T := TX6) (N := 7) hx hb hts hinX6 hown hK hP 0 rfl rfl 1 (by decide) hfl24 (fun _ h9 => h9) rfl dX6_bestMove_42 ?_
      refine lv_lload_n hx hb dX6_bestMove_45 rfl (lv_at hl 2 rfl) ?_
      refine lv_lload hx hb dX6_bestMove_46 (lv_at hl 1 rfl) ?_
      refine lv_iload hx hb dX6_bestMove_48 (lv_at hl 0 rfl) ?_
      have hPc := hP.sub (ws' := [(fs, .inr (1, [.ref vt])), (vt, .inr (2, [.ref vf, .ref vv])), (vf, .inl (cJ, 1024, .inr (.inl fm))), (vv, .inl (cI, 1024, .inl vl))]) [1, 2, 3, 4] rfl
      have hDc := hD.sub (ws' := [(fs, .inr (1, [.ref vt])), (vt, .inr (2, [.ref vf, .ref vv])), (vf, .inl (cJ, 1024, .inr (.inl fm))), (vv, .inl (cI, 1024, .inl vl))]) [1, 2, 3, 4] (by decide) rfl
      have hFc := va_free (wc := [(fs, .inr (1, [.ref vt])), (vt, .inr (2, [.ref vf, .ref vv])), (vf, .inl (cJ, 1024, .inr (.inl fm))), (vv, .inl (cI, 1024, .inl vl))]) hD hS hA [1, 2, 3, 4] rfl
      refine va_calli (va_runV (As := [.long (cown fa fb 1), .long (coth fa fb 1), .int 3]) (rest := []) ⟨hx, hb, hml, hown, hts⟩ (c_X3_lowestBestTurn_f3 l D cI cJ H.size  fs vt vf vv fm vl hT (cown fa fb 1) (coth fa fb 1) hB) (cwV 3 hts gX6_bestMove_X3_lowestBestTurn rfl rfl rfl (by decide +kernel) ⟨Nat.le_of_ble_eq_true rfl, Nat.le_of_ble_eq_true rfl⟩) ⟨(px_blindE pv_blind), va_recv hK hPc (ci := 1) (q0 := 0) rfl rfl, fun U hU hW => ⟨rfl, hEN.warm hW, by rw [hU], by rw [hU]; exact hPc, va_K.moved hW.alike hK, hDc.weaken (fun _ _ _ _ => trivial)⟩⟩ rfl rfl hl.1 rfl (lv_room (Nat.le_of_ble_eq_true rfl)) dX6_bestMove_50 ⟨(Nat.le_of_ble_eq_true rfl), (Nat.le_of_ble_eq_true rfl)⟩) hS (fun q _ h => hFc q h) hFc (fun r50 u t9 H1 locs hth hvm hw50 hB hz1 hk1 hS => ?_)
      obtain ⟨fm50, vl50⟩ := u
      try dsimp only at hw50
      obtain ⟨hP1, hK1, hD1⟩ := hB
      rw [hth] at hP1
      obtain ⟨hP, hD⟩ := va_join (wr := [(h0, .inr (3, [.ref lg, .ref fs, .ref ps, .long fa, .long fb, .int 1, .int re]))]) (w1 := [(fs, .inr (1, [.ref vt])), (vt, .inr (2, [.ref vf, .ref vv])), (vf, .inl (cJ, 1024, .inr (.inl fm50))), (vv, .inl (cI, 1024, .inl vl50))]) hP hD [1, 2, 3, 4] [0] rfl rfl (by decide) (by decide) hk1 hFc hP1 hD1
      generalize H1 = H at hP hS ⊢
      have hP : va_P D vwCl [(h0, .inr (3, [.ref lg, .ref fs, .ref ps, .long fa, .long fb, .int 1, .int re])), (fs, .inr (1, [.ref vt])), (vt, .inr (2, [.ref vf, .ref vv])), (vf, .inl (cJ, 1024, .inr (.inl fm50))), (vv, .inl (cI, 1024, .inl vl50))] H := hP.sub (ws' := [(h0, .inr (3, [.ref lg, .ref fs, .ref ps, .long fa, .long fb, .int 1, .int re])), (fs, .inr (1, [.ref vt])), (vt, .inr (2, [.ref vf, .ref vv])), (vf, .inl (cJ, 1024, .inr (.inl fm50))), (vv, .inl (cI, 1024, .inl vl50))]) [0, 1, 2, 3, 4] rfl
      have hD : va_D A [(h0, .inr (3, [.ref lg, .ref fs, .ref ps, .long fa, .long fb, .int 1, .int re])), (fs, .inr (1, [.ref vt])), (vt, .inr (2, [.ref vf, .ref vv])), (vf, .inl (cJ, 1024, .inr (.inl fm50))), (vv, .inl (cI, 1024, .inl vl50))] := hD.sub (ws' := [(h0, .inr (3, [.ref lg, .ref fs, .ref ps, .long fa, .long fb, .int 1, .int re])), (fs, .inr (1, [.ref vt])), (vt, .inr (2, [.ref vf, .ref vv])), (vf, .inl (cJ, 1024, .inr (.inl fm50))), (vv, .inl (cI, 1024, .inl vl50))]) [0, 1, 2, 3, 4] (by decide) rfl
      obtain ⟨hv9, hT50⟩ := hw50
      obtain rfl := hv9.symm
      refine lv_goto (tgt := 68) hx hb dX6_bestMove_53 (by decide) ?_
      refine vx_ret ?_
      refine W.widen (k := 1) (n := 6) (Nat.le_of_ble_eq_true rfl) (Nat.le_of_ble_eq_true rfl) ?_
      refine W.iret (v := (nI (tlow (vput 3) (cown fa fb 1) (coth fa fb 1) 8).2)) hx hb hr (fun tt ht hW => ⟨⟨(nI (tlow (vput 3) (cown fa fb 1) (coth fa fb 1) 8).2), (fm50, vl50), rfl, ?_, by rw [ht]; exact hP, va_K.moved hW.alike hK, hD⟩, hS.F ht⟩) hS.2.2 dX6_bestMove_68
      exact ⟨hw1.1, hw1.2, by { rw [hn]; exact cbest_1.symm }, hT50⟩

set_option maxHeartbeats 400000 in
set_option maxRecDepth 100000 in
theorem c_X6_bestMove_big_1 (l : Launch) (hltr : l.stackTraces = false) (D : va_G) (cI cJ : ClassId) (sz : Nat) (h0 lg fs ps vt vf vv : Nat) (fa fb : Int64) (re : Int32) (fm : Nat → Int64) (vl : Nat → Int32) (hT : TI fm vl) (hp : 0 < pop (fa ||| fb)) (hn : 3 < pop (cempty fa fb) ∨ ¬ re = 0) : vx_Met l yX6_bestMove wsX6_bestMove ({ frames := 16, cells := 1, slots := 6, locals := 465 } : Room) (va_Pc [.ref h0] (px_E (px_X (va_A [(h0, .inr (3, [.ref lg, .ref fs, .ref ps, .long fa, .long fb, .int 1, .int re])), (fs, .inr (1, [.ref vt])), (vt, .inr (2, [.ref vf, .ref vv])), (vf, .inl (cJ, 1024, .inr (.inl fm))), (vv, .inl (cI, 1024, .inl vl))] sz) (pv_C D cI cJ [(h0, .inr (3, [.ref lg, .ref fs, .ref ps, .long fa, .long fb, .int 1, .int re])), (fs, .inr (1, [.ref vt])), (vt, .inr (2, [.ref vf, .ref vv])), (vf, .inl (cJ, 1024, .inr (.inl fm))), (vv, .inl (cI, 1024, .inl vl))] sz)))) (va_Qi (fun (r : Int32) (u : (Nat → Int64) × (Nat → Int32)) => re = 0 ∧ pop (cempty fa fb) ≤ 3 ∧ r = cbest (pop (cempty fa fb)) fa fb 1 ∧ TI u.1 u.2) (fun (u : (Nat → Int64) × (Nat → Int32)) => pv_B D cI cJ (va_A [(h0, .inr (3, [.ref lg, .ref fs, .ref ps, .long fa, .long fb, .int 1, .int re])), (fs, .inr (1, [.ref vt])), (vt, .inr (2, [.ref vf, .ref vv])), (vf, .inl (cJ, 1024, .inr (.inl fm))), (vv, .inl (cI, 1024, .inl vl))] sz) [(h0, .inr (3, [.ref lg, .ref fs, .ref ps, .long fa, .long fb, .int 1, .int re])), (fs, .inr (1, [.ref vt])), (vt, .inr (2, [.ref vf, .ref vv])), (vf, .inl (cJ, 1024, .inr (.inl u.1))), (vv, .inl (cI, 1024, .inl u.2))]) (va_A [(h0, .inr (3, [.ref lg, .ref fs, .ref ps, .long fa, .long fb, .int 1, .int re])), (fs, .inr (1, [.ref vt])), (vt, .inr (2, [.ref vf, .ref vv])), (vf, .inl (cJ, 1024, .inr (.inl fm))), (vv, .inl (cI, 1024, .inl vl))] sz)) (vx_X (fun (_ : Unit) => True) (fun (E : String) (_ : Unit) (tt : State) => (E = nISE ∧ ¬ (re = 0 ∧ pop (cempty fa fb) ≤ 3)) ∧ pv_B D cI cJ (va_A [(h0, .inr (3, [.ref lg, .ref fs, .ref ps, .long fa, .long fb, .int 1, .int re])), (fs, .inr (1, [.ref vt])), (vt, .inr (2, [.ref vf, .ref vv])), (vf, .inl (cJ, 1024, .inr (.inl fm))), (vv, .inl (cI, 1024, .inl vl))] sz) [(h0, .inr (3, [.ref lg, .ref fs, .ref ps, .long fa, .long fb, .int 1, .int re])), (fs, .inr (1, [.ref vt])), (vt, .inr (2, [.ref vf, .ref vv])), (vf, .inl (cJ, 1024, .inr (.inl fm))), (vv, .inl (cI, 1024, .inl vl))] tt) (va_A [(h0, .inr (3, [.ref lg, .ref fs, .ref ps, .long fa, .long fb, .int 1, .int re])), (fs, .inr (1, [.ref vt])), (vt, .inr (2, [.ref vf, .ref vv])), (vf, .inl (cJ, 1024, .inr (.inl fm))), (vv, .inl (cI, 1024, .inl vl))] sz)) 1 6 (va_A [(h0, .inr (3, [.ref lg, .ref fs, .ref ps, .long fa, .long fb, .int 1, .int re])), (fs, .inr (1, [.ref vt])), (vt, .inr (2, [.ref vf, .ref vv])), (vf, .inl (cJ, 1024, .inr (.inl fm))), (vv, .inl (cI, 1024, .inl vl))] sz) := by
  refine vx_ofW (cc := cX6_bestMove) (maxL := 7) (ret := (some .int)) (by decide) rfl ?_
  intro p e s m args below meth c s₁ B hml htab hv
  obtain ⟨rfl, hEN, hEX, hZ, rfl, hP, hK, hD0⟩ := hv
  have hx := B.exec
  have hb := B.bytes
  have hr := B.returns
  have hts := atoms_spec (ws := wsX6_bestMove) B.pre
  have hown : s.vm.findClass RX6 = some m.cls := findClass_of_methodNamed B.named
  have hlocks := B.notSynchronized
  have hD := hD0.self (sz := s.heap.size)
  generalize hAe : va_A [(h0, .inr (3, [.ref lg, .ref fs, .ref ps, .long fa, .long fb, .int 1, .int re])), (fs, .inr (1, [.ref vt])), (vt, .inr (2, [.ref vf, .ref vv])), (vf, .inl (cJ, 1024, .inr (.inl fm))), (vv, .inl (cI, 1024, .inl vl))] s.heap.size = A at hD hZ ⊢
  have hA : ∀ q : Nat, s.heap.size ≤ q → A q := fun q h => by rw [← hAe]; exact Or.inr h
  have hS : va_S A s.heap s.heap [] := va_S.rf
  have hl := lv_entry ([.ref h0]) (n := 7) (Nat.le_of_ble_eq_true rfl)
  rw [lg_entry_eq]
  generalize (lg_sl ([.ref h0]) ++ List.replicate (7 - (lg_sl ([.ref h0])).length) Slot.unset).toArray = ls at hl ⊢
  have hl : lv_has ls 7 [(0, .ref h0)] := hl
  refine lv_aload_n hx hb dX6_bestMove_0 rfl (lv_at hl 0 rfl) ?_
  have hPc : va_P D vwCl [(h0, .inr (3, [.ref lg, .ref fs, .ref ps, .long fa, .long fb, .int 1, .int re]))] s.heap := hP.sub (ws' := [(h0, .inr (3, [.ref lg, .ref fs, .ref ps, .long fa, .long fb, .int 1, .int re]))]) [0] rfl
  have hDc : va_D A [(h0, .inr (3, [.ref lg, .ref fs, .ref ps, .long fa, .long fb, .int 1, .int re]))] := hD.sub (ws' := [(h0, .inr (3, [.ref lg, .ref fs, .ref ps, .long fa, .long fb, .int 1, .int re]))]) [0] (by decide) rfl
  have hFc := va_free (wc := [(h0, .inr (3, [.ref lg, .ref fs, .ref ps, .long fa, .long fb, .int 1, .int re]))]) hD hS hA [0] rfl
  refine vx_callv (vx_runV (As := []) (rest := []) ⟨hx, hb, hml, hown, hts⟩ (c_X6_requireSolvable l hltr D cI cJ s.heap.size  h0 lg fs ps fa fb 1 re ) (cwV 0 hts gX6_bestMove_X6_requireSolvable rfl rfl rfl (by decide +kernel) ⟨Nat.le_of_ble_eq_true rfl, Nat.le_of_ble_eq_true rfl⟩) ⟨(px_blindX pv_blind), va_recv hK hPc (ci := 3) (q0 := 0) rfl rfl, fun U hU hW => ⟨rfl, hEX.warm hW, by rw [hU]; exact hZ.to hS hW.alike hFc, by rw [hU], by rw [hU]; exact hPc, va_K.moved hW.alike hK, hDc.weaken (fun _ _ _ _ => trivial)⟩⟩ rfl rfl hl.1 rfl (lv_room (Nat.le_of_ble_eq_true rfl)) dX6_bestMove_1 ⟨(Nat.le_of_ble_eq_true rfl), (Nat.le_of_ble_eq_true rfl)⟩) hS (fun q _ h => hFc q h) hFc (fun q _ h => hFc q h) (fun E ce q9 u9 t9 H1 locs hth hvm hpx hB9 hz1 hk1 hS hce hcv hcl => ?_) (fun u t9 H1 locs hth hvm hw1 hB9 hz1 hk1 hS => ?_)
  · obtain ⟨hb9, hP1, hK1, hD1⟩ := hB9
    rw [hth] at hP1
    obtain ⟨hP, hD⟩ := va_join (wr := [(fs, .inr (1, [.ref vt])), (vt, .inr (2, [.ref vf, .ref vv])), (vf, .inl (cJ, 1024, .inr (.inl fm))), (vv, .inl (cI, 1024, .inl vl))]) (w1 := [(h0, .inr (3, [.ref lg, .ref fs, .ref ps, .long fa, .long fb, .int 1, .int re]))]) hP hD [0] [1, 2, 3, 4] rfl rfl (by decide) (by decide) hk1 hFc hP1 hD1
    have hP : va_P D vwCl [(h0, .inr (3, [.ref lg, .ref fs, .ref ps, .long fa, .long fb, .int 1, .int re])), (fs, .inr (1, [.ref vt])), (vt, .inr (2, [.ref vf, .ref vv])), (vf, .inl (cJ, 1024, .inr (.inl fm))), (vv, .inl (cI, 1024, .inl vl))] H1 := hP.sub (ws' := [(h0, .inr (3, [.ref lg, .ref fs, .ref ps, .long fa, .long fb, .int 1, .int re])), (fs, .inr (1, [.ref vt])), (vt, .inr (2, [.ref vf, .ref vv])), (vf, .inl (cJ, 1024, .inr (.inl fm))), (vv, .inl (cI, 1024, .inl vl))]) [4, 0, 1, 2, 3] rfl
    have hD : va_D A [(h0, .inr (3, [.ref lg, .ref fs, .ref ps, .long fa, .long fb, .int 1, .int re])), (fs, .inr (1, [.ref vt])), (vt, .inr (2, [.ref vf, .ref vv])), (vf, .inl (cJ, 1024, .inr (.inl fm))), (vv, .inl (cI, 1024, .inl vl))] := hD.sub (ws' := [(h0, .inr (3, [.ref lg, .ref fs, .ref ps, .long fa, .long fb, .int 1, .int re])), (fs, .inr (1, [.ref vt])), (vt, .inr (2, [.ref vf, .ref vv])), (vf, .inl (cJ, 1024, .inr (.inl fm))), (vv, .inl (cI, 1024, .inl vl))]) [4, 0, 1, 2, 3] (by decide) rfl
    exact vx_out (fun x h => (htab x h).elim) hlocks hce hcv hcl (fun tt htt hvt => ⟨(), trivial, ⟨hb9, by rw [htt]; exact hP, va_K.moved hvt hK, hD⟩, hS.F htt⟩) hS.2.2 (Nat.le_of_ble_eq_true rfl) (Nat.le_of_ble_eq_true rfl)
  · try dsimp only at hw1
    exact absurd hw1 (fun h => hn.elim (fun h2 => absurd h.2 (by omega)) (fun h2 => h2 h.1))
