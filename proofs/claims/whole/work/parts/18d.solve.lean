set_option maxHeartbeats 400000 in
set_option maxRecDepth 100000 in
theorem c_X6_solveWith_f0_0 (l : Launch) (D : va_G) (cI cJ : ClassId) (sz : Nat) (h0 lg fs ps vt vf vv : Nat) (fa fb : Int64) (re : Int32) (fm : Nat → Int64) (vl : Nat → Int32) (hT : TI fm vl)  (hn : pop (cempty fa fb) = 0) (hB : BV 0 (cown fa fb 0) (coth fa fb 0)) : Met l yX6_solveWith wsX6_solveWith ({ frames := 16, cells := 0, slots := 0, locals := 463 } : Room) (va_Pc [.ref h0, .ref fs] (px_E (pv_C D cI cJ [(h0, .inr (3, [.ref lg, .ref fs, .ref ps, .long fa, .long fb, .int 0, .int re])), (fs, .inr (1, [.ref vt])), (vt, .inr (2, [.ref vf, .ref vv])), (vf, .inl (cJ, 1024, .inr (.inl fm))), (vv, .inl (cI, 1024, .inl vl))] sz))) (va_Qi (fun (r : Int32) (u : (Nat → Int64) × (Nat → Int32)) => r = vput 0 (cown fa fb 0) (coth fa fb 0) ∧ TI u.1 u.2) (fun (u : (Nat → Int64) × (Nat → Int32)) => pv_B D cI cJ (va_A [(h0, .inr (3, [.ref lg, .ref fs, .ref ps, .long fa, .long fb, .int 0, .int re])), (fs, .inr (1, [.ref vt])), (vt, .inr (2, [.ref vf, .ref vv])), (vf, .inl (cJ, 1024, .inr (.inl fm))), (vv, .inl (cI, 1024, .inl vl))] sz) [(h0, .inr (3, [.ref lg, .ref fs, .ref ps, .long fa, .long fb, .int 0, .int re])), (fs, .inr (1, [.ref vt])), (vt, .inr (2, [.ref vf, .ref vv])), (vf, .inl (cJ, 1024, .inr (.inl u.1))), (vv, .inl (cI, 1024, .inl u.2))]) (va_A [(h0, .inr (3, [.ref lg, .ref fs, .ref ps, .long fa, .long fb, .int 0, .int re])), (fs, .inr (1, [.ref vt])), (vt, .inr (2, [.ref vf, .ref vv])), (vf, .inl (cJ, 1024, .inr (.inl fm))), (vv, .inl (cI, 1024, .inl vl))] sz)) 0 0 (va_A [(h0, .inr (3, [.ref lg, .ref fs, .ref ps, .long fa, .long fb, .int 0, .int re])), (fs, .inr (1, [.ref vt])), (vt, .inr (2, [.ref vf, .ref vv])), (vf, .inl (cJ, 1024, .inr (.inl fm))), (vv, .inl (cI, 1024, .inl vl))] sz) := by
  refine Met.ofW (cc := cX6_solveWith) (maxL := 8) (ret := (some .int)) (by decide) rfl ?_
  intro p e s m args below meth c s₁ B hml hv
  obtain ⟨rfl, hEN, rfl, hP, hK, hD0⟩ := hv
  have hx := B.exec
  have hb := B.bytes
  have hr := B.returns
  have hts := atoms_spec (ws := wsX6_solveWith) B.pre
  have hown : s.vm.findClass RX6 = some m.cls := findClass_of_methodNamed B.named
  have hlocks := B.notSynchronized
  have hD := hD0.self (sz := s.heap.size)
  generalize hAe : va_A [(h0, .inr (3, [.ref lg, .ref fs, .ref ps, .long fa, .long fb, .int 0, .int re])), (fs, .inr (1, [.ref vt])), (vt, .inr (2, [.ref vf, .ref vv])), (vf, .inl (cJ, 1024, .inr (.inl fm))), (vv, .inl (cI, 1024, .inl vl))] s.heap.size = A at hD ⊢
  have hA : ∀ q : Nat, s.heap.size ≤ q → A q := fun q h => by rw [← hAe]; exact Or.inr h
  have hS : va_S A s.heap s.heap [] := va_S.rf
  have hinX6 : ∀ w ∈ wsX60, w ∈ wsX6_solveWith := by decide +kernel
  have hfl72 : (Cond.fieldLink RX6 72 "Twistquad" "mustTurn" "Z").before ([.ref h0, .ref fs] : List Value).toArray s = true := hts _ (by decide +kernel)
  have hnest244 : va_Nw (.methodLinkNest RX6 244 yX3_valueToPut RX6) s := hEN.2.2.2.2.2
  have hiniX3 : (Cond.initialized (yX3_valueToPut).cls).before ([.ref h0, .ref fs] : List Value).toArray s = true := hts (.initialized RX3) (by decide +kernel)
  have hl := lv_entry ([.ref h0, .ref fs]) (n := 8) (Nat.le_of_ble_eq_true rfl)
  rw [lg_entry_eq]
  generalize (lg_sl ([.ref h0, .ref fs]) ++ List.replicate (8 - (lg_sl ([.ref h0, .ref fs])).length) Slot.unset).toArray = ls at hl ⊢
  have hl : lv_has ls 8 [(0, .ref h0), (1, .ref fs)] := hl
  refine lv_aload_n hx hb dX6_solveWith_0 rfl (lv_at hl 0 rfl) ?_
  refine vp_callSi (W.runV (As := []) (rest := []) ⟨hx, hb, hml, hown, hts⟩ (c_X6_sideToAct l D cI cJ h0 lg fs ps fa fb 0 re (Or.inl rfl)) (cwV 0 hts gX6_solveWith_X6_sideToAct rfl rfl rfl (by decide +kernel) ⟨Nat.le_of_ble_eq_true rfl, Nat.le_of_ble_eq_true rfl⟩) ⟨px_blindW, va_recv hK hP (ci := 3) (q0 := 0) rfl rfl, fun U hU hW => ⟨rfl, by rw [hU]; exact hP.sub (ws' := [(h0, .inr (3, [.ref lg, .ref fs, .ref ps, .long fa, .long fb, .int 0, .int re]))]) [0] rfl, va_K.moved hW.alike hK⟩⟩ rfl rfl hl.1 rfl (lv_room (Nat.le_of_ble_eq_true rfl)) dX6_solveWith_1 ⟨(Nat.le_of_ble_eq_true rfl), (Nat.le_of_ble_eq_true rfl)⟩) (fun r1 er1 => ?_)
  obtain rfl := er1.symm
  refine lv_istore_n (lv' := [(2, .int (cside (pop (fa ||| fb)) 0)), (0, .ref h0), (1, .ref fs)]) hx hb dX6_solveWith_4 rfl hl (by decide) rfl (fun ls hl => ?_)
  refine lv_aload_n hx hb dX6_solveWith_5 rfl (lv_at hl 1 rfl) ?_
  refine lv_iload_n hx hb dX6_solveWith_6 rfl (lv_at hl 0 rfl) ?_
  refine vp_callSl (W.runV (As := [.int (cside (pop (fa ||| fb)) 0)]) (rest := []) ⟨hx, hb, hml, hown, hts⟩ (c_X6_marblesOf l D cI cJ h0 lg fs ps fa fb 0 re (cside (pop (fa ||| fb)) 0)) (cwV 1 hts gX6_solveWith_X6_marblesOf rfl rfl rfl (by decide +kernel) ⟨Nat.le_of_ble_eq_true rfl, Nat.le_of_ble_eq_true rfl⟩) ⟨px_blindW, va_recv hK hP (ci := 3) (q0 := 0) rfl rfl, fun U hU hW => ⟨rfl, by rw [hU]; exact hP.sub (ws' := [(h0, .inr (3, [.ref lg, .ref fs, .ref ps, .long fa, .long fb, .int 0, .int re]))]) [0] rfl, va_K.moved hW.alike hK⟩⟩ rfl rfl hl.1 rfl (lv_room (Nat.le_of_ble_eq_true rfl)) dX6_solveWith_7 ⟨(Nat.le_of_ble_eq_true rfl), (Nat.le_of_ble_eq_true rfl)⟩) (fun r7 er7 => ?_)
  obtain rfl := er7.symm
  refine lv_lstore_n (lv' := [(3, .long (if (cside (pop (fa ||| fb)) 0) = 1 then fa else fb)), (2, .int (cside (pop (fa ||| fb)) 0)), (0, .ref h0), (1, .ref fs)]) hx hb dX6_solveWith_10 rfl hl (by decide) rfl (fun ls hl => ?_)
  refine lv_aload_n hx hb dX6_solveWith_11 rfl (lv_at hl 2 rfl) ?_
  refine lv_iload_n hx hb dX6_solveWith_12 rfl (lv_at hl 1 rfl) ?_
  refine vp_callSi (W.runS (As := [.int (cside (pop (fa ||| fb)) 0)]) (rest := [.ref h0]) ⟨hx, hb, hml, hown, hts⟩ (c_X6_otherSide l (cside (pop (fa ||| fb)) 0)) (va_cwS 1 hts gX6_solveWith_X6_otherSide rfl rfl rfl (by decide +kernel) ⟨Nat.le_of_ble_eq_true rfl, Nat.le_of_ble_eq_true rfl⟩) ⟨px_blind0, fun U hU hW => ⟨rfl, trivial⟩⟩ rfl rfl hl.1 rfl (lv_room (Nat.le_of_ble_eq_true rfl)) dX6_solveWith_13 ⟨(Nat.le_of_ble_eq_true rfl), (Nat.le_of_ble_eq_true rfl)⟩) (fun r13 er13 => ?_)
  obtain rfl := er13.symm
  refine vp_callSl (W.runV (As := [.int (if (cside (pop (fa ||| fb)) 0) = 1 then 2 else 1)]) (rest := []) ⟨hx, hb, hml, hown, hts⟩ (c_X6_marblesOf l D cI cJ h0 lg fs ps fa fb 0 re (if (cside (pop (fa ||| fb)) 0) = 1 then 2 else 1)) (cwV 1 hts gX6_solveWith_X6_marblesOf rfl rfl rfl (by decide +kernel) ⟨Nat.le_of_ble_eq_true rfl, Nat.le_of_ble_eq_true rfl⟩) ⟨px_blindW, va_recv hK hP (ci := 3) (q0 := 0) rfl rfl, fun U hU hW => ⟨rfl, by rw [hU]; exact hP.sub (ws' := [(h0, .inr (3, [.ref lg, .ref fs, .ref ps, .long fa, .long fb, .int 0, .int re]))]) [0] rfl, va_K.moved hW.alike hK⟩⟩ rfl rfl hl.1 rfl (lv_room (Nat.le_of_ble_eq_true rfl)) dX6_solveWith_16 ⟨(Nat.le_of_ble_eq_true rfl), (Nat.le_of_ble_eq_true rfl)⟩) (fun r16 er16 => ?_)
  obtain rfl := er16.symm
  refine pk_tl (y := (coth fa fb 0)) (rfl) ?_
  refine lv_lstore (lv' := [(5, .long (coth fa fb 0)), (3, .long (if (cside (pop (fa ||| fb)) 0) = 1 then fa else fb)), (2, .int (cside (pop (fa ||| fb)) 0)), (0, .ref h0), (1, .ref fs)]) hx hb dX6_solveWith_19 hl (by decide) rfl (fun ls hl => ?_)
  refine lv_aload_n hx hb dX6_solveWith_21 rfl (lv_at hl 3 rfl) ?_
  refine vp_callSl (W.runV (As := []) (rest := []) ⟨hx, hb, hml, hown, hts⟩ (c_X6_emptyCells l D cI cJ h0 lg fs ps fa fb 0 re ) (cwV 0 hts gX6_solveWith_X6_emptyCells rfl rfl rfl (by decide +kernel) ⟨Nat.le_of_ble_eq_true rfl, Nat.le_of_ble_eq_true rfl⟩) ⟨px_blindW, va_recv hK hP (ci := 3) (q0 := 0) rfl rfl, fun U hU hW => ⟨rfl, by rw [hU]; exact hP.sub (ws' := [(h0, .inr (3, [.ref lg, .ref fs, .ref ps, .long fa, .long fb, .int 0, .int re]))]) [0] rfl, va_K.moved hW.alike hK⟩⟩ rfl rfl hl.1 rfl (lv_room (Nat.le_of_ble_eq_true rfl)) dX6_solveWith_22 ⟨(Nat.le_of_ble_eq_true rfl), (Nat.le_of_ble_eq_true rfl)⟩) (fun r22 er22 => ?_)
  obtain rfl := er22.symm
  refine vp_callSi (W.runS (As := [.long (cempty fa fb)]) (rest := []) ⟨hx, hb, hml, hown, hts⟩ (c_J13_bitCount_95d88 l (cempty fa fb)) (va_cwS 1 hts gX6_solveWith_J13_bitCount_95d88 rfl rfl rfl (by decide +kernel) ⟨Nat.le_of_ble_eq_true rfl, Nat.le_of_ble_eq_true rfl⟩) ⟨px_blind0, fun U hU hW => ⟨rfl, trivial⟩⟩ rfl rfl hl.1 rfl (lv_room (Nat.le_of_ble_eq_true rfl)) dX6_solveWith_25 ⟨(Nat.le_of_ble_eq_true rfl), (Nat.le_of_ble_eq_true rfl)⟩) (fun r25 er25 => ?_)
  obtain rfl := er25.symm
  refine pk_ti (y := 0) (congrArg nI hn) ?_
  refine lv_istore (lv' := [(7, .int 0), (5, .long (coth fa fb 0)), (3, .long (if (cside (pop (fa ||| fb)) 0) = 1 then fa else fb)), (2, .int (cside (pop (fa ||| fb)) 0)), (0, .ref h0), (1, .ref fs)]) hx hb dX6_solveWith_28 hl (by decide) rfl (fun ls hl => ?_)
  refine lv_aload_n hx hb dX6_solveWith_30 rfl (lv_at hl 4 rfl) ?_
  refine va_get (D := D) (ci := 3) (v := .int 0) (C := RX6) (T := TX6) (N := 7) hx hb hts hinX6 hown hK hP 0 rfl rfl 5 (by decide) hfl72 (fun _ h9 => h9) rfl dX6_solveWith_31 ?_
  refine lv_if_eq (tgt := 49) hx hb dX6_solveWith_34 (by decide) (fun c34 => ?_) (fun c34 => ?_)
  · refine lv_aload_n hx hb dX6_solveWith_49 rfl (lv_at hl 5 rfl) ?_
    refine lv_lload_n hx hb dX6_solveWith_50 rfl (lv_at hl 2 rfl) ?_
    refine lv_lload hx hb dX6_solveWith_51 (lv_at hl 1 rfl) ?_
    refine lv_iload hx hb dX6_solveWith_53 (lv_at hl 0 rfl) ?_
    have hPc := hP.sub (ws' := [(fs, .inr (1, [.ref vt])), (vt, .inr (2, [.ref vf, .ref vv])), (vf, .inl (cJ, 1024, .inr (.inl fm))), (vv, .inl (cI, 1024, .inl vl))]) [1, 2, 3, 4] rfl
    have hDc := hD.sub (ws' := [(fs, .inr (1, [.ref vt])), (vt, .inr (2, [.ref vf, .ref vv])), (vf, .inl (cJ, 1024, .inr (.inl fm))), (vv, .inl (cI, 1024, .inl vl))]) [1, 2, 3, 4] (by decide) rfl
    have hFc := va_free (wc := [(fs, .inr (1, [.ref vt])), (vt, .inr (2, [.ref vf, .ref vv])), (vf, .inl (cJ, 1024, .inr (.inl fm))), (vv, .inl (cI, 1024, .inl vl))]) hD hS hA [1, 2, 3, 4] rfl
    refine va_calli (va_runVN (As := [.long (if (cside (pop (fa ||| fb)) 0) = 1 then fa else fb), .long (coth fa fb 0), .int 0]) (rest := []) ⟨hx, hb, hml, hown, hts⟩ (c_X3_valueToPut_f0 l D cI cJ s.heap.size  fs vt vf vv fm vl hT (if (cside (pop (fa ||| fb)) 0) = 1 then fa else fb) (coth fa fb 0) hB) ⟨va_cnB 3 hts gX6_solveWith_X3_valueToPut_n244 rfl rfl rfl hnest244 hiniX3 (by decide +kernel) ⟨Nat.le_of_ble_eq_true rfl, Nat.le_of_ble_eq_true rfl⟩, hts (.instanceMethod yX3_valueToPut) (by decide +kernel), hts (.selects RX3 yX3_valueToPut yX3_valueToPut) (by decide +kernel)⟩ ⟨(px_blindE pv_blind), va_recv hK hPc (ci := 1) (q0 := 0) rfl rfl, fun U hU hW => ⟨rfl, hEN.warm hW, by rw [hU], by rw [hU]; exact hPc, va_K.moved hW.alike hK, hDc.weaken (fun _ _ _ _ => trivial)⟩⟩ rfl rfl hl.1 rfl (lv_room (Nat.le_of_ble_eq_true rfl)) dX6_solveWith_55 ⟨(Nat.le_of_ble_eq_true rfl), (Nat.le_of_ble_eq_true rfl)⟩) hS (fun q _ h => hFc q h) hFc (fun r55 u t9 H1 locs hth hvm hw55 hB hz1 hk1 hS => ?_)
    obtain ⟨fm55, vl55⟩ := u
    try dsimp only at hw55
    obtain ⟨hP1, hK1, hD1⟩ := hB
    rw [hth] at hP1
    obtain ⟨hP, hD⟩ := va_join (wr := [(h0, .inr (3, [.ref lg, .ref fs, .ref ps, .long fa, .long fb, .int 0, .int re]))]) (w1 := [(fs, .inr (1, [.ref vt])), (vt, .inr (2, [.ref vf, .ref vv])), (vf, .inl (cJ, 1024, .inr (.inl fm55))), (vv, .inl (cI, 1024, .inl vl55))]) hP hD [1, 2, 3, 4] [0] rfl rfl (by decide) (by decide) hk1 hFc hP1 hD1
    generalize H1 = H at hP hS ⊢
    have hP : va_P D vwCl [(h0, .inr (3, [.ref lg, .ref fs, .ref ps, .long fa, .long fb, .int 0, .int re])), (fs, .inr (1, [.ref vt])), (vt, .inr (2, [.ref vf, .ref vv])), (vf, .inl (cJ, 1024, .inr (.inl fm55))), (vv, .inl (cI, 1024, .inl vl55))] H := hP.sub (ws' := [(h0, .inr (3, [.ref lg, .ref fs, .ref ps, .long fa, .long fb, .int 0, .int re])), (fs, .inr (1, [.ref vt])), (vt, .inr (2, [.ref vf, .ref vv])), (vf, .inl (cJ, 1024, .inr (.inl fm55))), (vv, .inl (cI, 1024, .inl vl55))]) [0, 1, 2, 3, 4] rfl
    have hD : va_D A [(h0, .inr (3, [.ref lg, .ref fs, .ref ps, .long fa, .long fb, .int 0, .int re])), (fs, .inr (1, [.ref vt])), (vt, .inr (2, [.ref vf, .ref vv])), (vf, .inl (cJ, 1024, .inr (.inl fm55))), (vv, .inl (cI, 1024, .inl vl55))] := hD.sub (ws' := [(h0, .inr (3, [.ref lg, .ref fs, .ref ps, .long fa, .long fb, .int 0, .int re])), (fs, .inr (1, [.ref vt])), (vt, .inr (2, [.ref vf, .ref vv])), (vf, .inl (cJ, 1024, .inr (.inl fm55))), (vv, .inl (cI, 1024, .inl vl55))]) [0, 1, 2, 3, 4] (by decide) rfl
    obtain ⟨hv9, hT55⟩ := hw55
    obtain rfl := hv9.symm
    refine W.iret (v := (vput 0 (if (cside (pop (fa ||| fb)) 0) = 1 then fa else fb) (coth fa fb 0))) hx hb hr (fun tt ht hW => ⟨⟨(vput 0 (if (cside (pop (fa ||| fb)) 0) = 1 then fa else fb) (coth fa fb 0)), (fm55, vl55), rfl, ?_, by rw [ht]; exact hP, va_K.moved hW.alike hK, hD⟩, hS.F ht⟩) hS.2.2 dX6_solveWith_58
    exact ⟨rfl, hT55⟩
  · exact absurd c34 (by decide)

set_option maxHeartbeats 400000 in
set_option maxRecDepth 100000 in
theorem c_X6_solveWith_p0_0 (l : Launch) (D : va_G) (cI cJ : ClassId) (h0 lg fs ps : Nat) (fa fb : Int64) (re : Int32)  (hn : pop (cempty fa fb) = 0) : Met l yX6_solveWith wsX6_solveWith ({ frames := 16, cells := 0, slots := 0, locals := 463 } : Room) (va_Pc [.ref h0, .ref ps] (px_E (px_W D [(h0, .inr (3, [.ref lg, .ref fs, .ref ps, .long fa, .long fb, .int 0, .int re])), (ps, .inr (1, [.null]))] [(cI, .int), (cJ, .long)]))) (vp_Si (fun r => r = vput 0 (cown fa fb 0) (coth fa fb 0))) 0 0 (fun _ => False) := by
  refine Met.ofW (cc := cX6_solveWith) (maxL := 8) (ret := (some .int)) (by decide) rfl ?_
  intro p e s m args below meth c s₁ B hml hv
  obtain ⟨rfl, hEN, hP, hK⟩ := hv
  have hx := B.exec
  have hb := B.bytes
  have hr := B.returns
  have hts := atoms_spec (ws := wsX6_solveWith) B.pre
  have hown : s.vm.findClass RX6 = some m.cls := findClass_of_methodNamed B.named
  have hlocks := B.notSynchronized
  have hinX6 : ∀ w ∈ wsX60, w ∈ wsX6_solveWith := by decide +kernel
  have hfl72 : (Cond.fieldLink RX6 72 "Twistquad" "mustTurn" "Z").before ([.ref h0, .ref ps] : List Value).toArray s = true := hts _ (by decide +kernel)
  have hnest244 : va_Nw (.methodLinkNest RX6 244 yX3_valueToPut RX6) s := hEN.2.2.2.2.2
  have hiniX3 : (Cond.initialized (yX3_valueToPut).cls).before ([.ref h0, .ref ps] : List Value).toArray s = true := hts (.initialized RX3) (by decide +kernel)
  have hl := lv_entry ([.ref h0, .ref ps]) (n := 8) (Nat.le_of_ble_eq_true rfl)
  rw [lg_entry_eq]
  generalize (lg_sl ([.ref h0, .ref ps]) ++ List.replicate (8 - (lg_sl ([.ref h0, .ref ps])).length) Slot.unset).toArray = ls at hl ⊢
  have hl : lv_has ls 8 [(0, .ref h0), (1, .ref ps)] := hl
  refine lv_aload_n hx hb dX6_solveWith_0 rfl (lv_at hl 0 rfl) ?_
  refine vp_callSi (W.runV (As := []) (rest := []) ⟨hx, hb, hml, hown, hts⟩ (c_X6_sideToAct l D cI cJ h0 lg fs ps fa fb 0 re (Or.inl rfl)) (cwV 0 hts gX6_solveWith_X6_sideToAct rfl rfl rfl (by decide +kernel) ⟨Nat.le_of_ble_eq_true rfl, Nat.le_of_ble_eq_true rfl⟩) ⟨px_blindW, va_recv hK hP (ci := 3) (q0 := 0) rfl rfl, fun U hU hW => ⟨rfl, by rw [hU]; exact hP.sub (ws' := [(h0, .inr (3, [.ref lg, .ref fs, .ref ps, .long fa, .long fb, .int 0, .int re]))]) [0] rfl, va_K.moved hW.alike hK⟩⟩ rfl rfl hl.1 rfl (lv_room (Nat.le_of_ble_eq_true rfl)) dX6_solveWith_1 ⟨(Nat.le_of_ble_eq_true rfl), (Nat.le_of_ble_eq_true rfl)⟩) (fun r1 er1 => ?_)
  obtain rfl := er1.symm
  refine lv_istore_n (lv' := [(2, .int (cside (pop (fa ||| fb)) 0)), (0, .ref h0), (1, .ref ps)]) hx hb dX6_solveWith_4 rfl hl (by decide) rfl (fun ls hl => ?_)
  refine lv_aload_n hx hb dX6_solveWith_5 rfl (lv_at hl 1 rfl) ?_
  refine lv_iload_n hx hb dX6_solveWith_6 rfl (lv_at hl 0 rfl) ?_
  refine vp_callSl (W.runV (As := [.int (cside (pop (fa ||| fb)) 0)]) (rest := []) ⟨hx, hb, hml, hown, hts⟩ (c_X6_marblesOf l D cI cJ h0 lg fs ps fa fb 0 re (cside (pop (fa ||| fb)) 0)) (cwV 1 hts gX6_solveWith_X6_marblesOf rfl rfl rfl (by decide +kernel) ⟨Nat.le_of_ble_eq_true rfl, Nat.le_of_ble_eq_true rfl⟩) ⟨px_blindW, va_recv hK hP (ci := 3) (q0 := 0) rfl rfl, fun U hU hW => ⟨rfl, by rw [hU]; exact hP.sub (ws' := [(h0, .inr (3, [.ref lg, .ref fs, .ref ps, .long fa, .long fb, .int 0, .int re]))]) [0] rfl, va_K.moved hW.alike hK⟩⟩ rfl rfl hl.1 rfl (lv_room (Nat.le_of_ble_eq_true rfl)) dX6_solveWith_7 ⟨(Nat.le_of_ble_eq_true rfl), (Nat.le_of_ble_eq_true rfl)⟩) (fun r7 er7 => ?_)
  obtain rfl := er7.symm
  refine lv_lstore_n (lv' := [(3, .long (if (cside (pop (fa ||| fb)) 0) = 1 then fa else fb)), (2, .int (cside (pop (fa ||| fb)) 0)), (0, .ref h0), (1, .ref ps)]) hx hb dX6_solveWith_10 rfl hl (by decide) rfl (fun ls hl => ?_)
  refine lv_aload_n hx hb dX6_solveWith_11 rfl (lv_at hl 2 rfl) ?_
  refine lv_iload_n hx hb dX6_solveWith_12 rfl (lv_at hl 1 rfl) ?_
  refine vp_callSi (W.runS (As := [.int (cside (pop (fa ||| fb)) 0)]) (rest := [.ref h0]) ⟨hx, hb, hml, hown, hts⟩ (c_X6_otherSide l (cside (pop (fa ||| fb)) 0)) (va_cwS 1 hts gX6_solveWith_X6_otherSide rfl rfl rfl (by decide +kernel) ⟨Nat.le_of_ble_eq_true rfl, Nat.le_of_ble_eq_true rfl⟩) ⟨px_blind0, fun U hU hW => ⟨rfl, trivial⟩⟩ rfl rfl hl.1 rfl (lv_room (Nat.le_of_ble_eq_true rfl)) dX6_solveWith_13 ⟨(Nat.le_of_ble_eq_true rfl), (Nat.le_of_ble_eq_true rfl)⟩) (fun r13 er13 => ?_)
  obtain rfl := er13.symm
  refine vp_callSl (W.runV (As := [.int (if (cside (pop (fa ||| fb)) 0) = 1 then 2 else 1)]) (rest := []) ⟨hx, hb, hml, hown, hts⟩ (c_X6_marblesOf l D cI cJ h0 lg fs ps fa fb 0 re (if (cside (pop (fa ||| fb)) 0) = 1 then 2 else 1)) (cwV 1 hts gX6_solveWith_X6_marblesOf rfl rfl rfl (by decide +kernel) ⟨Nat.le_of_ble_eq_true rfl, Nat.le_of_ble_eq_true rfl⟩) ⟨px_blindW, va_recv hK hP (ci := 3) (q0 := 0) rfl rfl, fun U hU hW => ⟨rfl, by rw [hU]; exact hP.sub (ws' := [(h0, .inr (3, [.ref lg, .ref fs, .ref ps, .long fa, .long fb, .int 0, .int re]))]) [0] rfl, va_K.moved hW.alike hK⟩⟩ rfl rfl hl.1 rfl (lv_room (Nat.le_of_ble_eq_true rfl)) dX6_solveWith_16 ⟨(Nat.le_of_ble_eq_true rfl), (Nat.le_of_ble_eq_true rfl)⟩) (fun r16 er16 => ?_)
  obtain rfl := er16.symm
  refine pk_tl (y := (coth fa fb 0)) (rfl) ?_
  refine lv_lstore (lv' := [(5, .long (coth fa fb 0)), (3, .long (if (cside (pop (fa ||| fb)) 0) = 1 then fa else fb)), (2, .int (cside (pop (fa ||| fb)) 0)), (0, .ref h0), (1, .ref ps)]) hx hb dX6_solveWith_19 hl (by decide) rfl (fun ls hl => ?_)
  refine lv_aload_n hx hb dX6_solveWith_21 rfl (lv_at hl 3 rfl) ?_
  refine vp_callSl (W.runV (As := []) (rest := []) ⟨hx, hb, hml, hown, hts⟩ (c_X6_emptyCells l D cI cJ h0 lg fs ps fa fb 0 re ) (cwV 0 hts gX6_solveWith_X6_emptyCells rfl rfl rfl (by decide +kernel) ⟨Nat.le_of_ble_eq_true rfl, Nat.le_of_ble_eq_true rfl⟩) ⟨px_blindW, va_recv hK hP (ci := 3) (q0 := 0) rfl rfl, fun U hU hW => ⟨rfl, by rw [hU]; exact hP.sub (ws' := [(h0, .inr (3, [.ref lg, .ref fs, .ref ps, .long fa, .long fb, .int 0, .int re]))]) [0] rfl, va_K.moved hW.alike hK⟩⟩ rfl rfl hl.1 rfl (lv_room (Nat.le_of_ble_eq_true rfl)) dX6_solveWith_22 ⟨(Nat.le_of_ble_eq_true rfl), (Nat.le_of_ble_eq_true rfl)⟩) (fun r22 er22 => ?_)
  obtain rfl := er22.symm
  refine vp_callSi (W.runS (As := [.long (cempty fa fb)]) (rest := []) ⟨hx, hb, hml, hown, hts⟩ (c_J13_bitCount_95d88 l (cempty fa fb)) (va_cwS 1 hts gX6_solveWith_J13_bitCount_95d88 rfl rfl rfl (by decide +kernel) ⟨Nat.le_of_ble_eq_true rfl, Nat.le_of_ble_eq_true rfl⟩) ⟨px_blind0, fun U hU hW => ⟨rfl, trivial⟩⟩ rfl rfl hl.1 rfl (lv_room (Nat.le_of_ble_eq_true rfl)) dX6_solveWith_25 ⟨(Nat.le_of_ble_eq_true rfl), (Nat.le_of_ble_eq_true rfl)⟩) (fun r25 er25 => ?_)
  obtain rfl := er25.symm
  refine pk_ti (y := 0) (congrArg nI hn) ?_
  refine lv_istore (lv' := [(7, .int 0), (5, .long (coth fa fb 0)), (3, .long (if (cside (pop (fa ||| fb)) 0) = 1 then fa else fb)), (2, .int (cside (pop (fa ||| fb)) 0)), (0, .ref h0), (1, .ref ps)]) hx hb dX6_solveWith_28 hl (by decide) rfl (fun ls hl => ?_)
  refine lv_aload_n hx hb dX6_solveWith_30 rfl (lv_at hl 4 rfl) ?_
  refine va_get (D := D) (ci := 3) (v := .int 0) (C := RX6) (T := TX6) (N := 7) hx hb hts hinX6 hown hK hP 0 rfl rfl 5 (by decide) hfl72 (fun _ h9 => h9) rfl dX6_solveWith_31 ?_
  refine lv_if_eq (tgt := 49) hx hb dX6_solveWith_34 (by decide) (fun c34 => ?_) (fun c34 => ?_)
  · refine lv_aload_n hx hb dX6_solveWith_49 rfl (lv_at hl 5 rfl) ?_
    refine lv_lload_n hx hb dX6_solveWith_50 rfl (lv_at hl 2 rfl) ?_
    refine lv_lload hx hb dX6_solveWith_51 (lv_at hl 1 rfl) ?_
    refine lv_iload hx hb dX6_solveWith_53 (lv_at hl 0 rfl) ?_
    refine vp_callSi (va_Run.run (va_runVN (As := [.long (if (cside (pop (fa ||| fb)) 0) = 1 then fa else fb), .long (coth fa fb 0), .int 0]) (rest := []) ⟨hx, hb, hml, hown, hts⟩ (c_X3_valueToPut_p0 l D cI cJ ps (if (cside (pop (fa ||| fb)) 0) = 1 then fa else fb) (coth fa fb 0)) ⟨va_cnB 3 hts gX6_solveWith_X3_valueToPut_n244 rfl rfl rfl hnest244 hiniX3 (by decide +kernel) ⟨Nat.le_of_ble_eq_true rfl, Nat.le_of_ble_eq_true rfl⟩, hts (.instanceMethod yX3_valueToPut) (by decide +kernel), hts (.selects RX3 yX3_valueToPut yX3_valueToPut) (by decide +kernel)⟩ ⟨(px_blindE px_blindW), va_recv hK hP (ci := 1) (q0 := 1) rfl rfl, fun U hU hW => ⟨rfl, hEN.warm hW, by rw [hU]; exact hP.sub (ws' := [(ps, .inr (1, [.null]))]) [1] rfl, va_K.moved hW.alike hK⟩⟩ rfl rfl hl.1 rfl (lv_room (Nat.le_of_ble_eq_true rfl)) dX6_solveWith_55 ⟨(Nat.le_of_ble_eq_true rfl), (Nat.le_of_ble_eq_true rfl)⟩)) (fun r55 er55 => ?_)
    obtain rfl := er55.symm
    refine W.iret (v := (vput 0 (if (cside (pop (fa ||| fb)) 0) = 1 then fa else fb) (coth fa fb 0))) hx hb hr (fun tt ht hW => ⟨(vput 0 (if (cside (pop (fa ||| fb)) 0) = 1 then fa else fb) (coth fa fb 0)), rfl, ?_, ht⟩) (fun _ h => nomatch h) dX6_solveWith_58
    exact rfl
  · exact absurd c34 (by decide)

set_option maxHeartbeats 400000 in
set_option maxRecDepth 100000 in
theorem c_X6_solveWith_f1_0 (l : Launch) (D : va_G) (cI cJ : ClassId) (sz : Nat) (h0 lg fs ps vt vf vv : Nat) (fa fb : Int64) (re : Int32) (fm : Nat → Int64) (vl : Nat → Int32) (hT : TI fm vl)  (hn : pop (cempty fa fb) = 1) (hB : BV 1 (cown fa fb 0) (coth fa fb 0)) : Met l yX6_solveWith wsX6_solveWith ({ frames := 16, cells := 0, slots := 0, locals := 463 } : Room) (va_Pc [.ref h0, .ref fs] (px_E (pv_C D cI cJ [(h0, .inr (3, [.ref lg, .ref fs, .ref ps, .long fa, .long fb, .int 0, .int re])), (fs, .inr (1, [.ref vt])), (vt, .inr (2, [.ref vf, .ref vv])), (vf, .inl (cJ, 1024, .inr (.inl fm))), (vv, .inl (cI, 1024, .inl vl))] sz))) (va_Qi (fun (r : Int32) (u : (Nat → Int64) × (Nat → Int32)) => r = vput 1 (cown fa fb 0) (coth fa fb 0) ∧ TI u.1 u.2) (fun (u : (Nat → Int64) × (Nat → Int32)) => pv_B D cI cJ (va_A [(h0, .inr (3, [.ref lg, .ref fs, .ref ps, .long fa, .long fb, .int 0, .int re])), (fs, .inr (1, [.ref vt])), (vt, .inr (2, [.ref vf, .ref vv])), (vf, .inl (cJ, 1024, .inr (.inl fm))), (vv, .inl (cI, 1024, .inl vl))] sz) [(h0, .inr (3, [.ref lg, .ref fs, .ref ps, .long fa, .long fb, .int 0, .int re])), (fs, .inr (1, [.ref vt])), (vt, .inr (2, [.ref vf, .ref vv])), (vf, .inl (cJ, 1024, .inr (.inl u.1))), (vv, .inl (cI, 1024, .inl u.2))]) (va_A [(h0, .inr (3, [.ref lg, .ref fs, .ref ps, .long fa, .long fb, .int 0, .int re])), (fs, .inr (1, [.ref vt])), (vt, .inr (2, [.ref vf, .ref vv])), (vf, .inl (cJ, 1024, .inr (.inl fm))), (vv, .inl (cI, 1024, .inl vl))] sz)) 0 0 (va_A [(h0, .inr (3, [.ref lg, .ref fs, .ref ps, .long fa, .long fb, .int 0, .int re])), (fs, .inr (1, [.ref vt])), (vt, .inr (2, [.ref vf, .ref vv])), (vf, .inl (cJ, 1024, .inr (.inl fm))), (vv, .inl (cI, 1024, .inl vl))] sz) := by
  refine Met.ofW (cc := cX6_solveWith) (maxL := 8) (ret := (some .int)) (by decide) rfl ?_
  intro p e s m args below meth c s₁ B hml hv
  obtain ⟨rfl, hEN, rfl, hP, hK, hD0⟩ := hv
  have hx := B.exec
  have hb := B.bytes
  have hr := B.returns
  have hts := atoms_spec (ws := wsX6_solveWith) B.pre
  have hown : s.vm.findClass RX6 = some m.cls := findClass_of_methodNamed B.named
  have hlocks := B.notSynchronized
  have hD := hD0.self (sz := s.heap.size)
  generalize hAe : va_A [(h0, .inr (3, [.ref lg, .ref fs, .ref ps, .long fa, .long fb, .int 0, .int re])), (fs, .inr (1, [.ref vt])), (vt, .inr (2, [.ref vf, .ref vv])), (vf, .inl (cJ, 1024, .inr (.inl fm))), (vv, .inl (cI, 1024, .inl vl))] s.heap.size = A at hD ⊢
  have hA : ∀ q : Nat, s.heap.size ≤ q → A q := fun q h => by rw [← hAe]; exact Or.inr h
  have hS : va_S A s.heap s.heap [] := va_S.rf
  have hinX6 : ∀ w ∈ wsX60, w ∈ wsX6_solveWith := by decide +kernel
  have hfl72 : (Cond.fieldLink RX6 72 "Twistquad" "mustTurn" "Z").before ([.ref h0, .ref fs] : List Value).toArray s = true := hts _ (by decide +kernel)
  have hnest244 : va_Nw (.methodLinkNest RX6 244 yX3_valueToPut RX6) s := hEN.2.2.2.2.2
  have hiniX3 : (Cond.initialized (yX3_valueToPut).cls).before ([.ref h0, .ref fs] : List Value).toArray s = true := hts (.initialized RX3) (by decide +kernel)
  have hl := lv_entry ([.ref h0, .ref fs]) (n := 8) (Nat.le_of_ble_eq_true rfl)
  rw [lg_entry_eq]
  generalize (lg_sl ([.ref h0, .ref fs]) ++ List.replicate (8 - (lg_sl ([.ref h0, .ref fs])).length) Slot.unset).toArray = ls at hl ⊢
  have hl : lv_has ls 8 [(0, .ref h0), (1, .ref fs)] := hl
  refine lv_aload_n hx hb dX6_solveWith_0 rfl (lv_at hl 0 rfl) ?_
  refine vp_callSi (W.runV (As := []) (rest := []) ⟨hx, hb, hml, hown, hts⟩ (c_X6_sideToAct l D cI cJ h0 lg fs ps fa fb 0 re (Or.inl rfl)) (cwV 0 hts gX6_solveWith_X6_sideToAct rfl rfl rfl (by decide +kernel) ⟨Nat.le_of_ble_eq_true rfl, Nat.le_of_ble_eq_true rfl⟩) ⟨px_blindW, va_recv hK hP (ci := 3) (q0 := 0) rfl rfl, fun U hU hW => ⟨rfl, by rw [hU]; exact hP.sub (ws' := [(h0, .inr (3, [.ref lg, .ref fs, .ref ps, .long fa, .long fb, .int 0, .int re]))]) [0] rfl, va_K.moved hW.alike hK⟩⟩ rfl rfl hl.1 rfl (lv_room (Nat.le_of_ble_eq_true rfl)) dX6_solveWith_1 ⟨(Nat.le_of_ble_eq_true rfl), (Nat.le_of_ble_eq_true rfl)⟩) (fun r1 er1 => ?_)
  obtain rfl := er1.symm
  refine lv_istore_n (lv' := [(2, .int (cside (pop (fa ||| fb)) 0)), (0, .ref h0), (1, .ref fs)]) hx hb dX6_solveWith_4 rfl hl (by decide) rfl (fun ls hl => ?_)
  refine lv_aload_n hx hb dX6_solveWith_5 rfl (lv_at hl 1 rfl) ?_
  refine lv_iload_n hx hb dX6_solveWith_6 rfl (lv_at hl 0 rfl) ?_
  refine vp_callSl (W.runV (As := [.int (cside (pop (fa ||| fb)) 0)]) (rest := []) ⟨hx, hb, hml, hown, hts⟩ (c_X6_marblesOf l D cI cJ h0 lg fs ps fa fb 0 re (cside (pop (fa ||| fb)) 0)) (cwV 1 hts gX6_solveWith_X6_marblesOf rfl rfl rfl (by decide +kernel) ⟨Nat.le_of_ble_eq_true rfl, Nat.le_of_ble_eq_true rfl⟩) ⟨px_blindW, va_recv hK hP (ci := 3) (q0 := 0) rfl rfl, fun U hU hW => ⟨rfl, by rw [hU]; exact hP.sub (ws' := [(h0, .inr (3, [.ref lg, .ref fs, .ref ps, .long fa, .long fb, .int 0, .int re]))]) [0] rfl, va_K.moved hW.alike hK⟩⟩ rfl rfl hl.1 rfl (lv_room (Nat.le_of_ble_eq_true rfl)) dX6_solveWith_7 ⟨(Nat.le_of_ble_eq_true rfl), (Nat.le_of_ble_eq_true rfl)⟩) (fun r7 er7 => ?_)
  obtain rfl := er7.symm
  refine lv_lstore_n (lv' := [(3, .long (if (cside (pop (fa ||| fb)) 0) = 1 then fa else fb)), (2, .int (cside (pop (fa ||| fb)) 0)), (0, .ref h0), (1, .ref fs)]) hx hb dX6_solveWith_10 rfl hl (by decide) rfl (fun ls hl => ?_)
  refine lv_aload_n hx hb dX6_solveWith_11 rfl (lv_at hl 2 rfl) ?_
  refine lv_iload_n hx hb dX6_solveWith_12 rfl (lv_at hl 1 rfl) ?_
  refine vp_callSi (W.runS (As := [.int (cside (pop (fa ||| fb)) 0)]) (rest := [.ref h0]) ⟨hx, hb, hml, hown, hts⟩ (c_X6_otherSide l (cside (pop (fa ||| fb)) 0)) (va_cwS 1 hts gX6_solveWith_X6_otherSide rfl rfl rfl (by decide +kernel) ⟨Nat.le_of_ble_eq_true rfl, Nat.le_of_ble_eq_true rfl⟩) ⟨px_blind0, fun U hU hW => ⟨rfl, trivial⟩⟩ rfl rfl hl.1 rfl (lv_room (Nat.le_of_ble_eq_true rfl)) dX6_solveWith_13 ⟨(Nat.le_of_ble_eq_true rfl), (Nat.le_of_ble_eq_true rfl)⟩) (fun r13 er13 => ?_)
  obtain rfl := er13.symm
  refine vp_callSl (W.runV (As := [.int (if (cside (pop (fa ||| fb)) 0) = 1 then 2 else 1)]) (rest := []) ⟨hx, hb, hml, hown, hts⟩ (c_X6_marblesOf l D cI cJ h0 lg fs ps fa fb 0 re (if (cside (pop (fa ||| fb)) 0) = 1 then 2 else 1)) (cwV 1 hts gX6_solveWith_X6_marblesOf rfl rfl rfl (by decide +kernel) ⟨Nat.le_of_ble_eq_true rfl, Nat.le_of_ble_eq_true rfl⟩) ⟨px_blindW, va_recv hK hP (ci := 3) (q0 := 0) rfl rfl, fun U hU hW => ⟨rfl, by rw [hU]; exact hP.sub (ws' := [(h0, .inr (3, [.ref lg, .ref fs, .ref ps, .long fa, .long fb, .int 0, .int re]))]) [0] rfl, va_K.moved hW.alike hK⟩⟩ rfl rfl hl.1 rfl (lv_room (Nat.le_of_ble_eq_true rfl)) dX6_solveWith_16 ⟨(Nat.le_of_ble_eq_true rfl), (Nat.le_of_ble_eq_true rfl)⟩) (fun r16 er16 => ?_)
  obtain rfl := er16.symm
  refine pk_tl (y := (coth fa fb 0)) (rfl) ?_
  refine lv_lstore (lv' := [(5, .long (coth fa fb 0)), (3, .long (if (cside (pop (fa ||| fb)) 0) = 1 then fa else fb)), (2, .int (cside (pop (fa ||| fb)) 0)), (0, .ref h0), (1, .ref fs)]) hx hb dX6_solveWith_19 hl (by decide) rfl (fun ls hl => ?_)
  refine lv_aload_n hx hb dX6_solveWith_21 rfl (lv_at hl 3 rfl) ?_
  refine vp_callSl (W.runV (As := []) (rest := []) ⟨hx, hb, hml, hown, hts⟩ (c_X6_emptyCells l D cI cJ h0 lg fs ps fa fb 0 re ) (cwV 0 hts gX6_solveWith_X6_emptyCells rfl rfl rfl (by decide +kernel) ⟨Nat.le_of_ble_eq_true rfl, Nat.le_of_ble_eq_true rfl⟩) ⟨px_blindW, va_recv hK hP (ci := 3) (q0 := 0) rfl rfl, fun U hU hW => ⟨rfl, by rw [hU]; exact hP.sub (ws' := [(h0, .inr (3, [.ref lg, .ref fs, .ref ps, .long fa, .long fb, .int 0, .int re]))]) [0] rfl, va_K.moved hW.alike hK⟩⟩ rfl rfl hl.1 rfl (lv_room (Nat.le_of_ble_eq_true rfl)) dX6_solveWith_22 ⟨(Nat.le_of_ble_eq_true rfl), (Nat.le_of_ble_eq_true rfl)⟩) (fun r22 er22 => ?_)
  obtain rfl := er22.symm
  refine vp_callSi (W.runS (As := [.long (cempty fa fb)]) (rest := []) ⟨hx, hb, hml, hown, hts⟩ (c_J13_bitCount_95d88 l (cempty fa fb)) (va_cwS 1 hts gX6_solveWith_J13_bitCount_95d88 rfl rfl rfl (by decide +kernel) ⟨Nat.le_of_ble_eq_true rfl, Nat.le_of_ble_eq_true rfl⟩) ⟨px_blind0, fun U hU hW => ⟨rfl, trivial⟩⟩ rfl rfl hl.1 rfl (lv_room (Nat.le_of_ble_eq_true rfl)) dX6_solveWith_25 ⟨(Nat.le_of_ble_eq_true rfl), (Nat.le_of_ble_eq_true rfl)⟩) (fun r25 er25 => ?_)
  obtain rfl := er25.symm
  refine pk_ti (y := 1) (congrArg nI hn) ?_
  refine lv_istore (lv' := [(7, .int 1), (5, .long (coth fa fb 0)), (3, .long (if (cside (pop (fa ||| fb)) 0) = 1 then fa else fb)), (2, .int (cside (pop (fa ||| fb)) 0)), (0, .ref h0), (1, .ref fs)]) hx hb dX6_solveWith_28 hl (by decide) rfl (fun ls hl => ?_)
  refine lv_aload_n hx hb dX6_solveWith_30 rfl (lv_at hl 4 rfl) ?_
  refine va_get (D := D) (ci := 3) (v := .int 0) (C := RX6) (T := TX6) (N := 7) hx hb hts hinX6 hown hK hP 0 rfl rfl 5 (by decide) hfl72 (fun _ h9 => h9) rfl dX6_solveWith_31 ?_
  refine lv_if_eq (tgt := 49) hx hb dX6_solveWith_34 (by decide) (fun c34 => ?_) (fun c34 => ?_)
  · refine lv_aload_n hx hb dX6_solveWith_49 rfl (lv_at hl 5 rfl) ?_
    refine lv_lload_n hx hb dX6_solveWith_50 rfl (lv_at hl 2 rfl) ?_
    refine lv_lload hx hb dX6_solveWith_51 (lv_at hl 1 rfl) ?_
    refine lv_iload hx hb dX6_solveWith_53 (lv_at hl 0 rfl) ?_
    have hPc := hP.sub (ws' := [(fs, .inr (1, [.ref vt])), (vt, .inr (2, [.ref vf, .ref vv])), (vf, .inl (cJ, 1024, .inr (.inl fm))), (vv, .inl (cI, 1024, .inl vl))]) [1, 2, 3, 4] rfl
    have hDc := hD.sub (ws' := [(fs, .inr (1, [.ref vt])), (vt, .inr (2, [.ref vf, .ref vv])), (vf, .inl (cJ, 1024, .inr (.inl fm))), (vv, .inl (cI, 1024, .inl vl))]) [1, 2, 3, 4] (by decide) rfl
    have hFc := va_free (wc := [(fs, .inr (1, [.ref vt])), (vt, .inr (2, [.ref vf, .ref vv])), (vf, .inl (cJ, 1024, .inr (.inl fm))), (vv, .inl (cI, 1024, .inl vl))]) hD hS hA [1, 2, 3, 4] rfl
    refine va_calli (va_runVN (As := [.long (if (cside (pop (fa ||| fb)) 0) = 1 then fa else fb), .long (coth fa fb 0), .int 1]) (rest := []) ⟨hx, hb, hml, hown, hts⟩ (c_X3_valueToPut_f1 l D cI cJ s.heap.size  fs vt vf vv fm vl hT (if (cside (pop (fa ||| fb)) 0) = 1 then fa else fb) (coth fa fb 0) hB) ⟨va_cnB 3 hts gX6_solveWith_X3_valueToPut_n244 rfl rfl rfl hnest244 hiniX3 (by decide +kernel) ⟨Nat.le_of_ble_eq_true rfl, Nat.le_of_ble_eq_true rfl⟩, hts (.instanceMethod yX3_valueToPut) (by decide +kernel), hts (.selects RX3 yX3_valueToPut yX3_valueToPut) (by decide +kernel)⟩ ⟨(px_blindE pv_blind), va_recv hK hPc (ci := 1) (q0 := 0) rfl rfl, fun U hU hW => ⟨rfl, hEN.warm hW, by rw [hU], by rw [hU]; exact hPc, va_K.moved hW.alike hK, hDc.weaken (fun _ _ _ _ => trivial)⟩⟩ rfl rfl hl.1 rfl (lv_room (Nat.le_of_ble_eq_true rfl)) dX6_solveWith_55 ⟨(Nat.le_of_ble_eq_true rfl), (Nat.le_of_ble_eq_true rfl)⟩) hS (fun q _ h => hFc q h) hFc (fun r55 u t9 H1 locs hth hvm hw55 hB hz1 hk1 hS => ?_)
    obtain ⟨fm55, vl55⟩ := u
    try dsimp only at hw55
    obtain ⟨hP1, hK1, hD1⟩ := hB
    rw [hth] at hP1
    obtain ⟨hP, hD⟩ := va_join (wr := [(h0, .inr (3, [.ref lg, .ref fs, .ref ps, .long fa, .long fb, .int 0, .int re]))]) (w1 := [(fs, .inr (1, [.ref vt])), (vt, .inr (2, [.ref vf, .ref vv])), (vf, .inl (cJ, 1024, .inr (.inl fm55))), (vv, .inl (cI, 1024, .inl vl55))]) hP hD [1, 2, 3, 4] [0] rfl rfl (by decide) (by decide) hk1 hFc hP1 hD1
    generalize H1 = H at hP hS ⊢
    have hP : va_P D vwCl [(h0, .inr (3, [.ref lg, .ref fs, .ref ps, .long fa, .long fb, .int 0, .int re])), (fs, .inr (1, [.ref vt])), (vt, .inr (2, [.ref vf, .ref vv])), (vf, .inl (cJ, 1024, .inr (.inl fm55))), (vv, .inl (cI, 1024, .inl vl55))] H := hP.sub (ws' := [(h0, .inr (3, [.ref lg, .ref fs, .ref ps, .long fa, .long fb, .int 0, .int re])), (fs, .inr (1, [.ref vt])), (vt, .inr (2, [.ref vf, .ref vv])), (vf, .inl (cJ, 1024, .inr (.inl fm55))), (vv, .inl (cI, 1024, .inl vl55))]) [0, 1, 2, 3, 4] rfl
    have hD : va_D A [(h0, .inr (3, [.ref lg, .ref fs, .ref ps, .long fa, .long fb, .int 0, .int re])), (fs, .inr (1, [.ref vt])), (vt, .inr (2, [.ref vf, .ref vv])), (vf, .inl (cJ, 1024, .inr (.inl fm55))), (vv, .inl (cI, 1024, .inl vl55))] := hD.sub (ws' := [(h0, .inr (3, [.ref lg, .ref fs, .ref ps, .long fa, .long fb, .int 0, .int re])), (fs, .inr (1, [.ref vt])), (vt, .inr (2, [.ref vf, .ref vv])), (vf, .inl (cJ, 1024, .inr (.inl fm55))), (vv, .inl (cI, 1024, .inl vl55))]) [0, 1, 2, 3, 4] (by decide) rfl
    obtain ⟨hv9, hT55⟩ := hw55
    obtain rfl := hv9.symm
    refine W.iret (v := (vput 1 (if (cside (pop (fa ||| fb)) 0) = 1 then fa else fb) (coth fa fb 0))) hx hb hr (fun tt ht hW => ⟨⟨(vput 1 (if (cside (pop (fa ||| fb)) 0) = 1 then fa else fb) (coth fa fb 0)), (fm55, vl55), rfl, ?_, by rw [ht]; exact hP, va_K.moved hW.alike hK, hD⟩, hS.F ht⟩) hS.2.2 dX6_solveWith_58
    exact ⟨rfl, hT55⟩
  · exact absurd c34 (by decide)

set_option maxHeartbeats 400000 in
set_option maxRecDepth 100000 in
theorem c_X6_solveWith_p1_0 (l : Launch) (D : va_G) (cI cJ : ClassId) (h0 lg fs ps : Nat) (fa fb : Int64) (re : Int32)  (hn : pop (cempty fa fb) = 1) : Met l yX6_solveWith wsX6_solveWith ({ frames := 16, cells := 0, slots := 0, locals := 463 } : Room) (va_Pc [.ref h0, .ref ps] (px_E (px_W D [(h0, .inr (3, [.ref lg, .ref fs, .ref ps, .long fa, .long fb, .int 0, .int re])), (ps, .inr (1, [.null]))] [(cI, .int), (cJ, .long)]))) (vp_Si (fun r => r = vput 1 (cown fa fb 0) (coth fa fb 0))) 0 0 (fun _ => False) := by
  refine Met.ofW (cc := cX6_solveWith) (maxL := 8) (ret := (some .int)) (by decide) rfl ?_
  intro p e s m args below meth c s₁ B hml hv
  obtain ⟨rfl, hEN, hP, hK⟩ := hv
  have hx := B.exec
  have hb := B.bytes
  have hr := B.returns
  have hts := atoms_spec (ws := wsX6_solveWith) B.pre
  have hown : s.vm.findClass RX6 = some m.cls := findClass_of_methodNamed B.named
  have hlocks := B.notSynchronized
  have hinX6 : ∀ w ∈ wsX60, w ∈ wsX6_solveWith := by decide +kernel
  have hfl72 : (Cond.fieldLink RX6 72 "Twistquad" "mustTurn" "Z").before ([.ref h0, .ref ps] : List Value).toArray s = true := hts _ (by decide +kernel)
  have hnest244 : va_Nw (.methodLinkNest RX6 244 yX3_valueToPut RX6) s := hEN.2.2.2.2.2
  have hiniX3 : (Cond.initialized (yX3_valueToPut).cls).before ([.ref h0, .ref ps] : List Value).toArray s = true := hts (.initialized RX3) (by decide +kernel)
  have hl := lv_entry ([.ref h0, .ref ps]) (n := 8) (Nat.le_of_ble_eq_true rfl)
  rw [lg_entry_eq]
  generalize (lg_sl ([.ref h0, .ref ps]) ++ List.replicate (8 - (lg_sl ([.ref h0, .ref ps])).length) Slot.unset).toArray = ls at hl ⊢
  have hl : lv_has ls 8 [(0, .ref h0), (1, .ref ps)] := hl
  refine lv_aload_n hx hb dX6_solveWith_0 rfl (lv_at hl 0 rfl) ?_
  refine vp_callSi (W.runV (As := []) (rest := []) ⟨hx, hb, hml, hown, hts⟩ (c_X6_sideToAct l D cI cJ h0 lg fs ps fa fb 0 re (Or.inl rfl)) (cwV 0 hts gX6_solveWith_X6_sideToAct rfl rfl rfl (by decide +kernel) ⟨Nat.le_of_ble_eq_true rfl, Nat.le_of_ble_eq_true rfl⟩) ⟨px_blindW, va_recv hK hP (ci := 3) (q0 := 0) rfl rfl, fun U hU hW => ⟨rfl, by rw [hU]; exact hP.sub (ws' := [(h0, .inr (3, [.ref lg, .ref fs, .ref ps, .long fa, .long fb, .int 0, .int re]))]) [0] rfl, va_K.moved hW.alike hK⟩⟩ rfl rfl hl.1 rfl (lv_room (Nat.le_of_ble_eq_true rfl)) dX6_solveWith_1 ⟨(Nat.le_of_ble_eq_true rfl), (Nat.le_of_ble_eq_true rfl)⟩) (fun r1 er1 => ?_)
  obtain rfl := er1.symm
  refine lv_istore_n (lv' := [(2, .int (cside (pop (fa ||| fb)) 0)), (0, .ref h0), (1, .ref ps)]) hx hb dX6_solveWith_4 rfl hl (by decide) rfl (fun ls hl => ?_)
  refine lv_aload_n hx hb dX6_solveWith_5 rfl (lv_at hl 1 rfl) ?_
  refine lv_iload_n hx hb dX6_solveWith_6 rfl (lv_at hl 0 rfl) ?_
  refine vp_callSl (W.runV (As := [.int (cside (pop (fa ||| fb)) 0)]) (rest := []) ⟨hx, hb, hml, hown, hts⟩ (c_X6_marblesOf l D cI cJ h0 lg fs ps fa fb 0 re (cside (pop (fa ||| fb)) 0)) (cwV 1 hts gX6_solveWith_X6_marblesOf rfl rfl rfl (by decide +kernel) ⟨Nat.le_of_ble_eq_true rfl, Nat.le_of_ble_eq_true rfl⟩) ⟨px_blindW, va_recv hK hP (ci := 3) (q0 := 0) rfl rfl, fun U hU hW => ⟨rfl, by rw [hU]; exact hP.sub (ws' := [(h0, .inr (3, [.ref lg, .ref fs, .ref ps, .long fa, .long fb, .int 0, .int re]))]) [0] rfl, va_K.moved hW.alike hK⟩⟩ rfl rfl hl.1 rfl (lv_room (Nat.le_of_ble_eq_true rfl)) dX6_solveWith_7 ⟨(Nat.le_of_ble_eq_true rfl), (Nat.le_of_ble_eq_true rfl)⟩) (fun r7 er7 => ?_)
  obtain rfl := er7.symm
  refine lv_lstore_n (lv' := [(3, .long (if (cside (pop (fa ||| fb)) 0) = 1 then fa else fb)), (2, .int (cside (pop (fa ||| fb)) 0)), (0, .ref h0), (1, .ref ps)]) hx hb dX6_solveWith_10 rfl hl (by decide) rfl (fun ls hl => ?_)
  refine lv_aload_n hx hb dX6_solveWith_11 rfl (lv_at hl 2 rfl) ?_
  refine lv_iload_n hx hb dX6_solveWith_12 rfl (lv_at hl 1 rfl) ?_
  refine vp_callSi (W.runS (As := [.int (cside (pop (fa ||| fb)) 0)]) (rest := [.ref h0]) ⟨hx, hb, hml, hown, hts⟩ (c_X6_otherSide l (cside (pop (fa ||| fb)) 0)) (va_cwS 1 hts gX6_solveWith_X6_otherSide rfl rfl rfl (by decide +kernel) ⟨Nat.le_of_ble_eq_true rfl, Nat.le_of_ble_eq_true rfl⟩) ⟨px_blind0, fun U hU hW => ⟨rfl, trivial⟩⟩ rfl rfl hl.1 rfl (lv_room (Nat.le_of_ble_eq_true rfl)) dX6_solveWith_13 ⟨(Nat.le_of_ble_eq_true rfl), (Nat.le_of_ble_eq_true rfl)⟩) (fun r13 er13 => ?_)
  obtain rfl := er13.symm
  refine vp_callSl (W.runV (As := [.int (if (cside (pop (fa ||| fb)) 0) = 1 then 2 else 1)]) (rest := []) ⟨hx, hb, hml, hown, hts⟩ (c_X6_marblesOf l D cI cJ h0 lg fs ps fa fb 0 re (if (cside (pop (fa ||| fb)) 0) = 1 then 2 else 1)) (cwV 1 hts gX6_solveWith_X6_marblesOf rfl rfl rfl (by decide +kernel) ⟨Nat.le_of_ble_eq_true rfl, Nat.le_of_ble_eq_true rfl⟩) ⟨px_blindW, va_recv hK hP (ci := 3) (q0 := 0) rfl rfl, fun U hU hW => ⟨rfl, by rw [hU]; exact hP.sub (ws' := [(h0, .inr (3, [.ref lg, .ref fs, .ref ps, .long fa, .long fb, .int 0, .int re]))]) [0] rfl, va_K.moved hW.alike hK⟩⟩ rfl rfl hl.1 rfl (lv_room (Nat.le_of_ble_eq_true rfl)) dX6_solveWith_16 ⟨(Nat.le_of_ble_eq_true rfl), (Nat.le_of_ble_eq_true rfl)⟩) (fun r16 er16 => ?_)
  obtain rfl := er16.symm
  refine pk_tl (y := (coth fa fb 0)) (rfl) ?_
  refine lv_lstore (lv' := [(5, .long (coth fa fb 0)), (3, .long (if (cside (pop (fa ||| fb)) 0) = 1 then fa else fb)), (2, .int (cside (pop (fa ||| fb)) 0)), (0, .ref h0), (1, .ref ps)]) hx hb dX6_solveWith_19 hl (by decide) rfl (fun ls hl => ?_)
  refine lv_aload_n hx hb dX6_solveWith_21 rfl (lv_at hl 3 rfl) ?_
  refine vp_callSl (W.runV (As := []) (rest := []) ⟨hx, hb, hml, hown, hts⟩ (c_X6_emptyCells l D cI cJ h0 lg fs ps fa fb 0 re ) (cwV 0 hts gX6_solveWith_X6_emptyCells rfl rfl rfl (by decide +kernel) ⟨Nat.le_of_ble_eq_true rfl, Nat.le_of_ble_eq_true rfl⟩) ⟨px_blindW, va_recv hK hP (ci := 3) (q0 := 0) rfl rfl, fun U hU hW => ⟨rfl, by rw [hU]; exact hP.sub (ws' := [(h0, .inr (3, [.ref lg, .ref fs, .ref ps, .long fa, .long fb, .int 0, .int re]))]) [0] rfl, va_K.moved hW.alike hK⟩⟩ rfl rfl hl.1 rfl (lv_room (Nat.le_of_ble_eq_true rfl)) dX6_solveWith_22 ⟨(Nat.le_of_ble_eq_true rfl), (Nat.le_of_ble_eq_true rfl)⟩) (fun r22 er22 => ?_)
  obtain rfl := er22.symm
  refine vp_callSi (W.runS (As := [.long (cempty fa fb)]) (rest := []) ⟨hx, hb, hml, hown, hts⟩ (c_J13_bitCount_95d88 l (cempty fa fb)) (va_cwS 1 hts gX6_solveWith_J13_bitCount_95d88 rfl rfl rfl (by decide +kernel) ⟨Nat.le_of_ble_eq_true rfl, Nat.le_of_ble_eq_true rfl⟩) ⟨px_blind0, fun U hU hW => ⟨rfl, trivial⟩⟩ rfl rfl hl.1 rfl (lv_room (Nat.le_of_ble_eq_true rfl)) dX6_solveWith_25 ⟨(Nat.le_of_ble_eq_true rfl), (Nat.le_of_ble_eq_true rfl)⟩) (fun r25 er25 => ?_)
  obtain rfl := er25.symm
  refine pk_ti (y := 1) (congrArg nI hn) ?_
  refine lv_istore (lv' := [(7, .int 1), (5, .long (coth fa fb 0)), (3, .long (if (cside (pop (fa ||| fb)) 0) = 1 then fa else fb)), (2, .int (cside (pop (fa ||| fb)) 0)), (0, .ref h0), (1, .ref ps)]) hx hb dX6_solveWith_28 hl (by decide) rfl (fun ls hl => ?_)
  refine lv_aload_n hx hb dX6_solveWith_30 rfl (lv_at hl 4 rfl) ?_
  refine va_get (D := D) (ci := 3) (v := .int 0) (C := RX6) (T := TX6) (N := 7) hx hb hts hinX6 hown hK hP 0 rfl rfl 5 (by decide) hfl72 (fun _ h9 => h9) rfl dX6_solveWith_31 ?_
  refine lv_if_eq (tgt := 49) hx hb dX6_solveWith_34 (by decide) (fun c34 => ?_) (fun c34 => ?_)
  · refine lv_aload_n hx hb dX6_solveWith_49 rfl (lv_at hl 5 rfl) ?_
    refine lv_lload_n hx hb dX6_solveWith_50 rfl (lv_at hl 2 rfl) ?_
    refine lv_lload hx hb dX6_solveWith_51 (lv_at hl 1 rfl) ?_
    refine lv_iload hx hb dX6_solveWith_53 (lv_at hl 0 rfl) ?_
    refine vp_callSi (va_Run.run (va_runVN (As := [.long (if (cside (pop (fa ||| fb)) 0) = 1 then fa else fb), .long (coth fa fb 0), .int 1]) (rest := []) ⟨hx, hb, hml, hown, hts⟩ (c_X3_valueToPut_p1 l D cI cJ ps (if (cside (pop (fa ||| fb)) 0) = 1 then fa else fb) (coth fa fb 0)) ⟨va_cnB 3 hts gX6_solveWith_X3_valueToPut_n244 rfl rfl rfl hnest244 hiniX3 (by decide +kernel) ⟨Nat.le_of_ble_eq_true rfl, Nat.le_of_ble_eq_true rfl⟩, hts (.instanceMethod yX3_valueToPut) (by decide +kernel), hts (.selects RX3 yX3_valueToPut yX3_valueToPut) (by decide +kernel)⟩ ⟨(px_blindE px_blindW), va_recv hK hP (ci := 1) (q0 := 1) rfl rfl, fun U hU hW => ⟨rfl, hEN.warm hW, by rw [hU]; exact hP.sub (ws' := [(ps, .inr (1, [.null]))]) [1] rfl, va_K.moved hW.alike hK⟩⟩ rfl rfl hl.1 rfl (lv_room (Nat.le_of_ble_eq_true rfl)) dX6_solveWith_55 ⟨(Nat.le_of_ble_eq_true rfl), (Nat.le_of_ble_eq_true rfl)⟩)) (fun r55 er55 => ?_)
    obtain rfl := er55.symm
    refine W.iret (v := (vput 1 (if (cside (pop (fa ||| fb)) 0) = 1 then fa else fb) (coth fa fb 0))) hx hb hr (fun tt ht hW => ⟨(vput 1 (if (cside (pop (fa ||| fb)) 0) = 1 then fa else fb) (coth fa fb 0)), rfl, ?_, ht⟩) (fun _ h => nomatch h) dX6_solveWith_58
    exact rfl
  · exact absurd c34 (by decide)

set_option maxHeartbeats 400000 in
set_option maxRecDepth 100000 in
theorem c_X6_solveWith_f2_0 (l : Launch) (D : va_G) (cI cJ : ClassId) (sz : Nat) (h0 lg fs ps vt vf vv : Nat) (fa fb : Int64) (re : Int32) (fm : Nat → Int64) (vl : Nat → Int32) (hT : TI fm vl)  (hn : pop (cempty fa fb) = 2) (hB : BV 2 (cown fa fb 0) (coth fa fb 0)) : Met l yX6_solveWith wsX6_solveWith ({ frames := 16, cells := 0, slots := 0, locals := 463 } : Room) (va_Pc [.ref h0, .ref fs] (px_E (pv_C D cI cJ [(h0, .inr (3, [.ref lg, .ref fs, .ref ps, .long fa, .long fb, .int 0, .int re])), (fs, .inr (1, [.ref vt])), (vt, .inr (2, [.ref vf, .ref vv])), (vf, .inl (cJ, 1024, .inr (.inl fm))), (vv, .inl (cI, 1024, .inl vl))] sz))) (va_Qi (fun (r : Int32) (u : (Nat → Int64) × (Nat → Int32)) => r = vput 2 (cown fa fb 0) (coth fa fb 0) ∧ TI u.1 u.2) (fun (u : (Nat → Int64) × (Nat → Int32)) => pv_B D cI cJ (va_A [(h0, .inr (3, [.ref lg, .ref fs, .ref ps, .long fa, .long fb, .int 0, .int re])), (fs, .inr (1, [.ref vt])), (vt, .inr (2, [.ref vf, .ref vv])), (vf, .inl (cJ, 1024, .inr (.inl fm))), (vv, .inl (cI, 1024, .inl vl))] sz) [(h0, .inr (3, [.ref lg, .ref fs, .ref ps, .long fa, .long fb, .int 0, .int re])), (fs, .inr (1, [.ref vt])), (vt, .inr (2, [.ref vf, .ref vv])), (vf, .inl (cJ, 1024, .inr (.inl u.1))), (vv, .inl (cI, 1024, .inl u.2))]) (va_A [(h0, .inr (3, [.ref lg, .ref fs, .ref ps, .long fa, .long fb, .int 0, .int re])), (fs, .inr (1, [.ref vt])), (vt, .inr (2, [.ref vf, .ref vv])), (vf, .inl (cJ, 1024, .inr (.inl fm))), (vv, .inl (cI, 1024, .inl vl))] sz)) 0 0 (va_A [(h0, .inr (3, [.ref lg, .ref fs, .ref ps, .long fa, .long fb, .int 0, .int re])), (fs, .inr (1, [.ref vt])), (vt, .inr (2, [.ref vf, .ref vv])), (vf, .inl (cJ, 1024, .inr (.inl fm))), (vv, .inl (cI, 1024, .inl vl))] sz) := by
  refine Met.ofW (cc := cX6_solveWith) (maxL := 8) (ret := (some .int)) (by decide) rfl ?_
  intro p e s m args below meth c s₁ B hml hv
  obtain ⟨rfl, hEN, rfl, hP, hK, hD0⟩ := hv
  have hx := B.exec
  have hb := B.bytes
  have hr := B.returns
  have hts := atoms_spec (ws := wsX6_solveWith) B.pre
  have hown : s.vm.findClass RX6 = some m.cls := findClass_of_methodNamed B.named
  have hlocks := B.notSynchronized
  have hD := hD0.self (sz := s.heap.size)
  generalize hAe : va_A [(h0, .inr (3, [.ref lg, .ref fs, .ref ps, .long fa, .long fb, .int 0, .int re])), (fs, .inr (1, [.ref vt])), (vt, .inr (2, [.ref vf, .ref vv])), (vf, .inl (cJ, 1024, .inr (.inl fm))), (vv, .inl (cI, 1024, .inl vl))] s.heap.size = A at hD ⊢
  have hA : ∀ q : Nat, s.heap.size ≤ q → A q := fun q h => by rw [← hAe]; exact Or.inr h
  have hS : va_S A s.heap s.heap [] := va_S.rf
  have hinX6 : ∀ w ∈ wsX60, w ∈ wsX6_solveWith := by decide +kernel
  have hfl72 : (Cond.fieldLink RX6 72 "Twistquad" "mustTurn" "Z").before ([.ref h0, .ref fs] : List Value).toArray s = true := hts _ (by decide +kernel)
  have hnest244 : va_Nw (.methodLinkNest RX6 244 yX3_valueToPut RX6) s := hEN.2.2.2.2.2
  have hiniX3 : (Cond.initialized (yX3_valueToPut).cls).before ([.ref h0, .ref fs] : List Value).toArray s = true := hts (.initialized RX3) (by decide +kernel)
  have hl := lv_entry ([.ref h0, .ref fs]) (n := 8) (Nat.le_of_ble_eq_true rfl)
  rw [lg_entry_eq]
  generalize (lg_sl ([.ref h0, .ref fs]) ++ List.replicate (8 - (lg_sl ([.ref h0, .ref fs])).length) Slot.unset).toArray = ls at hl ⊢
  have hl : lv_has ls 8 [(0, .ref h0), (1, .ref fs)] := hl
  refine lv_aload_n hx hb dX6_solveWith_0 rfl (lv_at hl 0 rfl) ?_
  refine vp_callSi (W.runV (As := []) (rest := []) ⟨hx, hb, hml, hown, hts⟩ (c_X6_sideToAct l D cI cJ h0 lg fs ps fa fb 0 re (Or.inl rfl)) (cwV 0 hts gX6_solveWith_X6_sideToAct rfl rfl rfl (by decide +kernel) ⟨Nat.le_of_ble_eq_true rfl, Nat.le_of_ble_eq_true rfl⟩) ⟨px_blindW, va_recv hK hP (ci := 3) (q0 := 0) rfl rfl, fun U hU hW => ⟨rfl, by rw [hU]; exact hP.sub (ws' := [(h0, .inr (3, [.ref lg, .ref fs, .ref ps, .long fa, .long fb, .int 0, .int re]))]) [0] rfl, va_K.moved hW.alike hK⟩⟩ rfl rfl hl.1 rfl (lv_room (Nat.le_of_ble_eq_true rfl)) dX6_solveWith_1 ⟨(Nat.le_of_ble_eq_true rfl), (Nat.le_of_ble_eq_true rfl)⟩) (fun r1 er1 => ?_)
  obtain rfl := er1.symm
  refine lv_istore_n (lv' := [(2, .int (cside (pop (fa ||| fb)) 0)), (0, .ref h0), (1, .ref fs)]) hx hb dX6_solveWith_4 rfl hl (by decide) rfl (fun ls hl => ?_)
  refine lv_aload_n hx hb dX6_solveWith_5 rfl (lv_at hl 1 rfl) ?_
  refine lv_iload_n hx hb dX6_solveWith_6 rfl (lv_at hl 0 rfl) ?_
  refine vp_callSl (W.runV (As := [.int (cside (pop (fa ||| fb)) 0)]) (rest := []) ⟨hx, hb, hml, hown, hts⟩ (c_X6_marblesOf l D cI cJ h0 lg fs ps fa fb 0 re (cside (pop (fa ||| fb)) 0)) (cwV 1 hts gX6_solveWith_X6_marblesOf rfl rfl rfl (by decide +kernel) ⟨Nat.le_of_ble_eq_true rfl, Nat.le_of_ble_eq_true rfl⟩) ⟨px_blindW, va_recv hK hP (ci := 3) (q0 := 0) rfl rfl, fun U hU hW => ⟨rfl, by rw [hU]; exact hP.sub (ws' := [(h0, .inr (3, [.ref lg, .ref fs, .ref ps, .long fa, .long fb, .int 0, .int re]))]) [0] rfl, va_K.moved hW.alike hK⟩⟩ rfl rfl hl.1 rfl (lv_room (Nat.le_of_ble_eq_true rfl)) dX6_solveWith_7 ⟨(Nat.le_of_ble_eq_true rfl), (Nat.le_of_ble_eq_true rfl)⟩) (fun r7 er7 => ?_)
  obtain rfl := er7.symm
  refine lv_lstore_n (lv' := [(3, .long (if (cside (pop (fa ||| fb)) 0) = 1 then fa else fb)), (2, .int (cside (pop (fa ||| fb)) 0)), (0, .ref h0), (1, .ref fs)]) hx hb dX6_solveWith_10 rfl hl (by decide) rfl (fun ls hl => ?_)
  refine lv_aload_n hx hb dX6_solveWith_11 rfl (lv_at hl 2 rfl) ?_
  refine lv_iload_n hx hb dX6_solveWith_12 rfl (lv_at hl 1 rfl) ?_
  refine vp_callSi (W.runS (As := [.int (cside (pop (fa ||| fb)) 0)]) (rest := [.ref h0]) ⟨hx, hb, hml, hown, hts⟩ (c_X6_otherSide l (cside (pop (fa ||| fb)) 0)) (va_cwS 1 hts gX6_solveWith_X6_otherSide rfl rfl rfl (by decide +kernel) ⟨Nat.le_of_ble_eq_true rfl, Nat.le_of_ble_eq_true rfl⟩) ⟨px_blind0, fun U hU hW => ⟨rfl, trivial⟩⟩ rfl rfl hl.1 rfl (lv_room (Nat.le_of_ble_eq_true rfl)) dX6_solveWith_13 ⟨(Nat.le_of_ble_eq_true rfl), (Nat.le_of_ble_eq_true rfl)⟩) (fun r13 er13 => ?_)
  obtain rfl := er13.symm
  refine vp_callSl (W.runV (As := [.int (if (cside (pop (fa ||| fb)) 0) = 1 then 2 else 1)]) (rest := []) ⟨hx, hb, hml, hown, hts⟩ (c_X6_marblesOf l D cI cJ h0 lg fs ps fa fb 0 re (if (cside (pop (fa ||| fb)) 0) = 1 then 2 else 1)) (cwV 1 hts gX6_solveWith_X6_marblesOf rfl rfl rfl (by decide +kernel) ⟨Nat.le_of_ble_eq_true rfl, Nat.le_of_ble_eq_true rfl⟩) ⟨px_blindW, va_recv hK hP (ci := 3) (q0 := 0) rfl rfl, fun U hU hW => ⟨rfl, by rw [hU]; exact hP.sub (ws' := [(h0, .inr (3, [.ref lg, .ref fs, .ref ps, .long fa, .long fb, .int 0, .int re]))]) [0] rfl, va_K.moved hW.alike hK⟩⟩ rfl rfl hl.1 rfl (lv_room (Nat.le_of_ble_eq_true rfl)) dX6_solveWith_16 ⟨(Nat.le_of_ble_eq_true rfl), (Nat.le_of_ble_eq_true rfl)⟩) (fun r16 er16 => ?_)
  obtain rfl := er16.symm
  refine pk_tl (y := (coth fa fb 0)) (rfl) ?_
  refine lv_lstore (lv' := [(5, .long (coth fa fb 0)), (3, .long (if (cside (pop (fa ||| fb)) 0) = 1 then fa else fb)), (2, .int (cside (pop (fa ||| fb)) 0)), (0, .ref h0), (1, .ref fs)]) hx hb dX6_solveWith_19 hl (by decide) rfl (fun ls hl => ?_)
  refine lv_aload_n hx hb dX6_solveWith_21 rfl (lv_at hl 3 rfl) ?_
  refine vp_callSl (W.runV (As := []) (rest := []) ⟨hx, hb, hml, hown, hts⟩ (c_X6_emptyCells l D cI cJ h0 lg fs ps fa fb 0 re ) (cwV 0 hts gX6_solveWith_X6_emptyCells rfl rfl rfl (by decide +kernel) ⟨Nat.le_of_ble_eq_true rfl, Nat.le_of_ble_eq_true rfl⟩) ⟨px_blindW, va_recv hK hP (ci := 3) (q0 := 0) rfl rfl, fun U hU hW => ⟨rfl, by rw [hU]; exact hP.sub (ws' := [(h0, .inr (3, [.ref lg, .ref fs, .ref ps, .long fa, .long fb, .int 0, .int re]))]) [0] rfl, va_K.moved hW.alike hK⟩⟩ rfl rfl hl.1 rfl (lv_room (Nat.le_of_ble_eq_true rfl)) dX6_solveWith_22 ⟨(Nat.le_of_ble_eq_true rfl), (Nat.le_of_ble_eq_true rfl)⟩) (fun r22 er22 => ?_)
  obtain rfl := er22.symm
  refine vp_callSi (W.runS (As := [.long (cempty fa fb)]) (rest := []) ⟨hx, hb, hml, hown, hts⟩ (c_J13_bitCount_95d88 l (cempty fa fb)) (va_cwS 1 hts gX6_solveWith_J13_bitCount_95d88 rfl rfl rfl (by decide +kernel) ⟨Nat.le_of_ble_eq_true rfl, Nat.le_of_ble_eq_true rfl⟩) ⟨px_blind0, fun U hU hW => ⟨rfl, trivial⟩⟩ rfl rfl hl.1 rfl (lv_room (Nat.le_of_ble_eq_true rfl)) dX6_solveWith_25 ⟨(Nat.le_of_ble_eq_true rfl), (Nat.le_of_ble_eq_true rfl)⟩) (fun r25 er25 => ?_)
  obtain rfl := er25.symm
  refine pk_ti (y := 2) (congrArg nI hn) ?_
  refine lv_istore (lv' := [(7, .int 2), (5, .long (coth fa fb 0)), (3, .long (if (cside (pop (fa ||| fb)) 0) = 1 then fa else fb)), (2, .int (cside (pop (fa ||| fb)) 0)), (0, .ref h0), (1, .ref fs)]) hx hb dX6_solveWith_28 hl (by decide) rfl (fun ls hl => ?_)
  refine lv_aload_n hx hb dX6_solveWith_30 rfl (lv_at hl 4 rfl) ?_
  refine va_get (D := D) (ci := 3) (v := .int 0) (C := RX6) (T := TX6) (N := 7) hx hb hts hinX6 hown hK hP 0 rfl rfl 5 (by decide) hfl72 (fun _ h9 => h9) rfl dX6_solveWith_31 ?_
  refine lv_if_eq (tgt := 49) hx hb dX6_solveWith_34 (by decide) (fun c34 => ?_) (fun c34 => ?_)
  · refine lv_aload_n hx hb dX6_solveWith_49 rfl (lv_at hl 5 rfl) ?_
    refine lv_lload_n hx hb dX6_solveWith_50 rfl (lv_at hl 2 rfl) ?_
    refine lv_lload hx hb dX6_solveWith_51 (lv_at hl 1 rfl) ?_
    refine lv_iload hx hb dX6_solveWith_53 (lv_at hl 0 rfl) ?_
    have hPc := hP.sub (ws' := [(fs, .inr (1, [.ref vt])), (vt, .inr (2, [.ref vf, .ref vv])), (vf, .inl (cJ, 1024, .inr (.inl fm))), (vv, .inl (cI, 1024, .inl vl))]) [1, 2, 3, 4] rfl
    have hDc := hD.sub (ws' := [(fs, .inr (1, [.ref vt])), (vt, .inr (2, [.ref vf, .ref vv])), (vf, .inl (cJ, 1024, .inr (.inl fm))), (vv, .inl (cI, 1024, .inl vl))]) [1, 2, 3, 4] (by decide) rfl
    have hFc := va_free (wc := [(fs, .inr (1, [.ref vt])), (vt, .inr (2, [.ref vf, .ref vv])), (vf, .inl (cJ, 1024, .inr (.inl fm))), (vv, .inl (cI, 1024, .inl vl))]) hD hS hA [1, 2, 3, 4] rfl
    refine va_calli (va_runVN (As := [.long (if (cside (pop (fa ||| fb)) 0) = 1 then fa else fb), .long (coth fa fb 0), .int 2]) (rest := []) ⟨hx, hb, hml, hown, hts⟩ (c_X3_valueToPut_f2 l D cI cJ s.heap.size  fs vt vf vv fm vl hT (if (cside (pop (fa ||| fb)) 0) = 1 then fa else fb) (coth fa fb 0) hB) ⟨va_cnB 3 hts gX6_solveWith_X3_valueToPut_n244 rfl rfl rfl hnest244 hiniX3 (by decide +kernel) ⟨Nat.le_of_ble_eq_true rfl, Nat.le_of_ble_eq_true rfl⟩, hts (.instanceMethod yX3_valueToPut) (by decide +kernel), hts (.selects RX3 yX3_valueToPut yX3_valueToPut) (by decide +kernel)⟩ ⟨(px_blindE pv_blind), va_recv hK hPc (ci := 1) (q0 := 0) rfl rfl, fun U hU hW => ⟨rfl, hEN.warm hW, by rw [hU], by rw [hU]; exact hPc, va_K.moved hW.alike hK, hDc.weaken (fun _ _ _ _ => trivial)⟩⟩ rfl rfl hl.1 rfl (lv_room (Nat.le_of_ble_eq_true rfl)) dX6_solveWith_55 ⟨(Nat.le_of_ble_eq_true rfl), (Nat.le_of_ble_eq_true rfl)⟩) hS (fun q _ h => hFc q h) hFc (fun r55 u t9 H1 locs hth hvm hw55 hB hz1 hk1 hS => ?_)
    obtain ⟨fm55, vl55⟩ := u
    try dsimp only at hw55
    obtain ⟨hP1, hK1, hD1⟩ := hB
    rw [hth] at hP1
    obtain ⟨hP, hD⟩ := va_join (wr := [(h0, .inr (3, [.ref lg, .ref fs, .ref ps, .long fa, .long fb, .int 0, .int re]))]) (w1 := [(fs, .inr (1, [.ref vt])), (vt, .inr (2, [.ref vf, .ref vv])), (vf, .inl (cJ, 1024, .inr (.inl fm55))), (vv, .inl (cI, 1024, .inl vl55))]) hP hD [1, 2, 3, 4] [0] rfl rfl (by decide) (by decide) hk1 hFc hP1 hD1
    generalize H1 = H at hP hS ⊢
    have hP : va_P D vwCl [(h0, .inr (3, [.ref lg, .ref fs, .ref ps, .long fa, .long fb, .int 0, .int re])), (fs, .inr (1, [.ref vt])), (vt, .inr (2, [.ref vf, .ref vv])), (vf, .inl (cJ, 1024, .inr (.inl fm55))), (vv, .inl (cI, 1024, .inl vl55))] H := hP.sub (ws' := [(h0, .inr (3, [.ref lg, .ref fs, .ref ps, .long fa, .long fb, .int 0, .int re])), (fs, .inr (1, [.ref vt])), (vt, .inr (2, [.ref vf, .ref vv])), (vf, .inl (cJ, 1024, .inr (.inl fm55))), (vv, .inl (cI, 1024, .inl vl55))]) [0, 1, 2, 3, 4] rfl
    have hD : va_D A [(h0, .inr (3, [.ref lg, .ref fs, .ref ps, .long fa, .long fb, .int 0, .int re])), (fs, .inr (1, [.ref vt])), (vt, .inr (2, [.ref vf, .ref vv])), (vf, .inl (cJ, 1024, .inr (.inl fm55))), (vv, .inl (cI, 1024, .inl vl55))] := hD.sub (ws' := [(h0, .inr (3, [.ref lg, .ref fs, .ref ps, .long fa, .long fb, .int 0, .int re])), (fs, .inr (1, [.ref vt])), (vt, .inr (2, [.ref vf, .ref vv])), (vf, .inl (cJ, 1024, .inr (.inl fm55))), (vv, .inl (cI, 1024, .inl vl55))]) [0, 1, 2, 3, 4] (by decide) rfl
    obtain ⟨hv9, hT55⟩ := hw55
    obtain rfl := hv9.symm
    refine W.iret (v := (vput 2 (if (cside (pop (fa ||| fb)) 0) = 1 then fa else fb) (coth fa fb 0))) hx hb hr (fun tt ht hW => ⟨⟨(vput 2 (if (cside (pop (fa ||| fb)) 0) = 1 then fa else fb) (coth fa fb 0)), (fm55, vl55), rfl, ?_, by rw [ht]; exact hP, va_K.moved hW.alike hK, hD⟩, hS.F ht⟩) hS.2.2 dX6_solveWith_58
    exact ⟨rfl, hT55⟩
  · exact absurd c34 (by decide)

set_option maxHeartbeats 400000 in
set_option maxRecDepth 100000 in
theorem c_X6_solveWith_p2_0 (l : Launch) (D : va_G) (cI cJ : ClassId) (h0 lg fs ps : Nat) (fa fb : Int64) (re : Int32)  (hn : pop (cempty fa fb) = 2) : Met l yX6_solveWith wsX6_solveWith ({ frames := 16, cells := 0, slots := 0, locals := 463 } : Room) (va_Pc [.ref h0, .ref ps] (px_E (px_W D [(h0, .inr (3, [.ref lg, .ref fs, .ref ps, .long fa, .long fb, .int 0, .int re])), (ps, .inr (1, [.null]))] [(cI, .int), (cJ, .long)]))) (vp_Si (fun r => r = vput 2 (cown fa fb 0) (coth fa fb 0))) 0 0 (fun _ => False) := by
  refine Met.ofW (cc := cX6_solveWith) (maxL := 8) (ret := (some .int)) (by decide) rfl ?_
  intro p e s m args below meth c s₁ B hml hv
  obtain ⟨rfl, hEN, hP, hK⟩ := hv
  have hx := B.exec
  have hb := B.bytes
  have hr := B.returns
  have hts := atoms_spec (ws := wsX6_solveWith) B.pre
  have hown : s.vm.findClass RX6 = some m.cls := findClass_of_methodNamed B.named
  have hlocks := B.notSynchronized
  have hinX6 : ∀ w ∈ wsX60, w ∈ wsX6_solveWith := by decide +kernel
  have hfl72 : (Cond.fieldLink RX6 72 "Twistquad" "mustTurn" "Z").before ([.ref h0, .ref ps] : List Value).toArray s = true := hts _ (by decide +kernel)
  have hnest244 : va_Nw (.methodLinkNest RX6 244 yX3_valueToPut RX6) s := hEN.2.2.2.2.2
  have hiniX3 : (Cond.initialized (yX3_valueToPut).cls).before ([.ref h0, .ref ps] : List Value).toArray s = true := hts (.initialized RX3) (by decide +kernel)
  have hl := lv_entry ([.ref h0, .ref ps]) (n := 8) (Nat.le_of_ble_eq_true rfl)
  rw [lg_entry_eq]
  generalize (lg_sl ([.ref h0, .ref ps]) ++ List.replicate (8 - (lg_sl ([.ref h0, .ref ps])).length) Slot.unset).toArray = ls at hl ⊢
  have hl : lv_has ls 8 [(0, .ref h0), (1, .ref ps)] := hl
  refine lv_aload_n hx hb dX6_solveWith_0 rfl (lv_at hl 0 rfl) ?_
  refine vp_callSi (W.runV (As := []) (rest := []) ⟨hx, hb, hml, hown, hts⟩ (c_X6_sideToAct l D cI cJ h0 lg fs ps fa fb 0 re (Or.inl rfl)) (cwV 0 hts gX6_solveWith_X6_sideToAct rfl rfl rfl (by decide +kernel) ⟨Nat.le_of_ble_eq_true rfl, Nat.le_of_ble_eq_true rfl⟩) ⟨px_blindW, va_recv hK hP (ci := 3) (q0 := 0) rfl rfl, fun U hU hW => ⟨rfl, by rw [hU]; exact hP.sub (ws' := [(h0, .inr (3, [.ref lg, .ref fs, .ref ps, .long fa, .long fb, .int 0, .int re]))]) [0] rfl, va_K.moved hW.alike hK⟩⟩ rfl rfl hl.1 rfl (lv_room (Nat.le_of_ble_eq_true rfl)) dX6_solveWith_1 ⟨(Nat.le_of_ble_eq_true rfl), (Nat.le_of_ble_eq_true rfl)⟩) (fun r1 er1 => ?_)
  obtain rfl := er1.symm
  refine lv_istore_n (lv' := [(2, .int (cside (pop (fa ||| fb)) 0)), (0, .ref h0), (1, .ref ps)]) hx hb dX6_solveWith_4 rfl hl (by decide) rfl (fun ls hl => ?_)
  refine lv_aload_n hx hb dX6_solveWith_5 rfl (lv_at hl 1 rfl) ?_
  refine lv_iload_n hx hb dX6_solveWith_6 rfl (lv_at hl 0 rfl) ?_
  refine vp_callSl (W.runV (As := [.int (cside (pop (fa ||| fb)) 0)]) (rest := []) ⟨hx, hb, hml, hown, hts⟩ (c_X6_marblesOf l D cI cJ h0 lg fs ps fa fb 0 re (cside (pop (fa ||| fb)) 0)) (cwV 1 hts gX6_solveWith_X6_marblesOf rfl rfl rfl (by decide +kernel) ⟨Nat.le_of_ble_eq_true rfl, Nat.le_of_ble_eq_true rfl⟩) ⟨px_blindW, va_recv hK hP (ci := 3) (q0 := 0) rfl rfl, fun U hU hW => ⟨rfl, by rw [hU]; exact hP.sub (ws' := [(h0, .inr (3, [.ref lg, .ref fs, .ref ps, .long fa, .long fb, .int 0, .int re]))]) [0] rfl, va_K.moved hW.alike hK⟩⟩ rfl rfl hl.1 rfl (lv_room (Nat.le_of_ble_eq_true rfl)) dX6_solveWith_7 ⟨(Nat.le_of_ble_eq_true rfl), (Nat.le_of_ble_eq_true rfl)⟩) (fun r7 er7 => ?_)
  obtain rfl := er7.symm
  refine lv_lstore_n (lv' := [(3, .long (if (cside (pop (fa ||| fb)) 0) = 1 then fa else fb)), (2, .int (cside (pop (fa ||| fb)) 0)), (0, .ref h0), (1, .ref ps)]) hx hb dX6_solveWith_10 rfl hl (by decide) rfl (fun ls hl => ?_)
  refine lv_aload_n hx hb dX6_solveWith_11 rfl (lv_at hl 2 rfl) ?_
  refine lv_iload_n hx hb dX6_solveWith_12 rfl (lv_at hl 1 rfl) ?_
  refine vp_callSi (W.runS (As := [.int (cside (pop (fa ||| fb)) 0)]) (rest := [.ref h0]) ⟨hx, hb, hml, hown, hts⟩ (c_X6_otherSide l (cside (pop (fa ||| fb)) 0)) (va_cwS 1 hts gX6_solveWith_X6_otherSide rfl rfl rfl (by decide +kernel) ⟨Nat.le_of_ble_eq_true rfl, Nat.le_of_ble_eq_true rfl⟩) ⟨px_blind0, fun U hU hW => ⟨rfl, trivial⟩⟩ rfl rfl hl.1 rfl (lv_room (Nat.le_of_ble_eq_true rfl)) dX6_solveWith_13 ⟨(Nat.le_of_ble_eq_true rfl), (Nat.le_of_ble_eq_true rfl)⟩) (fun r13 er13 => ?_)
  obtain rfl := er13.symm
  refine vp_callSl (W.runV (As := [.int (if (cside (pop (fa ||| fb)) 0) = 1 then 2 else 1)]) (rest := []) ⟨hx, hb, hml, hown, hts⟩ (c_X6_marblesOf l D cI cJ h0 lg fs ps fa fb 0 re (if (cside (pop (fa ||| fb)) 0) = 1 then 2 else 1)) (cwV 1 hts gX6_solveWith_X6_marblesOf rfl rfl rfl (by decide +kernel) ⟨Nat.le_of_ble_eq_true rfl, Nat.le_of_ble_eq_true rfl⟩) ⟨px_blindW, va_recv hK hP (ci := 3) (q0 := 0) rfl rfl, fun U hU hW => ⟨rfl, by rw [hU]; exact hP.sub (ws' := [(h0, .inr (3, [.ref lg, .ref fs, .ref ps, .long fa, .long fb, .int 0, .int re]))]) [0] rfl, va_K.moved hW.alike hK⟩⟩ rfl rfl hl.1 rfl (lv_room (Nat.le_of_ble_eq_true rfl)) dX6_solveWith_16 ⟨(Nat.le_of_ble_eq_true rfl), (Nat.le_of_ble_eq_true rfl)⟩) (fun r16 er16 => ?_)
  obtain rfl := er16.symm
  refine pk_tl (y := (coth fa fb 0)) (rfl) ?_
  refine lv_lstore (lv' := [(5, .long (coth fa fb 0)), (3, .long (if (cside (pop (fa ||| fb)) 0) = 1 then fa else fb)), (2, .int (cside (pop (fa ||| fb)) 0)), (0, .ref h0), (1, .ref ps)]) hx hb dX6_solveWith_19 hl (by decide) rfl (fun ls hl => ?_)
  refine lv_aload_n hx hb dX6_solveWith_21 rfl (lv_at hl 3 rfl) ?_
  refine vp_callSl (W.runV (As := []) (rest := []) ⟨hx, hb, hml, hown, hts⟩ (c_X6_emptyCells l D cI cJ h0 lg fs ps fa fb 0 re ) (cwV 0 hts gX6_solveWith_X6_emptyCells rfl rfl rfl (by decide +kernel) ⟨Nat.le_of_ble_eq_true rfl, Nat.le_of_ble_eq_true rfl⟩) ⟨px_blindW, va_recv hK hP (ci := 3) (q0 := 0) rfl rfl, fun U hU hW => ⟨rfl, by rw [hU]; exact hP.sub (ws' := [(h0, .inr (3, [.ref lg, .ref fs, .ref ps, .long fa, .long fb, .int 0, .int re]))]) [0] rfl, va_K.moved hW.alike hK⟩⟩ rfl rfl hl.1 rfl (lv_room (Nat.le_of_ble_eq_true rfl)) dX6_solveWith_22 ⟨(Nat.le_of_ble_eq_true rfl), (Nat.le_of_ble_eq_true rfl)⟩) (fun r22 er22 => ?_)
  obtain rfl := er22.symm
  refine vp_callSi (W.runS (As := [.long (cempty fa fb)]) (rest := []) ⟨hx, hb, hml, hown, hts⟩ (c_J13_bitCount_95d88 l (cempty fa fb)) (va_cwS 1 hts gX6_solveWith_J13_bitCount_95d88 rfl rfl rfl (by decide +kernel) ⟨Nat.le_of_ble_eq_true rfl, Nat.le_of_ble_eq_true rfl⟩) ⟨px_blind0, fun U hU hW => ⟨rfl, trivial⟩⟩ rfl rfl hl.1 rfl (lv_room (Nat.le_of_ble_eq_true rfl)) dX6_solveWith_25 ⟨(Nat.le_of_ble_eq_true rfl), (Nat.le_of_ble_eq_true rfl)⟩) (fun r25 er25 => ?_)
  obtain rfl := er25.symm
  refine pk_ti (y := 2) (congrArg nI hn) ?_
  refine lv_istore (lv' := [(7, .int 2), (5, .long (coth fa fb 0)), (3, .long (if (cside (pop (fa ||| fb)) 0) = 1 then fa else fb)), (2, .int (cside (pop (fa ||| fb)) 0)), (0, .ref h0), (1, .ref ps)]) hx hb dX6_solveWith_28 hl (by decide) rfl (fun ls hl => ?_)
  refine lv_aload_n hx hb dX6_solveWith_30 rfl (lv_at hl 4 rfl) ?_
  refine va_get (D := D) (ci := 3) (v := .int 0) (C := RX6) (T := TX6) (N := 7) hx hb hts hinX6 hown hK hP 0 rfl rfl 5 (by decide) hfl72 (fun _ h9 => h9) rfl dX6_solveWith_31 ?_
  refine lv_if_eq (tgt := 49) hx hb dX6_solveWith_34 (by decide) (fun c34 => ?_) (fun c34 => ?_)
  · refine lv_aload_n hx hb dX6_solveWith_49 rfl (lv_at hl 5 rfl) ?_
    refine lv_lload_n hx hb dX6_solveWith_50 rfl (lv_at hl 2 rfl) ?_
    refine lv_lload hx hb dX6_solveWith_51 (lv_at hl 1 rfl) ?_
    refine lv_iload hx hb dX6_solveWith_53 (lv_at hl 0 rfl) ?_
    refine vp_callSi (va_Run.run (va_runVN (As := [.long (if (cside (pop (fa ||| fb)) 0) = 1 then fa else fb), .long (coth fa fb 0), .int 2]) (rest := []) ⟨hx, hb, hml, hown, hts⟩ (c_X3_valueToPut_p2 l D cI cJ ps (if (cside (pop (fa ||| fb)) 0) = 1 then fa else fb) (coth fa fb 0)) ⟨va_cnB 3 hts gX6_solveWith_X3_valueToPut_n244 rfl rfl rfl hnest244 hiniX3 (by decide +kernel) ⟨Nat.le_of_ble_eq_true rfl, Nat.le_of_ble_eq_true rfl⟩, hts (.instanceMethod yX3_valueToPut) (by decide +kernel), hts (.selects RX3 yX3_valueToPut yX3_valueToPut) (by decide +kernel)⟩ ⟨(px_blindE px_blindW), va_recv hK hP (ci := 1) (q0 := 1) rfl rfl, fun U hU hW => ⟨rfl, hEN.warm hW, by rw [hU]; exact hP.sub (ws' := [(ps, .inr (1, [.null]))]) [1] rfl, va_K.moved hW.alike hK⟩⟩ rfl rfl hl.1 rfl (lv_room (Nat.le_of_ble_eq_true rfl)) dX6_solveWith_55 ⟨(Nat.le_of_ble_eq_true rfl), (Nat.le_of_ble_eq_true rfl)⟩)) (fun r55 er55 => ?_)
    obtain rfl := er55.symm
    refine W.iret (v := (vput 2 (if (cside (pop (fa ||| fb)) 0) = 1 then fa else fb) (coth fa fb 0))) hx hb hr (fun tt ht hW => ⟨(vput 2 (if (cside (pop (fa ||| fb)) 0) = 1 then fa else fb) (coth fa fb 0)), rfl, ?_, ht⟩) (fun _ h => nomatch h) dX6_solveWith_58
    exact rfl
  · exact absurd c34 (by decide)

set_option maxHeartbeats 400000 in
set_option maxRecDepth 100000 in
theorem c_X6_solveWith_f3_0 (l : Launch) (D : va_G) (cI cJ : ClassId) (sz : Nat) (h0 lg fs ps vt vf vv : Nat) (fa fb : Int64) (re : Int32) (fm : Nat → Int64) (vl : Nat → Int32) (hT : TI fm vl)  (hn : pop (cempty fa fb) = 3) (hB : BV 3 (cown fa fb 0) (coth fa fb 0)) : Met l yX6_solveWith wsX6_solveWith ({ frames := 16, cells := 0, slots := 0, locals := 463 } : Room) (va_Pc [.ref h0, .ref fs] (px_E (pv_C D cI cJ [(h0, .inr (3, [.ref lg, .ref fs, .ref ps, .long fa, .long fb, .int 0, .int re])), (fs, .inr (1, [.ref vt])), (vt, .inr (2, [.ref vf, .ref vv])), (vf, .inl (cJ, 1024, .inr (.inl fm))), (vv, .inl (cI, 1024, .inl vl))] sz))) (va_Qi (fun (r : Int32) (u : (Nat → Int64) × (Nat → Int32)) => r = vput 3 (cown fa fb 0) (coth fa fb 0) ∧ TI u.1 u.2) (fun (u : (Nat → Int64) × (Nat → Int32)) => pv_B D cI cJ (va_A [(h0, .inr (3, [.ref lg, .ref fs, .ref ps, .long fa, .long fb, .int 0, .int re])), (fs, .inr (1, [.ref vt])), (vt, .inr (2, [.ref vf, .ref vv])), (vf, .inl (cJ, 1024, .inr (.inl fm))), (vv, .inl (cI, 1024, .inl vl))] sz) [(h0, .inr (3, [.ref lg, .ref fs, .ref ps, .long fa, .long fb, .int 0, .int re])), (fs, .inr (1, [.ref vt])), (vt, .inr (2, [.ref vf, .ref vv])), (vf, .inl (cJ, 1024, .inr (.inl u.1))), (vv, .inl (cI, 1024, .inl u.2))]) (va_A [(h0, .inr (3, [.ref lg, .ref fs, .ref ps, .long fa, .long fb, .int 0, .int re])), (fs, .inr (1, [.ref vt])), (vt, .inr (2, [.ref vf, .ref vv])), (vf, .inl (cJ, 1024, .inr (.inl fm))), (vv, .inl (cI, 1024, .inl vl))] sz)) 0 0 (va_A [(h0, .inr (3, [.ref lg, .ref fs, .ref ps, .long fa, .long fb, .int 0, .int re])), (fs, .inr (1, [.ref vt])), (vt, .inr (2, [.ref vf, .ref vv])), (vf, .inl (cJ, 1024, .inr (.inl fm))), (vv, .inl (cI, 1024, .inl vl))] sz) := by
  refine Met.ofW (cc := cX6_solveWith) (maxL := 8) (ret := (some .int)) (by decide) rfl ?_
  intro p e s m args below meth c s₁ B hml hv
  obtain ⟨rfl, hEN, rfl, hP, hK, hD0⟩ := hv
  have hx := B.exec
  have hb := B.bytes
  have hr := B.returns
  have hts := atoms_spec (ws := wsX6_solveWith) B.pre
  have hown : s.vm.findClass RX6 = some m.cls := findClass_of_methodNamed B.named
  have hlocks := B.notSynchronized
  have hD := hD0.self (sz := s.heap.size)
  generalize hAe : va_A [(h0, .inr (3, [.ref lg, .ref fs, .ref ps, .long fa, .long fb, .int 0, .int re])), (fs, .inr (1, [.ref vt])), (vt, .inr (2, [.ref vf, .ref vv])), (vf, .inl (cJ, 1024, .inr (.inl fm))), (vv, .inl (cI, 1024, .inl vl))] s.heap.size = A at hD ⊢
  have hA : ∀ q : Nat, s.heap.size ≤ q → A q := fun q h => by rw [← hAe]; exact Or.inr h
  have hS : va_S A s.heap s.heap [] := va_S.rf
  have hinX6 : ∀ w ∈ wsX60, w ∈ wsX6_solveWith := by decide +kernel
  have hfl72 : (Cond.fieldLink RX6 72 "Twistquad" "mustTurn" "Z").before ([.ref h0, .ref fs] : List Value).toArray s = true := hts _ (by decide +kernel)
  have hnest244 : va_Nw (.methodLinkNest RX6 244 yX3_valueToPut RX6) s := hEN.2.2.2.2.2
  have hiniX3 : (Cond.initialized (yX3_valueToPut).cls).before ([.ref h0, .ref fs] : List Value).toArray s = true := hts (.initialized RX3) (by decide +kernel)
  have hl := lv_entry ([.ref h0, .ref fs]) (n := 8) (Nat.le_of_ble_eq_true rfl)
  rw [lg_entry_eq]
  generalize (lg_sl ([.ref h0, .ref fs]) ++ List.replicate (8 - (lg_sl ([.ref h0, .ref fs])).length) Slot.unset).toArray = ls at hl ⊢
  have hl : lv_has ls 8 [(0, .ref h0), (1, .ref fs)] := hl
  refine lv_aload_n hx hb dX6_solveWith_0 rfl (lv_at hl 0 rfl) ?_
  refine vp_callSi (W.runV (As := []) (rest := []) ⟨hx, hb, hml, hown, hts⟩ (c_X6_sideToAct l D cI cJ h0 lg fs ps fa fb 0 re (Or.inl rfl)) (cwV 0 hts gX6_solveWith_X6_sideToAct rfl rfl rfl (by decide +kernel) ⟨Nat.le_of_ble_eq_true rfl, Nat.le_of_ble_eq_true rfl⟩) ⟨px_blindW, va_recv hK hP (ci := 3) (q0 := 0) rfl rfl, fun U hU hW => ⟨rfl, by rw [hU]; exact hP.sub (ws' := [(h0, .inr (3, [.ref lg, .ref fs, .ref ps, .long fa, .long fb, .int 0, .int re]))]) [0] rfl, va_K.moved hW.alike hK⟩⟩ rfl rfl hl.1 rfl (lv_room (Nat.le_of_ble_eq_true rfl)) dX6_solveWith_1 ⟨(Nat.le_of_ble_eq_true rfl), (Nat.le_of_ble_eq_true rfl)⟩) (fun r1 er1 => ?_)
  obtain rfl := er1.symm
  refine lv_istore_n (lv' := [(2, .int (cside (pop (fa ||| fb)) 0)), (0, .ref h0), (1, .ref fs)]) hx hb dX6_solveWith_4 rfl hl (by decide) rfl (fun ls hl => ?_)
  refine lv_aload_n hx hb dX6_solveWith_5 rfl (lv_at hl 1 rfl) ?_
  refine lv_iload_n hx hb dX6_solveWith_6 rfl (lv_at hl 0 rfl) ?_
  refine vp_callSl (W.runV (As := [.int (cside (pop (fa ||| fb)) 0)]) (rest := []) ⟨hx, hb, hml, hown, hts⟩ (c_X6_marblesOf l D cI cJ h0 lg fs ps fa fb 0 re (cside (pop (fa ||| fb)) 0)) (cwV 1 hts gX6_solveWith_X6_marblesOf rfl rfl rfl (by decide +kernel) ⟨Nat.le_of_ble_eq_true rfl, Nat.le_of_ble_eq_true rfl⟩) ⟨px_blindW, va_recv hK hP (ci := 3) (q0 := 0) rfl rfl, fun U hU hW => ⟨rfl, by rw [hU]; exact hP.sub (ws' := [(h0, .inr (3, [.ref lg, .ref fs, .ref ps, .long fa, .long fb, .int 0, .int re]))]) [0] rfl, va_K.moved hW.alike hK⟩⟩ rfl rfl hl.1 rfl (lv_room (Nat.le_of_ble_eq_true rfl)) dX6_solveWith_7 ⟨(Nat.le_of_ble_eq_true rfl), (Nat.le_of_ble_eq_true rfl)⟩) (fun r7 er7 => ?_)
  obtain rfl := er7.symm
  refine lv_lstore_n (lv' := [(3, .long (if (cside (pop (fa ||| fb)) 0) = 1 then fa else fb)), (2, .int (cside (pop (fa ||| fb)) 0)), (0, .ref h0), (1, .ref fs)]) hx hb dX6_solveWith_10 rfl hl (by decide) rfl (fun ls hl => ?_)
  refine lv_aload_n hx hb dX6_solveWith_11 rfl (lv_at hl 2 rfl) ?_
  refine lv_iload_n hx hb dX6_solveWith_12 rfl (lv_at hl 1 rfl) ?_
  refine vp_callSi (W.runS (As := [.int (cside (pop (fa ||| fb)) 0)]) (rest := [.ref h0]) ⟨hx, hb, hml, hown, hts⟩ (c_X6_otherSide l (cside (pop (fa ||| fb)) 0)) (va_cwS 1 hts gX6_solveWith_X6_otherSide rfl rfl rfl (by decide +kernel) ⟨Nat.le_of_ble_eq_true rfl, Nat.le_of_ble_eq_true rfl⟩) ⟨px_blind0, fun U hU hW => ⟨rfl, trivial⟩⟩ rfl rfl hl.1 rfl (lv_room (Nat.le_of_ble_eq_true rfl)) dX6_solveWith_13 ⟨(Nat.le_of_ble_eq_true rfl), (Nat.le_of_ble_eq_true rfl)⟩) (fun r13 er13 => ?_)
  obtain rfl := er13.symm
  refine vp_callSl (W.runV (As := [.int (if (cside (pop (fa ||| fb)) 0) = 1 then 2 else 1)]) (rest := []) ⟨hx, hb, hml, hown, hts⟩ (c_X6_marblesOf l D cI cJ h0 lg fs ps fa fb 0 re (if (cside (pop (fa ||| fb)) 0) = 1 then 2 else 1)) (cwV 1 hts gX6_solveWith_X6_marblesOf rfl rfl rfl (by decide +kernel) ⟨Nat.le_of_ble_eq_true rfl, Nat.le_of_ble_eq_true rfl⟩) ⟨px_blindW, va_recv hK hP (ci := 3) (q0 := 0) rfl rfl, fun U hU hW => ⟨rfl, by rw [hU]; exact hP.sub (ws' := [(h0, .inr (3, [.ref lg, .ref fs, .ref ps, .long fa, .long fb, .int 0, .int re]))]) [0] rfl, va_K.moved hW.alike hK⟩⟩ rfl rfl hl.1 rfl (lv_room (Nat.le_of_ble_eq_true rfl)) dX6_solveWith_16 ⟨(Nat.le_of_ble_eq_true rfl), (Nat.le_of_ble_eq_true rfl)⟩) (fun r16 er16 => ?_)
  obtain rfl := er16.symm
  refine pk_tl (y := (coth fa fb 0)) (rfl) ?_
  refine lv_lstore (lv' := [(5, .long (coth fa fb 0)), (3, .long (if (cside (pop (fa ||| fb)) 0) = 1 then fa else fb)), (2, .int (cside (pop (fa ||| fb)) 0)), (0, .ref h0), (1, .ref fs)]) hx hb dX6_solveWith_19 hl (by decide) rfl (fun ls hl => ?_)
  refine lv_aload_n hx hb dX6_solveWith_21 rfl (lv_at hl 3 rfl) ?_
  refine vp_callSl (W.runV (As := []) (rest := []) ⟨hx, hb, hml, hown, hts⟩ (c_X6_emptyCells l D cI cJ h0 lg fs ps fa fb 0 re ) (cwV 0 hts gX6_solveWith_X6_emptyCells rfl rfl rfl (by decide +kernel) ⟨Nat.le_of_ble_eq_true rfl, Nat.le_of_ble_eq_true rfl⟩) ⟨px_blindW, va_recv hK hP (ci := 3) (q0 := 0) rfl rfl, fun U hU hW => ⟨rfl, by rw [hU]; exact hP.sub (ws' := [(h0, .inr (3, [.ref lg, .ref fs, .ref ps, .long fa, .long fb, .int 0, .int re]))]) [0] rfl, va_K.moved hW.alike hK⟩⟩ rfl rfl hl.1 rfl (lv_room (Nat.le_of_ble_eq_true rfl)) dX6_solveWith_22 ⟨(Nat.le_of_ble_eq_true rfl), (Nat.le_of_ble_eq_true rfl)⟩) (fun r22 er22 => ?_)
  obtain rfl := er22.symm
  refine vp_callSi (W.runS (As := [.long (cempty fa fb)]) (rest := []) ⟨hx, hb, hml, hown, hts⟩ (c_J13_bitCount_95d88 l (cempty fa fb)) (va_cwS 1 hts gX6_solveWith_J13_bitCount_95d88 rfl rfl rfl (by decide +kernel) ⟨Nat.le_of_ble_eq_true rfl, Nat.le_of_ble_eq_true rfl⟩) ⟨px_blind0, fun U hU hW => ⟨rfl, trivial⟩⟩ rfl rfl hl.1 rfl (lv_room (Nat.le_of_ble_eq_true rfl)) dX6_solveWith_25 ⟨(Nat.le_of_ble_eq_true rfl), (Nat.le_of_ble_eq_true rfl)⟩) (fun r25 er25 => ?_)
  obtain rfl := er25.symm
  refine pk_ti (y := 3) (congrArg nI hn) ?_
  refine lv_istore (lv' := [(7, .int 3), (5, .long (coth fa fb 0)), (3, .long (if (cside (pop (fa ||| fb)) 0) = 1 then fa else fb)), (2, .int (cside (pop (fa ||| fb)) 0)), (0, .ref h0), (1, .ref fs)]) hx hb dX6_solveWith_28 hl (by decide) rfl (fun ls hl => ?_)
  refine lv_aload_n hx hb dX6_solveWith_30 rfl (lv_at hl 4 rfl) ?_
  refine va_get (D := D) (ci := 3) (v := .int 0) (C := RX6) (T := TX6) (N := 7) hx hb hts hinX6 hown hK hP 0 rfl rfl 5 (by decide) hfl72 (fun _ h9 => h9) rfl dX6_solveWith_31 ?_
  refine lv_if_eq (tgt := 49) hx hb dX6_solveWith_34 (by decide) (fun c34 => ?_) (fun c34 => ?_)
  · refine lv_aload_n hx hb dX6_solveWith_49 rfl (lv_at hl 5 rfl) ?_
    refine lv_lload_n hx hb dX6_solveWith_50 rfl (lv_at hl 2 rfl) ?_
    refine lv_lload hx hb dX6_solveWith_51 (lv_at hl 1 rfl) ?_
    refine lv_iload hx hb dX6_solveWith_53 (lv_at hl 0 rfl) ?_
    have hPc := hP.sub (ws' := [(fs, .inr (1, [.ref vt])), (vt, .inr (2, [.ref vf, .ref vv])), (vf, .inl (cJ, 1024, .inr (.inl fm))), (vv, .inl (cI, 1024, .inl vl))]) [1, 2, 3, 4] rfl
    have hDc := hD.sub (ws' := [(fs, .inr (1, [.ref vt])), (vt, .inr (2, [.ref vf, .ref vv])), (vf, .inl (cJ, 1024, .inr (.inl fm))), (vv, .inl (cI, 1024, .inl vl))]) [1, 2, 3, 4] (by decide) rfl
    have hFc := va_free (wc := [(fs, .inr (1, [.ref vt])), (vt, .inr (2, [.ref vf, .ref vv])), (vf, .inl (cJ, 1024, .inr (.inl fm))), (vv, .inl (cI, 1024, .inl vl))]) hD hS hA [1, 2, 3, 4] rfl
    refine va_calli (va_runVN (As := [.long (if (cside (pop (fa ||| fb)) 0) = 1 then fa else fb), .long (coth fa fb 0), .int 3]) (rest := []) ⟨hx, hb, hml, hown, hts⟩ (c_X3_valueToPut_f3 l D cI cJ s.heap.size  fs vt vf vv fm vl hT (if (cside (pop (fa ||| fb)) 0) = 1 then fa else fb) (coth fa fb 0) hB) ⟨va_cnB 3 hts gX6_solveWith_X3_valueToPut_n244 rfl rfl rfl hnest244 hiniX3 (by decide +kernel) ⟨Nat.le_of_ble_eq_true rfl, Nat.le_of_ble_eq_true rfl⟩, hts (.instanceMethod yX3_valueToPut) (by decide +kernel), hts (.selects RX3 yX3_valueToPut yX3_valueToPut) (by decide +kernel)⟩ ⟨(px_blindE pv_blind), va_recv hK hPc (ci := 1) (q0 := 0) rfl rfl, fun U hU hW => ⟨rfl, hEN.warm hW, by rw [hU], by rw [hU]; exact hPc, va_K.moved hW.alike hK, hDc.weaken (fun _ _ _ _ => trivial)⟩⟩ rfl rfl hl.1 rfl (lv_room (Nat.le_of_ble_eq_true rfl)) dX6_solveWith_55 ⟨(Nat.le_of_ble_eq_true rfl), (Nat.le_of_ble_eq_true rfl)⟩) hS (fun q _ h => hFc q h) hFc (fun r55 u t9 H1 locs hth hvm hw55 hB hz1 hk1 hS => ?_)
    obtain ⟨fm55, vl55⟩ := u
    try dsimp only at hw55
    obtain ⟨hP1, hK1, hD1⟩ := hB
    rw [hth] at hP1
    obtain ⟨hP, hD⟩ := va_join (wr := [(h0, .inr (3, [.ref lg, .ref fs, .ref ps, .long fa, .long fb, .int 0, .int re]))]) (w1 := [(fs, .inr (1, [.ref vt])), (vt, .inr (2, [.ref vf, .ref vv])), (vf, .inl (cJ, 1024, .inr (.inl fm55))), (vv, .inl (cI, 1024, .inl vl55))]) hP hD [1, 2, 3, 4] [0] rfl rfl (by decide) (by decide) hk1 hFc hP1 hD1
    generalize H1 = H at hP hS ⊢
    have hP : va_P D vwCl [(h0, .inr (3, [.ref lg, .ref fs, .ref ps, .long fa, .long fb, .int 0, .int re])), (fs, .inr (1, [.ref vt])), (vt, .inr (2, [.ref vf, .ref vv])), (vf, .inl (cJ, 1024, .inr (.inl fm55))), (vv, .inl (cI, 1024, .inl vl55))] H := hP.sub (ws' := [(h0, .inr (3, [.ref lg, .ref fs, .ref ps, .long fa, .long fb, .int 0, .int re])), (fs, .inr (1, [.ref vt])), (vt, .inr (2, [.ref vf, .ref vv])), (vf, .inl (cJ, 1024, .inr (.inl fm55))), (vv, .inl (cI, 1024, .inl vl55))]) [0, 1, 2, 3, 4] rfl
    have hD : va_D A [(h0, .inr (3, [.ref lg, .ref fs, .ref ps, .long fa, .long fb, .int 0, .int re])), (fs, .inr (1, [.ref vt])), (vt, .inr (2, [.ref vf, .ref vv])), (vf, .inl (cJ, 1024, .inr (.inl fm55))), (vv, .inl (cI, 1024, .inl vl55))] := hD.sub (ws' := [(h0, .inr (3, [.ref lg, .ref fs, .ref ps, .long fa, .long fb, .int 0, .int re])), (fs, .inr (1, [.ref vt])), (vt, .inr (2, [.ref vf, .ref vv])), (vf, .inl (cJ, 1024, .inr (.inl fm55))), (vv, .inl (cI, 1024, .inl vl55))]) [0, 1, 2, 3, 4] (by decide) rfl
    obtain ⟨hv9, hT55⟩ := hw55
    obtain rfl := hv9.symm
    refine W.iret (v := (vput 3 (if (cside (pop (fa ||| fb)) 0) = 1 then fa else fb) (coth fa fb 0))) hx hb hr (fun tt ht hW => ⟨⟨(vput 3 (if (cside (pop (fa ||| fb)) 0) = 1 then fa else fb) (coth fa fb 0)), (fm55, vl55), rfl, ?_, by rw [ht]; exact hP, va_K.moved hW.alike hK, hD⟩, hS.F ht⟩) hS.2.2 dX6_solveWith_58
    exact ⟨rfl, hT55⟩
  · exact absurd c34 (by decide)

set_option maxHeartbeats 400000 in
set_option maxRecDepth 100000 in
theorem c_X6_solveWith_p3_0 (l : Launch) (D : va_G) (cI cJ : ClassId) (h0 lg fs ps : Nat) (fa fb : Int64) (re : Int32)  (hn : pop (cempty fa fb) = 3) : Met l yX6_solveWith wsX6_solveWith ({ frames := 16, cells := 0, slots := 0, locals := 463 } : Room) (va_Pc [.ref h0, .ref ps] (px_E (px_W D [(h0, .inr (3, [.ref lg, .ref fs, .ref ps, .long fa, .long fb, .int 0, .int re])), (ps, .inr (1, [.null]))] [(cI, .int), (cJ, .long)]))) (vp_Si (fun r => r = vput 3 (cown fa fb 0) (coth fa fb 0))) 0 0 (fun _ => False) := by
  refine Met.ofW (cc := cX6_solveWith) (maxL := 8) (ret := (some .int)) (by decide) rfl ?_
  intro p e s m args below meth c s₁ B hml hv
  obtain ⟨rfl, hEN, hP, hK⟩ := hv
  have hx := B.exec
  have hb := B.bytes
  have hr := B.returns
  have hts := atoms_spec (ws := wsX6_solveWith) B.pre
  have hown : s.vm.findClass RX6 = some m.cls := findClass_of_methodNamed B.named
  have hlocks := B.notSynchronized
  have hinX6 : ∀ w ∈ wsX60, w ∈ wsX6_solveWith := by decide +kernel
  have hfl72 : (Cond.fieldLink RX6 72 "Twistquad" "mustTurn" "Z").before ([.ref h0, .ref ps] : List Value).toArray s = true := hts _ (by decide +kernel)
  have hnest244 : va_Nw (.methodLinkNest RX6 244 yX3_valueToPut RX6) s := hEN.2.2.2.2.2
  have hiniX3 : (Cond.initialized (yX3_valueToPut).cls).before ([.ref h0, .ref ps] : List Value).toArray s = true := hts (.initialized RX3) (by decide +kernel)
  have hl := lv_entry ([.ref h0, .ref ps]) (n := 8) (Nat.le_of_ble_eq_true rfl)
  rw [lg_entry_eq]
  generalize (lg_sl ([.ref h0, .ref ps]) ++ List.replicate (8 - (lg_sl ([.ref h0, .ref ps])).length) Slot.unset).toArray = ls at hl ⊢
  have hl : lv_has ls 8 [(0, .ref h0), (1, .ref ps)] := hl
  refine lv_aload_n hx hb dX6_solveWith_0 rfl (lv_at hl 0 rfl) ?_
  refine vp_callSi (W.runV (As := []) (rest := []) ⟨hx, hb, hml, hown, hts⟩ (c_X6_sideToAct l D cI cJ h0 lg fs ps fa fb 0 re (Or.inl rfl)) (cwV 0 hts gX6_solveWith_X6_sideToAct rfl rfl rfl (by decide +kernel) ⟨Nat.le_of_ble_eq_true rfl, Nat.le_of_ble_eq_true rfl⟩) ⟨px_blindW, va_recv hK hP (ci := 3) (q0 := 0) rfl rfl, fun U hU hW => ⟨rfl, by rw [hU]; exact hP.sub (ws' := [(h0, .inr (3, [.ref lg, .ref fs, .ref ps, .long fa, .long fb, .int 0, .int re]))]) [0] rfl, va_K.moved hW.alike hK⟩⟩ rfl rfl hl.1 rfl (lv_room (Nat.le_of_ble_eq_true rfl)) dX6_solveWith_1 ⟨(Nat.le_of_ble_eq_true rfl), (Nat.le_of_ble_eq_true rfl)⟩) (fun r1 er1 => ?_)
  obtain rfl := er1.symm
  refine lv_istore_n (lv' := [(2, .int (cside (pop (fa ||| fb)) 0)), (0, .ref h0), (1, .ref ps)]) hx hb dX6_solveWith_4 rfl hl (by decide) rfl (fun ls hl => ?_)
  refine lv_aload_n hx hb dX6_solveWith_5 rfl (lv_at hl 1 rfl) ?_
  refine lv_iload_n hx hb dX6_solveWith_6 rfl (lv_at hl 0 rfl) ?_
  refine vp_callSl (W.runV (As := [.int (cside (pop (fa ||| fb)) 0)]) (rest := []) ⟨hx, hb, hml, hown, hts⟩ (c_X6_marblesOf l D cI cJ h0 lg fs ps fa fb 0 re (cside (pop (fa ||| fb)) 0)) (cwV 1 hts gX6_solveWith_X6_marblesOf rfl rfl rfl (by decide +kernel) ⟨Nat.le_of_ble_eq_true rfl, Nat.le_of_ble_eq_true rfl⟩) ⟨px_blindW, va_recv hK hP (ci := 3) (q0 := 0) rfl rfl, fun U hU hW => ⟨rfl, by rw [hU]; exact hP.sub (ws' := [(h0, .inr (3, [.ref lg, .ref fs, .ref ps, .long fa, .long fb, .int 0, .int re]))]) [0] rfl, va_K.moved hW.alike hK⟩⟩ rfl rfl hl.1 rfl (lv_room (Nat.le_of_ble_eq_true rfl)) dX6_solveWith_7 ⟨(Nat.le_of_ble_eq_true rfl), (Nat.le_of_ble_eq_true rfl)⟩) (fun r7 er7 => ?_)
  obtain rfl := er7.symm
  refine lv_lstore_n (lv' := [(3, .long (if (cside (pop (fa ||| fb)) 0) = 1 then fa else fb)), (2, .int (cside (pop (fa ||| fb)) 0)), (0, .ref h0), (1, .ref ps)]) hx hb dX6_solveWith_10 rfl hl (by decide) rfl (fun ls hl => ?_)
  refine lv_aload_n hx hb dX6_solveWith_11 rfl (lv_at hl 2 rfl) ?_
  refine lv_iload_n hx hb dX6_solveWith_12 rfl (lv_at hl 1 rfl) ?_
  refine vp_callSi (W.runS (As := [.int (cside (pop (fa ||| fb)) 0)]) (rest := [.ref h0]) ⟨hx, hb, hml, hown, hts⟩ (c_X6_otherSide l (cside (pop (fa ||| fb)) 0)) (va_cwS 1 hts gX6_solveWith_X6_otherSide rfl rfl rfl (by decide +kernel) ⟨Nat.le_of_ble_eq_true rfl, Nat.le_of_ble_eq_true rfl⟩) ⟨px_blind0, fun U hU hW => ⟨rfl, trivial⟩⟩ rfl rfl hl.1 rfl (lv_room (Nat.le_of_ble_eq_true rfl)) dX6_solveWith_13 ⟨(Nat.le_of_ble_eq_true rfl), (Nat.le_of_ble_eq_true rfl)⟩) (fun r13 er13 => ?_)
  obtain rfl := er13.symm
  refine vp_callSl (W.runV (As := [.int (if (cside (pop (fa ||| fb)) 0) = 1 then 2 else 1)]) (rest := []) ⟨hx, hb, hml, hown, hts⟩ (c_X6_marblesOf l D cI cJ h0 lg fs ps fa fb 0 re (if (cside (pop (fa ||| fb)) 0) = 1 then 2 else 1)) (cwV 1 hts gX6_solveWith_X6_marblesOf rfl rfl rfl (by decide +kernel) ⟨Nat.le_of_ble_eq_true rfl, Nat.le_of_ble_eq_true rfl⟩) ⟨px_blindW, va_recv hK hP (ci := 3) (q0 := 0) rfl rfl, fun U hU hW => ⟨rfl, by rw [hU]; exact hP.sub (ws' := [(h0, .inr (3, [.ref lg, .ref fs, .ref ps, .long fa, .long fb, .int 0, .int re]))]) [0] rfl, va_K.moved hW.alike hK⟩⟩ rfl rfl hl.1 rfl (lv_room (Nat.le_of_ble_eq_true rfl)) dX6_solveWith_16 ⟨(Nat.le_of_ble_eq_true rfl), (Nat.le_of_ble_eq_true rfl)⟩) (fun r16 er16 => ?_)
  obtain rfl := er16.symm
  refine pk_tl (y := (coth fa fb 0)) (rfl) ?_
  refine lv_lstore (lv' := [(5, .long (coth fa fb 0)), (3, .long (if (cside (pop (fa ||| fb)) 0) = 1 then fa else fb)), (2, .int (cside (pop (fa ||| fb)) 0)), (0, .ref h0), (1, .ref ps)]) hx hb dX6_solveWith_19 hl (by decide) rfl (fun ls hl => ?_)
  refine lv_aload_n hx hb dX6_solveWith_21 rfl (lv_at hl 3 rfl) ?_
  refine vp_callSl (W.runV (As := []) (rest := []) ⟨hx, hb, hml, hown, hts⟩ (c_X6_emptyCells l D cI cJ h0 lg fs ps fa fb 0 re ) (cwV 0 hts gX6_solveWith_X6_emptyCells rfl rfl rfl (by decide +kernel) ⟨Nat.le_of_ble_eq_true rfl, Nat.le_of_ble_eq_true rfl⟩) ⟨px_blindW, va_recv hK hP (ci := 3) (q0 := 0) rfl rfl, fun U hU hW => ⟨rfl, by rw [hU]; exact hP.sub (ws' := [(h0, .inr (3, [.ref lg, .ref fs, .ref ps, .long fa, .long fb, .int 0, .int re]))]) [0] rfl, va_K.moved hW.alike hK⟩⟩ rfl rfl hl.1 rfl (lv_room (Nat.le_of_ble_eq_true rfl)) dX6_solveWith_22 ⟨(Nat.le_of_ble_eq_true rfl), (Nat.le_of_ble_eq_true rfl)⟩) (fun r22 er22 => ?_)
  obtain rfl := er22.symm
  refine vp_callSi (W.runS (As := [.long (cempty fa fb)]) (rest := []) ⟨hx, hb, hml, hown, hts⟩ (c_J13_bitCount_95d88 l (cempty fa fb)) (va_cwS 1 hts gX6_solveWith_J13_bitCount_95d88 rfl rfl rfl (by decide +kernel) ⟨Nat.le_of_ble_eq_true rfl, Nat.le_of_ble_eq_true rfl⟩) ⟨px_blind0, fun U hU hW => ⟨rfl, trivial⟩⟩ rfl rfl hl.1 rfl (lv_room (Nat.le_of_ble_eq_true rfl)) dX6_solveWith_25 ⟨(Nat.le_of_ble_eq_true rfl), (Nat.le_of_ble_eq_true rfl)⟩) (fun r25 er25 => ?_)
  obtain rfl := er25.symm
  refine pk_ti (y := 3) (congrArg nI hn) ?_
  refine lv_istore (lv' := [(7, .int 3), (5, .long (coth fa fb 0)), (3, .long (if (cside (pop (fa ||| fb)) 0) = 1 then fa else fb)), (2, .int (cside (pop (fa ||| fb)) 0)), (0, .ref h0), (1, .ref ps)]) hx hb dX6_solveWith_28 hl (by decide) rfl (fun ls hl => ?_)
  refine lv_aload_n hx hb dX6_solveWith_30 rfl (lv_at hl 4 rfl) ?_
  refine va_get (D := D) (ci := 3) (v := .int 0) (C := RX6) (T := TX6) (N := 7) hx hb hts hinX6 hown hK hP 0 rfl rfl 5 (by decide) hfl72 (fun _ h9 => h9) rfl dX6_solveWith_31 ?_
  refine lv_if_eq (tgt := 49) hx hb dX6_solveWith_34 (by decide) (fun c34 => ?_) (fun c34 => ?_)
  · refine lv_aload_n hx hb dX6_solveWith_49 rfl (lv_at hl 5 rfl) ?_
    refine lv_lload_n hx hb dX6_solveWith_50 rfl (lv_at hl 2 rfl) ?_
    refine lv_lload hx hb dX6_solveWith_51 (lv_at hl 1 rfl) ?_
    refine lv_iload hx hb dX6_solveWith_53 (lv_at hl 0 rfl) ?_
    refine vp_callSi (va_Run.run (va_runVN (As := [.long (if (cside (pop (fa ||| fb)) 0) = 1 then fa else fb), .long (coth fa fb 0), .int 3]) (rest := []) ⟨hx, hb, hml, hown, hts⟩ (c_X3_valueToPut_p3 l D cI cJ ps (if (cside (pop (fa ||| fb)) 0) = 1 then fa else fb) (coth fa fb 0)) ⟨va_cnB 3 hts gX6_solveWith_X3_valueToPut_n244 rfl rfl rfl hnest244 hiniX3 (by decide +kernel) ⟨Nat.le_of_ble_eq_true rfl, Nat.le_of_ble_eq_true rfl⟩, hts (.instanceMethod yX3_valueToPut) (by decide +kernel), hts (.selects RX3 yX3_valueToPut yX3_valueToPut) (by decide +kernel)⟩ ⟨(px_blindE px_blindW), va_recv hK hP (ci := 1) (q0 := 1) rfl rfl, fun U hU hW => ⟨rfl, hEN.warm hW, by rw [hU]; exact hP.sub (ws' := [(ps, .inr (1, [.null]))]) [1] rfl, va_K.moved hW.alike hK⟩⟩ rfl rfl hl.1 rfl (lv_room (Nat.le_of_ble_eq_true rfl)) dX6_solveWith_55 ⟨(Nat.le_of_ble_eq_true rfl), (Nat.le_of_ble_eq_true rfl)⟩)) (fun r55 er55 => ?_)
    obtain rfl := er55.symm
    refine W.iret (v := (vput 3 (if (cside (pop (fa ||| fb)) 0) = 1 then fa else fb) (coth fa fb 0))) hx hb hr (fun tt ht hW => ⟨(vput 3 (if (cside (pop (fa ||| fb)) 0) = 1 then fa else fb) (coth fa fb 0)), rfl, ?_, ht⟩) (fun _ h => nomatch h) dX6_solveWith_58
    exact rfl
  · exact absurd c34 (by decide)

theorem c_X6_solveWith_f_0 (l : Launch) (D : va_G) (cI cJ : ClassId) (sz : Nat) (h0 lg fs ps vt vf vv : Nat) (fa fb : Int64) (re : Int32) (fm : Nat → Int64) (vl : Nat → Int32) (hT : TI fm vl)  (n : Nat) (hn3 : n ≤ 3) (hn : pop (cempty fa fb) = n) (hB : BV n (cown fa fb 0) (coth fa fb 0)) : Met l yX6_solveWith wsX6_solveWith ({ frames := 16, cells := 0, slots := 0, locals := 463 } : Room) (va_Pc [.ref h0, .ref fs] (px_E (pv_C D cI cJ [(h0, .inr (3, [.ref lg, .ref fs, .ref ps, .long fa, .long fb, .int 0, .int re])), (fs, .inr (1, [.ref vt])), (vt, .inr (2, [.ref vf, .ref vv])), (vf, .inl (cJ, 1024, .inr (.inl fm))), (vv, .inl (cI, 1024, .inl vl))] sz))) (va_Qi (fun (r : Int32) (u : (Nat → Int64) × (Nat → Int32)) => r = vput n (cown fa fb 0) (coth fa fb 0) ∧ TI u.1 u.2) (fun (u : (Nat → Int64) × (Nat → Int32)) => pv_B D cI cJ (va_A [(h0, .inr (3, [.ref lg, .ref fs, .ref ps, .long fa, .long fb, .int 0, .int re])), (fs, .inr (1, [.ref vt])), (vt, .inr (2, [.ref vf, .ref vv])), (vf, .inl (cJ, 1024, .inr (.inl fm))), (vv, .inl (cI, 1024, .inl vl))] sz) [(h0, .inr (3, [.ref lg, .ref fs, .ref ps, .long fa, .long fb, .int 0, .int re])), (fs, .inr (1, [.ref vt])), (vt, .inr (2, [.ref vf, .ref vv])), (vf, .inl (cJ, 1024, .inr (.inl u.1))), (vv, .inl (cI, 1024, .inl u.2))]) (va_A [(h0, .inr (3, [.ref lg, .ref fs, .ref ps, .long fa, .long fb, .int 0, .int re])), (fs, .inr (1, [.ref vt])), (vt, .inr (2, [.ref vf, .ref vv])), (vf, .inl (cJ, 1024, .inr (.inl fm))), (vv, .inl (cI, 1024, .inl vl))] sz)) 0 0 (va_A [(h0, .inr (3, [.ref lg, .ref fs, .ref ps, .long fa, .long fb, .int 0, .int re])), (fs, .inr (1, [.ref vt])), (vt, .inr (2, [.ref vf, .ref vv])), (vf, .inl (cJ, 1024, .inr (.inl fm))), (vv, .inl (cI, 1024, .inl vl))] sz) := by
  match n, hn3, hn, hB with
  | 0, _, hn, hB => exact c_X6_solveWith_f0_0 l D cI cJ sz h0 lg fs ps vt vf vv fa fb re fm vl hT  hn hB
  | 1, _, hn, hB => exact c_X6_solveWith_f1_0 l D cI cJ sz h0 lg fs ps vt vf vv fa fb re fm vl hT  hn hB
  | 2, _, hn, hB => exact c_X6_solveWith_f2_0 l D cI cJ sz h0 lg fs ps vt vf vv fa fb re fm vl hT  hn hB
  | 3, _, hn, hB => exact c_X6_solveWith_f3_0 l D cI cJ sz h0 lg fs ps vt vf vv fa fb re fm vl hT  hn hB
  | n + 4, h, _, _ => omega

theorem c_X6_solveWith_p_0 (l : Launch) (D : va_G) (cI cJ : ClassId) (h0 lg fs ps : Nat) (fa fb : Int64) (re : Int32)  (n : Nat) (hn3 : n ≤ 3) (hn : pop (cempty fa fb) = n) : Met l yX6_solveWith wsX6_solveWith ({ frames := 16, cells := 0, slots := 0, locals := 463 } : Room) (va_Pc [.ref h0, .ref ps] (px_E (px_W D [(h0, .inr (3, [.ref lg, .ref fs, .ref ps, .long fa, .long fb, .int 0, .int re])), (ps, .inr (1, [.null]))] [(cI, .int), (cJ, .long)]))) (vp_Si (fun r => r = vput n (cown fa fb 0) (coth fa fb 0))) 0 0 (fun _ => False) := by
  match n, hn3, hn with
  | 0, _, hn => exact c_X6_solveWith_p0_0 l D cI cJ h0 lg fs ps fa fb re  hn
  | 1, _, hn => exact c_X6_solveWith_p1_0 l D cI cJ h0 lg fs ps fa fb re  hn
  | 2, _, hn => exact c_X6_solveWith_p2_0 l D cI cJ h0 lg fs ps fa fb re  hn
  | 3, _, hn => exact c_X6_solveWith_p3_0 l D cI cJ h0 lg fs ps fa fb re  hn
  | n + 4, h, _ => omega

set_option maxHeartbeats 400000 in
set_option maxRecDepth 100000 in
theorem c_X6_solveWith_f0_1 (l : Launch) (D : va_G) (cI cJ : ClassId) (sz : Nat) (h0 lg fs ps vt vf vv : Nat) (fa fb : Int64) (re : Int32) (fm : Nat → Int64) (vl : Nat → Int32) (hT : TI fm vl) (hp : 0 < pop (fa ||| fb)) (hn : pop (cempty fa fb) = 0) (hB : BH 0 (cown fa fb 1) (coth fa fb 1)) : Met l yX6_solveWith wsX6_solveWith ({ frames := 16, cells := 0, slots := 0, locals := 463 } : Room) (va_Pc [.ref h0, .ref fs] (px_E (pv_C D cI cJ [(h0, .inr (3, [.ref lg, .ref fs, .ref ps, .long fa, .long fb, .int 1, .int re])), (fs, .inr (1, [.ref vt])), (vt, .inr (2, [.ref vf, .ref vv])), (vf, .inl (cJ, 1024, .inr (.inl fm))), (vv, .inl (cI, 1024, .inl vl))] sz))) (va_Qi (fun (r : Int32) (u : (Nat → Int64) × (Nat → Int32)) => r = vturn (vput 0) (cown fa fb 1) (coth fa fb 1) 8 ∧ TI u.1 u.2) (fun (u : (Nat → Int64) × (Nat → Int32)) => pv_B D cI cJ (va_A [(h0, .inr (3, [.ref lg, .ref fs, .ref ps, .long fa, .long fb, .int 1, .int re])), (fs, .inr (1, [.ref vt])), (vt, .inr (2, [.ref vf, .ref vv])), (vf, .inl (cJ, 1024, .inr (.inl fm))), (vv, .inl (cI, 1024, .inl vl))] sz) [(h0, .inr (3, [.ref lg, .ref fs, .ref ps, .long fa, .long fb, .int 1, .int re])), (fs, .inr (1, [.ref vt])), (vt, .inr (2, [.ref vf, .ref vv])), (vf, .inl (cJ, 1024, .inr (.inl u.1))), (vv, .inl (cI, 1024, .inl u.2))]) (va_A [(h0, .inr (3, [.ref lg, .ref fs, .ref ps, .long fa, .long fb, .int 1, .int re])), (fs, .inr (1, [.ref vt])), (vt, .inr (2, [.ref vf, .ref vv])), (vf, .inl (cJ, 1024, .inr (.inl fm))), (vv, .inl (cI, 1024, .inl vl))] sz)) 0 0 (va_A [(h0, .inr (3, [.ref lg, .ref fs, .ref ps, .long fa, .long fb, .int 1, .int re])), (fs, .inr (1, [.ref vt])), (vt, .inr (2, [.ref vf, .ref vv])), (vf, .inl (cJ, 1024, .inr (.inl fm))), (vv, .inl (cI, 1024, .inl vl))] sz) := by
  refine Met.ofW (cc := cX6_solveWith) (maxL := 8) (ret := (some .int)) (by decide) rfl ?_
  intro p e s m args below meth c s₁ B hml hv
  obtain ⟨rfl, hEN, rfl, hP, hK, hD0⟩ := hv
  have hx := B.exec
  have hb := B.bytes
  have hr := B.returns
  have hts := atoms_spec (ws := wsX6_solveWith) B.pre
  have hown : s.vm.findClass RX6 = some m.cls := findClass_of_methodNamed B.named
  have hlocks := B.notSynchronized
  have hD := hD0.self (sz := s.heap.size)
  generalize hAe : va_A [(h0, .inr (3, [.ref lg, .ref fs, .ref ps, .long fa, .long fb, .int 1, .int re])), (fs, .inr (1, [.ref vt])), (vt, .inr (2, [.ref vf, .ref vv])), (vf, .inl (cJ, 1024, .inr (.inl fm))), (vv, .inl (cI, 1024, .inl vl))] s.heap.size = A at hD ⊢
  have hA : ∀ q : Nat, s.heap.size ≤ q → A q := fun q h => by rw [← hAe]; exact Or.inr h
  have hS : va_S A s.heap s.heap [] := va_S.rf
  have hinX6 : ∀ w ∈ wsX60, w ∈ wsX6_solveWith := by decide +kernel
  have hfl72 : (Cond.fieldLink RX6 72 "Twistquad" "mustTurn" "Z").before ([.ref h0, .ref fs] : List Value).toArray s = true := hts _ (by decide +kernel)
  have hnest241 : va_Nw (.methodLinkNest RX6 241 yX3_valueToTurn RX6) s := hEN.2.2.2.2.1
  have hiniX3 : (Cond.initialized (yX3_valueToTurn).cls).before ([.ref h0, .ref fs] : List Value).toArray s = true := hts (.initialized RX3) (by decide +kernel)
  have hl := lv_entry ([.ref h0, .ref fs]) (n := 8) (Nat.le_of_ble_eq_true rfl)
  rw [lg_entry_eq]
  generalize (lg_sl ([.ref h0, .ref fs]) ++ List.replicate (8 - (lg_sl ([.ref h0, .ref fs])).length) Slot.unset).toArray = ls at hl ⊢
  have hl : lv_has ls 8 [(0, .ref h0), (1, .ref fs)] := hl
  refine lv_aload_n hx hb dX6_solveWith_0 rfl (lv_at hl 0 rfl) ?_
  refine vp_callSi (W.runV (As := []) (rest := []) ⟨hx, hb, hml, hown, hts⟩ (c_X6_sideToAct l D cI cJ h0 lg fs ps fa fb 1 re (Or.inr hp)) (cwV 0 hts gX6_solveWith_X6_sideToAct rfl rfl rfl (by decide +kernel) ⟨Nat.le_of_ble_eq_true rfl, Nat.le_of_ble_eq_true rfl⟩) ⟨px_blindW, va_recv hK hP (ci := 3) (q0 := 0) rfl rfl, fun U hU hW => ⟨rfl, by rw [hU]; exact hP.sub (ws' := [(h0, .inr (3, [.ref lg, .ref fs, .ref ps, .long fa, .long fb, .int 1, .int re]))]) [0] rfl, va_K.moved hW.alike hK⟩⟩ rfl rfl hl.1 rfl (lv_room (Nat.le_of_ble_eq_true rfl)) dX6_solveWith_1 ⟨(Nat.le_of_ble_eq_true rfl), (Nat.le_of_ble_eq_true rfl)⟩) (fun r1 er1 => ?_)
  obtain rfl := er1.symm
  refine lv_istore_n (lv' := [(2, .int (cside (pop (fa ||| fb)) 1)), (0, .ref h0), (1, .ref fs)]) hx hb dX6_solveWith_4 rfl hl (by decide) rfl (fun ls hl => ?_)
  refine lv_aload_n hx hb dX6_solveWith_5 rfl (lv_at hl 1 rfl) ?_
  refine lv_iload_n hx hb dX6_solveWith_6 rfl (lv_at hl 0 rfl) ?_
  refine vp_callSl (W.runV (As := [.int (cside (pop (fa ||| fb)) 1)]) (rest := []) ⟨hx, hb, hml, hown, hts⟩ (c_X6_marblesOf l D cI cJ h0 lg fs ps fa fb 1 re (cside (pop (fa ||| fb)) 1)) (cwV 1 hts gX6_solveWith_X6_marblesOf rfl rfl rfl (by decide +kernel) ⟨Nat.le_of_ble_eq_true rfl, Nat.le_of_ble_eq_true rfl⟩) ⟨px_blindW, va_recv hK hP (ci := 3) (q0 := 0) rfl rfl, fun U hU hW => ⟨rfl, by rw [hU]; exact hP.sub (ws' := [(h0, .inr (3, [.ref lg, .ref fs, .ref ps, .long fa, .long fb, .int 1, .int re]))]) [0] rfl, va_K.moved hW.alike hK⟩⟩ rfl rfl hl.1 rfl (lv_room (Nat.le_of_ble_eq_true rfl)) dX6_solveWith_7 ⟨(Nat.le_of_ble_eq_true rfl), (Nat.le_of_ble_eq_true rfl)⟩) (fun r7 er7 => ?_)
  obtain rfl := er7.symm
  refine lv_lstore_n (lv' := [(3, .long (if (cside (pop (fa ||| fb)) 1) = 1 then fa else fb)), (2, .int (cside (pop (fa ||| fb)) 1)), (0, .ref h0), (1, .ref fs)]) hx hb dX6_solveWith_10 rfl hl (by decide) rfl (fun ls hl => ?_)
  refine lv_aload_n hx hb dX6_solveWith_11 rfl (lv_at hl 2 rfl) ?_
  refine lv_iload_n hx hb dX6_solveWith_12 rfl (lv_at hl 1 rfl) ?_
  refine vp_callSi (W.runS (As := [.int (cside (pop (fa ||| fb)) 1)]) (rest := [.ref h0]) ⟨hx, hb, hml, hown, hts⟩ (c_X6_otherSide l (cside (pop (fa ||| fb)) 1)) (va_cwS 1 hts gX6_solveWith_X6_otherSide rfl rfl rfl (by decide +kernel) ⟨Nat.le_of_ble_eq_true rfl, Nat.le_of_ble_eq_true rfl⟩) ⟨px_blind0, fun U hU hW => ⟨rfl, trivial⟩⟩ rfl rfl hl.1 rfl (lv_room (Nat.le_of_ble_eq_true rfl)) dX6_solveWith_13 ⟨(Nat.le_of_ble_eq_true rfl), (Nat.le_of_ble_eq_true rfl)⟩) (fun r13 er13 => ?_)
  obtain rfl := er13.symm
  refine vp_callSl (W.runV (As := [.int (if (cside (pop (fa ||| fb)) 1) = 1 then 2 else 1)]) (rest := []) ⟨hx, hb, hml, hown, hts⟩ (c_X6_marblesOf l D cI cJ h0 lg fs ps fa fb 1 re (if (cside (pop (fa ||| fb)) 1) = 1 then 2 else 1)) (cwV 1 hts gX6_solveWith_X6_marblesOf rfl rfl rfl (by decide +kernel) ⟨Nat.le_of_ble_eq_true rfl, Nat.le_of_ble_eq_true rfl⟩) ⟨px_blindW, va_recv hK hP (ci := 3) (q0 := 0) rfl rfl, fun U hU hW => ⟨rfl, by rw [hU]; exact hP.sub (ws' := [(h0, .inr (3, [.ref lg, .ref fs, .ref ps, .long fa, .long fb, .int 1, .int re]))]) [0] rfl, va_K.moved hW.alike hK⟩⟩ rfl rfl hl.1 rfl (lv_room (Nat.le_of_ble_eq_true rfl)) dX6_solveWith_16 ⟨(Nat.le_of_ble_eq_true rfl), (Nat.le_of_ble_eq_true rfl)⟩) (fun r16 er16 => ?_)
  obtain rfl := er16.symm
  refine pk_tl (y := (coth fa fb 1)) (rfl) ?_
  refine lv_lstore (lv' := [(5, .long (coth fa fb 1)), (3, .long (if (cside (pop (fa ||| fb)) 1) = 1 then fa else fb)), (2, .int (cside (pop (fa ||| fb)) 1)), (0, .ref h0), (1, .ref fs)]) hx hb dX6_solveWith_19 hl (by decide) rfl (fun ls hl => ?_)
  refine lv_aload_n hx hb dX6_solveWith_21 rfl (lv_at hl 3 rfl) ?_
  refine vp_callSl (W.runV (As := []) (rest := []) ⟨hx, hb, hml, hown, hts⟩ (c_X6_emptyCells l D cI cJ h0 lg fs ps fa fb 1 re ) (cwV 0 hts gX6_solveWith_X6_emptyCells rfl rfl rfl (by decide +kernel) ⟨Nat.le_of_ble_eq_true rfl, Nat.le_of_ble_eq_true rfl⟩) ⟨px_blindW, va_recv hK hP (ci := 3) (q0 := 0) rfl rfl, fun U hU hW => ⟨rfl, by rw [hU]; exact hP.sub (ws' := [(h0, .inr (3, [.ref lg, .ref fs, .ref ps, .long fa, .long fb, .int 1, .int re]))]) [0] rfl, va_K.moved hW.alike hK⟩⟩ rfl rfl hl.1 rfl (lv_room (Nat.le_of_ble_eq_true rfl)) dX6_solveWith_22 ⟨(Nat.le_of_ble_eq_true rfl), (Nat.le_of_ble_eq_true rfl)⟩) (fun r22 er22 => ?_)
  obtain rfl := er22.symm
  refine vp_callSi (W.runS (As := [.long (cempty fa fb)]) (rest := []) ⟨hx, hb, hml, hown, hts⟩ (c_J13_bitCount_95d88 l (cempty fa fb)) (va_cwS 1 hts gX6_solveWith_J13_bitCount_95d88 rfl rfl rfl (by decide +kernel) ⟨Nat.le_of_ble_eq_true rfl, Nat.le_of_ble_eq_true rfl⟩) ⟨px_blind0, fun U hU hW => ⟨rfl, trivial⟩⟩ rfl rfl hl.1 rfl (lv_room (Nat.le_of_ble_eq_true rfl)) dX6_solveWith_25 ⟨(Nat.le_of_ble_eq_true rfl), (Nat.le_of_ble_eq_true rfl)⟩) (fun r25 er25 => ?_)
  obtain rfl := er25.symm
  refine pk_ti (y := 0) (congrArg nI hn) ?_
  refine lv_istore (lv' := [(7, .int 0), (5, .long (coth fa fb 1)), (3, .long (if (cside (pop (fa ||| fb)) 1) = 1 then fa else fb)), (2, .int (cside (pop (fa ||| fb)) 1)), (0, .ref h0), (1, .ref fs)]) hx hb dX6_solveWith_28 hl (by decide) rfl (fun ls hl => ?_)
  refine lv_aload_n hx hb dX6_solveWith_30 rfl (lv_at hl 4 rfl) ?_
  refine va_get (D := D) (ci := 3) (v := .int 1) (C := RX6) (T := TX6) (N := 7) hx hb hts hinX6 hown hK hP 0 rfl rfl 5 (by decide) hfl72 (fun _ h9 => h9) rfl dX6_solveWith_31 ?_
  refine lv_if_eq (tgt := 49) hx hb dX6_solveWith_34 (by decide) (fun c34 => ?_) (fun c34 => ?_)
  · exact absurd c34 (by decide)
  · refine lv_aload_n hx hb dX6_solveWith_37 rfl (lv_at hl 5 rfl) ?_
    refine lv_lload_n hx hb dX6_solveWith_38 rfl (lv_at hl 2 rfl) ?_
    refine lv_lload hx hb dX6_solveWith_39 (lv_at hl 1 rfl) ?_
    refine lv_iload hx hb dX6_solveWith_41 (lv_at hl 0 rfl) ?_
    have hPc := hP.sub (ws' := [(fs, .inr (1, [.ref vt])), (vt, .inr (2, [.ref vf, .ref vv])), (vf, .inl (cJ, 1024, .inr (.inl fm))), (vv, .inl (cI, 1024, .inl vl))]) [1, 2, 3, 4] rfl
    have hDc := hD.sub (ws' := [(fs, .inr (1, [.ref vt])), (vt, .inr (2, [.ref vf, .ref vv])), (vf, .inl (cJ, 1024, .inr (.inl fm))), (vv, .inl (cI, 1024, .inl vl))]) [1, 2, 3, 4] (by decide) rfl
    have hFc := va_free (wc := [(fs, .inr (1, [.ref vt])), (vt, .inr (2, [.ref vf, .ref vv])), (vf, .inl (cJ, 1024, .inr (.inl fm))), (vv, .inl (cI, 1024, .inl vl))]) hD hS hA [1, 2, 3, 4] rfl
    refine va_calli (va_runVN (As := [.long (if (cside (pop (fa ||| fb)) 1) = 1 then fa else fb), .long (coth fa fb 1), .int 0]) (rest := []) ⟨hx, hb, hml, hown, hts⟩ (c_X3_valueToTurn_f0 l D cI cJ s.heap.size  fs vt vf vv fm vl hT (if (cside (pop (fa ||| fb)) 1) = 1 then fa else fb) (coth fa fb 1) hB) ⟨va_cnB 3 hts gX6_solveWith_X3_valueToTurn_n241 rfl rfl rfl hnest241 hiniX3 (by decide +kernel) ⟨Nat.le_of_ble_eq_true rfl, Nat.le_of_ble_eq_true rfl⟩, hts (.instanceMethod yX3_valueToTurn) (by decide +kernel), hts (.selects RX3 yX3_valueToTurn yX3_valueToTurn) (by decide +kernel)⟩ ⟨(px_blindE pv_blind), va_recv hK hPc (ci := 1) (q0 := 0) rfl rfl, fun U hU hW => ⟨rfl, hEN.warm hW, by rw [hU], by rw [hU]; exact hPc, va_K.moved hW.alike hK, hDc.weaken (fun _ _ _ _ => trivial)⟩⟩ rfl rfl hl.1 rfl (lv_room (Nat.le_of_ble_eq_true rfl)) dX6_solveWith_43 ⟨(Nat.le_of_ble_eq_true rfl), (Nat.le_of_ble_eq_true rfl)⟩) hS (fun q _ h => hFc q h) hFc (fun r43 u t9 H1 locs hth hvm hw43 hB hz1 hk1 hS => ?_)
    obtain ⟨fm43, vl43⟩ := u
    try dsimp only at hw43
    obtain ⟨hP1, hK1, hD1⟩ := hB
    rw [hth] at hP1
    obtain ⟨hP, hD⟩ := va_join (wr := [(h0, .inr (3, [.ref lg, .ref fs, .ref ps, .long fa, .long fb, .int 1, .int re]))]) (w1 := [(fs, .inr (1, [.ref vt])), (vt, .inr (2, [.ref vf, .ref vv])), (vf, .inl (cJ, 1024, .inr (.inl fm43))), (vv, .inl (cI, 1024, .inl vl43))]) hP hD [1, 2, 3, 4] [0] rfl rfl (by decide) (by decide) hk1 hFc hP1 hD1
    generalize H1 = H at hP hS ⊢
    have hP : va_P D vwCl [(h0, .inr (3, [.ref lg, .ref fs, .ref ps, .long fa, .long fb, .int 1, .int re])), (fs, .inr (1, [.ref vt])), (vt, .inr (2, [.ref vf, .ref vv])), (vf, .inl (cJ, 1024, .inr (.inl fm43))), (vv, .inl (cI, 1024, .inl vl43))] H := hP.sub (ws' := [(h0, .inr (3, [.ref lg, .ref fs, .ref ps, .long fa, .long fb, .int 1, .int re])), (fs, .inr (1, [.ref vt])), (vt, .inr (2, [.ref vf, .ref vv])), (vf, .inl (cJ, 1024, .inr (.inl fm43))), (vv, .inl (cI, 1024, .inl vl43))]) [0, 1, 2, 3, 4] rfl
    have hD : va_D A [(h0, .inr (3, [.ref lg, .ref fs, .ref ps, .long fa, .long fb, .int 1, .int re])), (fs, .inr (1, [.ref vt])), (vt, .inr (2, [.ref vf, .ref vv])), (vf, .inl (cJ, 1024, .inr (.inl fm43))), (vv, .inl (cI, 1024, .inl vl43))] := hD.sub (ws' := [(h0, .inr (3, [.ref lg, .ref fs, .ref ps, .long fa, .long fb, .int 1, .int re])), (fs, .inr (1, [.ref vt])), (vt, .inr (2, [.ref vf, .ref vv])), (vf, .inl (cJ, 1024, .inr (.inl fm43))), (vv, .inl (cI, 1024, .inl vl43))]) [0, 1, 2, 3, 4] (by decide) rfl
    obtain ⟨hv9, hT43⟩ := hw43
    obtain rfl := hv9.symm
    refine lv_goto (tgt := 58) hx hb dX6_solveWith_46 (by decide) ?_
    refine W.iret (v := (vturn (vput 0) (if (cside (pop (fa ||| fb)) 1) = 1 then fa else fb) (coth fa fb 1) 8)) hx hb hr (fun tt ht hW => ⟨⟨(vturn (vput 0) (if (cside (pop (fa ||| fb)) 1) = 1 then fa else fb) (coth fa fb 1) 8), (fm43, vl43), rfl, ?_, by rw [ht]; exact hP, va_K.moved hW.alike hK, hD⟩, hS.F ht⟩) hS.2.2 dX6_solveWith_58
    exact ⟨rfl, hT43⟩

set_option maxHeartbeats 400000 in
set_option maxRecDepth 100000 in
theorem c_X6_solveWith_p0_1 (l : Launch) (D : va_G) (cI cJ : ClassId) (h0 lg fs ps : Nat) (fa fb : Int64) (re : Int32) (hp : 0 < pop (fa ||| fb)) (hn : pop (cempty fa fb) = 0) : Met l yX6_solveWith wsX6_solveWith ({ frames := 16, cells := 0, slots := 0, locals := 463 } : Room) (va_Pc [.ref h0, .ref ps] (px_E (px_W D [(h0, .inr (3, [.ref lg, .ref fs, .ref ps, .long fa, .long fb, .int 1, .int re])), (ps, .inr (1, [.null]))] [(cI, .int), (cJ, .long)]))) (vp_Si (fun r => r = vturn (vput 0) (cown fa fb 1) (coth fa fb 1) 8)) 0 0 (fun _ => False) := by
  refine Met.ofW (cc := cX6_solveWith) (maxL := 8) (ret := (some .int)) (by decide) rfl ?_
  intro p e s m args below meth c s₁ B hml hv
  obtain ⟨rfl, hEN, hP, hK⟩ := hv
  have hx := B.exec
  have hb := B.bytes
  have hr := B.returns
  have hts := atoms_spec (ws := wsX6_solveWith) B.pre
  have hown : s.vm.findClass RX6 = some m.cls := findClass_of_methodNamed B.named
  have hlocks := B.notSynchronized
  have hinX6 : ∀ w ∈ wsX60, w ∈ wsX6_solveWith := by decide +kernel
  have hfl72 : (Cond.fieldLink RX6 72 "Twistquad" "mustTurn" "Z").before ([.ref h0, .ref ps] : List Value).toArray s = true := hts _ (by decide +kernel)
  have hnest241 : va_Nw (.methodLinkNest RX6 241 yX3_valueToTurn RX6) s := hEN.2.2.2.2.1
  have hiniX3 : (Cond.initialized (yX3_valueToTurn).cls).before ([.ref h0, .ref ps] : List Value).toArray s = true := hts (.initialized RX3) (by decide +kernel)
  have hl := lv_entry ([.ref h0, .ref ps]) (n := 8) (Nat.le_of_ble_eq_true rfl)
  rw [lg_entry_eq]
  generalize (lg_sl ([.ref h0, .ref ps]) ++ List.replicate (8 - (lg_sl ([.ref h0, .ref ps])).length) Slot.unset).toArray = ls at hl ⊢
  have hl : lv_has ls 8 [(0, .ref h0), (1, .ref ps)] := hl
  refine lv_aload_n hx hb dX6_solveWith_0 rfl (lv_at hl 0 rfl) ?_
  refine vp_callSi (W.runV (As := []) (rest := []) ⟨hx, hb, hml, hown, hts⟩ (c_X6_sideToAct l D cI cJ h0 lg fs ps fa fb 1 re (Or.inr hp)) (cwV 0 hts gX6_solveWith_X6_sideToAct rfl rfl rfl (by decide +kernel) ⟨Nat.le_of_ble_eq_true rfl, Nat.le_of_ble_eq_true rfl⟩) ⟨px_blindW, va_recv hK hP (ci := 3) (q0 := 0) rfl rfl, fun U hU hW => ⟨rfl, by rw [hU]; exact hP.sub (ws' := [(h0, .inr (3, [.ref lg, .ref fs, .ref ps, .long fa, .long fb, .int 1, .int re]))]) [0] rfl, va_K.moved hW.alike hK⟩⟩ rfl rfl hl.1 rfl (lv_room (Nat.le_of_ble_eq_true rfl)) dX6_solveWith_1 ⟨(Nat.le_of_ble_eq_true rfl), (Nat.le_of_ble_eq_true rfl)⟩) (fun r1 er1 => ?_)
  obtain rfl := er1.symm
  refine lv_istore_n (lv' := [(2, .int (cside (pop (fa ||| fb)) 1)), (0, .ref h0), (1, .ref ps)]) hx hb dX6_solveWith_4 rfl hl (by decide) rfl (fun ls hl => ?_)
  refine lv_aload_n hx hb dX6_solveWith_5 rfl (lv_at hl 1 rfl) ?_
  refine lv_iload_n hx hb dX6_solveWith_6 rfl (lv_at hl 0 rfl) ?_
  refine vp_callSl (W.runV (As := [.int (cside (pop (fa ||| fb)) 1)]) (rest := []) ⟨hx, hb, hml, hown, hts⟩ (c_X6_marblesOf l D cI cJ h0 lg fs ps fa fb 1 re (cside (pop (fa ||| fb)) 1)) (cwV 1 hts gX6_solveWith_X6_marblesOf rfl rfl rfl (by decide +kernel) ⟨Nat.le_of_ble_eq_true rfl, Nat.le_of_ble_eq_true rfl⟩) ⟨px_blindW, va_recv hK hP (ci := 3) (q0 := 0) rfl rfl, fun U hU hW => ⟨rfl, by rw [hU]; exact hP.sub (ws' := [(h0, .inr (3, [.ref lg, .ref fs, .ref ps, .long fa, .long fb, .int 1, .int re]))]) [0] rfl, va_K.moved hW.alike hK⟩⟩ rfl rfl hl.1 rfl (lv_room (Nat.le_of_ble_eq_true rfl)) dX6_solveWith_7 ⟨(Nat.le_of_ble_eq_true rfl), (Nat.le_of_ble_eq_true rfl)⟩) (fun r7 er7 => ?_)
  obtain rfl := er7.symm
  refine lv_lstore_n (lv' := [(3, .long (if (cside (pop (fa ||| fb)) 1) = 1 then fa else fb)), (2, .int (cside (pop (fa ||| fb)) 1)), (0, .ref h0), (1, .ref ps)]) hx hb dX6_solveWith_10 rfl hl (by decide) rfl (fun ls hl => ?_)
  refine lv_aload_n hx hb dX6_solveWith_11 rfl (lv_at hl 2 rfl) ?_
  refine lv_iload_n hx hb dX6_solveWith_12 rfl (lv_at hl 1 rfl) ?_
  refine vp_callSi (W.runS (As := [.int (cside (pop (fa ||| fb)) 1)]) (rest := [.ref h0]) ⟨hx, hb, hml, hown, hts⟩ (c_X6_otherSide l (cside (pop (fa ||| fb)) 1)) (va_cwS 1 hts gX6_solveWith_X6_otherSide rfl rfl rfl (by decide +kernel) ⟨Nat.le_of_ble_eq_true rfl, Nat.le_of_ble_eq_true rfl⟩) ⟨px_blind0, fun U hU hW => ⟨rfl, trivial⟩⟩ rfl rfl hl.1 rfl (lv_room (Nat.le_of_ble_eq_true rfl)) dX6_solveWith_13 ⟨(Nat.le_of_ble_eq_true rfl), (Nat.le_of_ble_eq_true rfl)⟩) (fun r13 er13 => ?_)
  obtain rfl := er13.symm
  refine vp_callSl (W.runV (As := [.int (if (cside (pop (fa ||| fb)) 1) = 1 then 2 else 1)]) (rest := []) ⟨hx, hb, hml, hown, hts⟩ (c_X6_marblesOf l D cI cJ h0 lg fs ps fa fb 1 re (if (cside (pop (fa ||| fb)) 1) = 1 then 2 else 1)) (cwV 1 hts gX6_solveWith_X6_marblesOf rfl rfl rfl (by decide +kernel) ⟨Nat.le_of_ble_eq_true rfl, Nat.le_of_ble_eq_true rfl⟩) ⟨px_blindW, va_recv hK hP (ci := 3) (q0 := 0) rfl rfl, fun U hU hW => ⟨rfl, by rw [hU]; exact hP.sub (ws' := [(h0, .inr (3, [.ref lg, .ref fs, .ref ps, .long fa, .long fb, .int 1, .int re]))]) [0] rfl, va_K.moved hW.alike hK⟩⟩ rfl rfl hl.1 rfl (lv_room (Nat.le_of_ble_eq_true rfl)) dX6_solveWith_16 ⟨(Nat.le_of_ble_eq_true rfl), (Nat.le_of_ble_eq_true rfl)⟩) (fun r16 er16 => ?_)
  obtain rfl := er16.symm
  refine pk_tl (y := (coth fa fb 1)) (rfl) ?_
  refine lv_lstore (lv' := [(5, .long (coth fa fb 1)), (3, .long (if (cside (pop (fa ||| fb)) 1) = 1 then fa else fb)), (2, .int (cside (pop (fa ||| fb)) 1)), (0, .ref h0), (1, .ref ps)]) hx hb dX6_solveWith_19 hl (by decide) rfl (fun ls hl => ?_)
  refine lv_aload_n hx hb dX6_solveWith_21 rfl (lv_at hl 3 rfl) ?_
  refine vp_callSl (W.runV (As := []) (rest := []) ⟨hx, hb, hml, hown, hts⟩ (c_X6_emptyCells l D cI cJ h0 lg fs ps fa fb 1 re ) (cwV 0 hts gX6_solveWith_X6_emptyCells rfl rfl rfl (by decide +kernel) ⟨Nat.le_of_ble_eq_true rfl, Nat.le_of_ble_eq_true rfl⟩) ⟨px_blindW, va_recv hK hP (ci := 3) (q0 := 0) rfl rfl, fun U hU hW => ⟨rfl, by rw [hU]; exact hP.sub (ws' := [(h0, .inr (3, [.ref lg, .ref fs, .ref ps, .long fa, .long fb, .int 1, .int re]))]) [0] rfl, va_K.moved hW.alike hK⟩⟩ rfl rfl hl.1 rfl (lv_room (Nat.le_of_ble_eq_true rfl)) dX6_solveWith_22 ⟨(Nat.le_of_ble_eq_true rfl), (Nat.le_of_ble_eq_true rfl)⟩) (fun r22 er22 => ?_)
  obtain rfl := er22.symm
  refine vp_callSi (W.runS (As := [.long (cempty fa fb)]) (rest := []) ⟨hx, hb, hml, hown, hts⟩ (c_J13_bitCount_95d88 l (cempty fa fb)) (va_cwS 1 hts gX6_solveWith_J13_bitCount_95d88 rfl rfl rfl (by decide +kernel) ⟨Nat.le_of_ble_eq_true rfl, Nat.le_of_ble_eq_true rfl⟩) ⟨px_blind0, fun U hU hW => ⟨rfl, trivial⟩⟩ rfl rfl hl.1 rfl (lv_room (Nat.le_of_ble_eq_true rfl)) dX6_solveWith_25 ⟨(Nat.le_of_ble_eq_true rfl), (Nat.le_of_ble_eq_true rfl)⟩) (fun r25 er25 => ?_)
  obtain rfl := er25.symm
  refine pk_ti (y := 0) (congrArg nI hn) ?_
  refine lv_istore (lv' := [(7, .int 0), (5, .long (coth fa fb 1)), (3, .long (if (cside (pop (fa ||| fb)) 1) = 1 then fa else fb)), (2, .int (cside (pop (fa ||| fb)) 1)), (0, .ref h0), (1, .ref ps)]) hx hb dX6_solveWith_28 hl (by decide) rfl (fun ls hl => ?_)
  refine lv_aload_n hx hb dX6_solveWith_30 rfl (lv_at hl 4 rfl) ?_
  refine va_get (D := D) (ci := 3) (v := .int 1) (C := RX6) (T := TX6) (N := 7) hx hb hts hinX6 hown hK hP 0 rfl rfl 5 (by decide) hfl72 (fun _ h9 => h9) rfl dX6_solveWith_31 ?_
  refine lv_if_eq (tgt := 49) hx hb dX6_solveWith_34 (by decide) (fun c34 => ?_) (fun c34 => ?_)
  · exact absurd c34 (by decide)
  · refine lv_aload_n hx hb dX6_solveWith_37 rfl (lv_at hl 5 rfl) ?_
    refine lv_lload_n hx hb dX6_solveWith_38 rfl (lv_at hl 2 rfl) ?_
    refine lv_lload hx hb dX6_solveWith_39 (lv_at hl 1 rfl) ?_
    refine lv_iload hx hb dX6_solveWith_41 (lv_at hl 0 rfl) ?_
    refine vp_callSi (va_Run.run (va_runVN (As := [.long (if (cside (pop (fa ||| fb)) 1) = 1 then fa else fb), .long (coth fa fb 1), .int 0]) (rest := []) ⟨hx, hb, hml, hown, hts⟩ (c_X3_valueToTurn_p0 l D cI cJ ps (if (cside (pop (fa ||| fb)) 1) = 1 then fa else fb) (coth fa fb 1)) ⟨va_cnB 3 hts gX6_solveWith_X3_valueToTurn_n241 rfl rfl rfl hnest241 hiniX3 (by decide +kernel) ⟨Nat.le_of_ble_eq_true rfl, Nat.le_of_ble_eq_true rfl⟩, hts (.instanceMethod yX3_valueToTurn) (by decide +kernel), hts (.selects RX3 yX3_valueToTurn yX3_valueToTurn) (by decide +kernel)⟩ ⟨(px_blindE px_blindW), va_recv hK hP (ci := 1) (q0 := 1) rfl rfl, fun U hU hW => ⟨rfl, hEN.warm hW, by rw [hU]; exact hP.sub (ws' := [(ps, .inr (1, [.null]))]) [1] rfl, va_K.moved hW.alike hK⟩⟩ rfl rfl hl.1 rfl (lv_room (Nat.le_of_ble_eq_true rfl)) dX6_solveWith_43 ⟨(Nat.le_of_ble_eq_true rfl), (Nat.le_of_ble_eq_true rfl)⟩)) (fun r43 er43 => ?_)
    obtain rfl := er43.symm
    refine lv_goto (tgt := 58) hx hb dX6_solveWith_46 (by decide) ?_
    refine W.iret (v := (vturn (vput 0) (if (cside (pop (fa ||| fb)) 1) = 1 then fa else fb) (coth fa fb 1) 8)) hx hb hr (fun tt ht hW => ⟨(vturn (vput 0) (if (cside (pop (fa ||| fb)) 1) = 1 then fa else fb) (coth fa fb 1) 8), rfl, ?_, ht⟩) (fun _ h => nomatch h) dX6_solveWith_58
    exact rfl

set_option maxHeartbeats 400000 in
set_option maxRecDepth 100000 in
theorem c_X6_solveWith_f1_1 (l : Launch) (D : va_G) (cI cJ : ClassId) (sz : Nat) (h0 lg fs ps vt vf vv : Nat) (fa fb : Int64) (re : Int32) (fm : Nat → Int64) (vl : Nat → Int32) (hT : TI fm vl) (hp : 0 < pop (fa ||| fb)) (hn : pop (cempty fa fb) = 1) (hB : BH 1 (cown fa fb 1) (coth fa fb 1)) : Met l yX6_solveWith wsX6_solveWith ({ frames := 16, cells := 0, slots := 0, locals := 463 } : Room) (va_Pc [.ref h0, .ref fs] (px_E (pv_C D cI cJ [(h0, .inr (3, [.ref lg, .ref fs, .ref ps, .long fa, .long fb, .int 1, .int re])), (fs, .inr (1, [.ref vt])), (vt, .inr (2, [.ref vf, .ref vv])), (vf, .inl (cJ, 1024, .inr (.inl fm))), (vv, .inl (cI, 1024, .inl vl))] sz))) (va_Qi (fun (r : Int32) (u : (Nat → Int64) × (Nat → Int32)) => r = vturn (vput 1) (cown fa fb 1) (coth fa fb 1) 8 ∧ TI u.1 u.2) (fun (u : (Nat → Int64) × (Nat → Int32)) => pv_B D cI cJ (va_A [(h0, .inr (3, [.ref lg, .ref fs, .ref ps, .long fa, .long fb, .int 1, .int re])), (fs, .inr (1, [.ref vt])), (vt, .inr (2, [.ref vf, .ref vv])), (vf, .inl (cJ, 1024, .inr (.inl fm))), (vv, .inl (cI, 1024, .inl vl))] sz) [(h0, .inr (3, [.ref lg, .ref fs, .ref ps, .long fa, .long fb, .int 1, .int re])), (fs, .inr (1, [.ref vt])), (vt, .inr (2, [.ref vf, .ref vv])), (vf, .inl (cJ, 1024, .inr (.inl u.1))), (vv, .inl (cI, 1024, .inl u.2))]) (va_A [(h0, .inr (3, [.ref lg, .ref fs, .ref ps, .long fa, .long fb, .int 1, .int re])), (fs, .inr (1, [.ref vt])), (vt, .inr (2, [.ref vf, .ref vv])), (vf, .inl (cJ, 1024, .inr (.inl fm))), (vv, .inl (cI, 1024, .inl vl))] sz)) 0 0 (va_A [(h0, .inr (3, [.ref lg, .ref fs, .ref ps, .long fa, .long fb, .int 1, .int re])), (fs, .inr (1, [.ref vt])), (vt, .inr (2, [.ref vf, .ref vv])), (vf, .inl (cJ, 1024, .inr (.inl fm))), (vv, .inl (cI, 1024, .inl vl))] sz) := by
  refine Met.ofW (cc := cX6_solveWith) (maxL := 8) (ret := (some .int)) (by decide) rfl ?_
  intro p e s m args below meth c s₁ B hml hv
  obtain ⟨rfl, hEN, rfl, hP, hK, hD0⟩ := hv
  have hx := B.exec
  have hb := B.bytes
  have hr := B.returns
  have hts := atoms_spec (ws := wsX6_solveWith) B.pre
  have hown : s.vm.findClass RX6 = some m.cls := findClass_of_methodNamed B.named
  have hlocks := B.notSynchronized
  have hD := hD0.self (sz := s.heap.size)
  generalize hAe : va_A [(h0, .inr (3, [.ref lg, .ref fs, .ref ps, .long fa, .long fb, .int 1, .int re])), (fs, .inr (1, [.ref vt])), (vt, .inr (2, [.ref vf, .ref vv])), (vf, .inl (cJ, 1024, .inr (.inl fm))), (vv, .inl (cI, 1024, .inl vl))] s.heap.size = A at hD ⊢
  have hA : ∀ q : Nat, s.heap.size ≤ q → A q := fun q h => by rw [← hAe]; exact Or.inr h
  have hS : va_S A s.heap s.heap [] := va_S.rf
  have hinX6 : ∀ w ∈ wsX60, w ∈ wsX6_solveWith := by decide +kernel
  have hfl72 : (Cond.fieldLink RX6 72 "Twistquad" "mustTurn" "Z").before ([.ref h0, .ref fs] : List Value).toArray s = true := hts _ (by decide +kernel)
  have hnest241 : va_Nw (.methodLinkNest RX6 241 yX3_valueToTurn RX6) s := hEN.2.2.2.2.1
  have hiniX3 : (Cond.initialized (yX3_valueToTurn).cls).before ([.ref h0, .ref fs] : List Value).toArray s = true := hts (.initialized RX3) (by decide +kernel)
  have hl := lv_entry ([.ref h0, .ref fs]) (n := 8) (Nat.le_of_ble_eq_true rfl)
  rw [lg_entry_eq]
  generalize (lg_sl ([.ref h0, .ref fs]) ++ List.replicate (8 - (lg_sl ([.ref h0, .ref fs])).length) Slot.unset).toArray = ls at hl ⊢
  have hl : lv_has ls 8 [(0, .ref h0), (1, .ref fs)] := hl
  refine lv_aload_n hx hb dX6_solveWith_0 rfl (lv_at hl 0 rfl) ?_
  refine vp_callSi (W.runV (As := []) (rest := []) ⟨hx, hb, hml, hown, hts⟩ (c_X6_sideToAct l D cI cJ h0 lg fs ps fa fb 1 re (Or.inr hp)) (cwV 0 hts gX6_solveWith_X6_sideToAct rfl rfl rfl (by decide +kernel) ⟨Nat.le_of_ble_eq_true rfl, Nat.le_of_ble_eq_true rfl⟩) ⟨px_blindW, va_recv hK hP (ci := 3) (q0 := 0) rfl rfl, fun U hU hW => ⟨rfl, by rw [hU]; exact hP.sub (ws' := [(h0, .inr (3, [.ref lg, .ref fs, .ref ps, .long fa, .long fb, .int 1, .int re]))]) [0] rfl, va_K.moved hW.alike hK⟩⟩ rfl rfl hl.1 rfl (lv_room (Nat.le_of_ble_eq_true rfl)) dX6_solveWith_1 ⟨(Nat.le_of_ble_eq_true rfl), (Nat.le_of_ble_eq_true rfl)⟩) (fun r1 er1 => ?_)
  obtain rfl := er1.symm
  refine lv_istore_n (lv' := [(2, .int (cside (pop (fa ||| fb)) 1)), (0, .ref h0), (1, .ref fs)]) hx hb dX6_solveWith_4 rfl hl (by decide) rfl (fun ls hl => ?_)
  refine lv_aload_n hx hb dX6_solveWith_5 rfl (lv_at hl 1 rfl) ?_
  refine lv_iload_n hx hb dX6_solveWith_6 rfl (lv_at hl 0 rfl) ?_
  refine vp_callSl (W.runV (As := [.int (cside (pop (fa ||| fb)) 1)]) (rest := []) ⟨hx, hb, hml, hown, hts⟩ (c_X6_marblesOf l D cI cJ h0 lg fs ps fa fb 1 re (cside (pop (fa ||| fb)) 1)) (cwV 1 hts gX6_solveWith_X6_marblesOf rfl rfl rfl (by decide +kernel) ⟨Nat.le_of_ble_eq_true rfl, Nat.le_of_ble_eq_true rfl⟩) ⟨px_blindW, va_recv hK hP (ci := 3) (q0 := 0) rfl rfl, fun U hU hW => ⟨rfl, by rw [hU]; exact hP.sub (ws' := [(h0, .inr (3, [.ref lg, .ref fs, .ref ps, .long fa, .long fb, .int 1, .int re]))]) [0] rfl, va_K.moved hW.alike hK⟩⟩ rfl rfl hl.1 rfl (lv_room (Nat.le_of_ble_eq_true rfl)) dX6_solveWith_7 ⟨(Nat.le_of_ble_eq_true rfl), (Nat.le_of_ble_eq_true rfl)⟩) (fun r7 er7 => ?_)
  obtain rfl := er7.symm
  refine lv_lstore_n (lv' := [(3, .long (if (cside (pop (fa ||| fb)) 1) = 1 then fa else fb)), (2, .int (cside (pop (fa ||| fb)) 1)), (0, .ref h0), (1, .ref fs)]) hx hb dX6_solveWith_10 rfl hl (by decide) rfl (fun ls hl => ?_)
  refine lv_aload_n hx hb dX6_solveWith_11 rfl (lv_at hl 2 rfl) ?_
  refine lv_iload_n hx hb dX6_solveWith_12 rfl (lv_at hl 1 rfl) ?_
  refine vp_callSi (W.runS (As := [.int (cside (pop (fa ||| fb)) 1)]) (rest := [.ref h0]) ⟨hx, hb, hml, hown, hts⟩ (c_X6_otherSide l (cside (pop (fa ||| fb)) 1)) (va_cwS 1 hts gX6_solveWith_X6_otherSide rfl rfl rfl (by decide +kernel) ⟨Nat.le_of_ble_eq_true rfl, Nat.le_of_ble_eq_true rfl⟩) ⟨px_blind0, fun U hU hW => ⟨rfl, trivial⟩⟩ rfl rfl hl.1 rfl (lv_room (Nat.le_of_ble_eq_true rfl)) dX6_solveWith_13 ⟨(Nat.le_of_ble_eq_true rfl), (Nat.le_of_ble_eq_true rfl)⟩) (fun r13 er13 => ?_)
  obtain rfl := er13.symm
  refine vp_callSl (W.runV (As := [.int (if (cside (pop (fa ||| fb)) 1) = 1 then 2 else 1)]) (rest := []) ⟨hx, hb, hml, hown, hts⟩ (c_X6_marblesOf l D cI cJ h0 lg fs ps fa fb 1 re (if (cside (pop (fa ||| fb)) 1) = 1 then 2 else 1)) (cwV 1 hts gX6_solveWith_X6_marblesOf rfl rfl rfl (by decide +kernel) ⟨Nat.le_of_ble_eq_true rfl, Nat.le_of_ble_eq_true rfl⟩) ⟨px_blindW, va_recv hK hP (ci := 3) (q0 := 0) rfl rfl, fun U hU hW => ⟨rfl, by rw [hU]; exact hP.sub (ws' := [(h0, .inr (3, [.ref lg, .ref fs, .ref ps, .long fa, .long fb, .int 1, .int re]))]) [0] rfl, va_K.moved hW.alike hK⟩⟩ rfl rfl hl.1 rfl (lv_room (Nat.le_of_ble_eq_true rfl)) dX6_solveWith_16 ⟨(Nat.le_of_ble_eq_true rfl), (Nat.le_of_ble_eq_true rfl)⟩) (fun r16 er16 => ?_)
  obtain rfl := er16.symm
  refine pk_tl (y := (coth fa fb 1)) (rfl) ?_
  refine lv_lstore (lv' := [(5, .long (coth fa fb 1)), (3, .long (if (cside (pop (fa ||| fb)) 1) = 1 then fa else fb)), (2, .int (cside (pop (fa ||| fb)) 1)), (0, .ref h0), (1, .ref fs)]) hx hb dX6_solveWith_19 hl (by decide) rfl (fun ls hl => ?_)
  refine lv_aload_n hx hb dX6_solveWith_21 rfl (lv_at hl 3 rfl) ?_
  refine vp_callSl (W.runV (As := []) (rest := []) ⟨hx, hb, hml, hown, hts⟩ (c_X6_emptyCells l D cI cJ h0 lg fs ps fa fb 1 re ) (cwV 0 hts gX6_solveWith_X6_emptyCells rfl rfl rfl (by decide +kernel) ⟨Nat.le_of_ble_eq_true rfl, Nat.le_of_ble_eq_true rfl⟩) ⟨px_blindW, va_recv hK hP (ci := 3) (q0 := 0) rfl rfl, fun U hU hW => ⟨rfl, by rw [hU]; exact hP.sub (ws' := [(h0, .inr (3, [.ref lg, .ref fs, .ref ps, .long fa, .long fb, .int 1, .int re]))]) [0] rfl, va_K.moved hW.alike hK⟩⟩ rfl rfl hl.1 rfl (lv_room (Nat.le_of_ble_eq_true rfl)) dX6_solveWith_22 ⟨(Nat.le_of_ble_eq_true rfl), (Nat.le_of_ble_eq_true rfl)⟩) (fun r22 er22 => ?_)
  obtain rfl := er22.symm
  refine vp_callSi (W.runS (As := [.long (cempty fa fb)]) (rest := []) ⟨hx, hb, hml, hown, hts⟩ (c_J13_bitCount_95d88 l (cempty fa fb)) (va_cwS 1 hts gX6_solveWith_J13_bitCount_95d88 rfl rfl rfl (by decide +kernel) ⟨Nat.le_of_ble_eq_true rfl, Nat.le_of_ble_eq_true rfl⟩) ⟨px_blind0, fun U hU hW => ⟨rfl, trivial⟩⟩ rfl rfl hl.1 rfl (lv_room (Nat.le_of_ble_eq_true rfl)) dX6_solveWith_25 ⟨(Nat.le_of_ble_eq_true rfl), (Nat.le_of_ble_eq_true rfl)⟩) (fun r25 er25 => ?_)
  obtain rfl := er25.symm
  refine pk_ti (y := 1) (congrArg nI hn) ?_
  refine lv_istore (lv' := [(7, .int 1), (5, .long (coth fa fb 1)), (3, .long (if (cside (pop (fa ||| fb)) 1) = 1 then fa else fb)), (2, .int (cside (pop (fa ||| fb)) 1)), (0, .ref h0), (1, .ref fs)]) hx hb dX6_solveWith_28 hl (by decide) rfl (fun ls hl => ?_)
  refine lv_aload_n hx hb dX6_solveWith_30 rfl (lv_at hl 4 rfl) ?_
  refine va_get (D := D) (ci := 3) (v := .int 1) (C := RX6) (T := TX6) (N := 7) hx hb hts hinX6 hown hK hP 0 rfl rfl 5 (by decide) hfl72 (fun _ h9 => h9) rfl dX6_solveWith_31 ?_
  refine lv_if_eq (tgt := 49) hx hb dX6_solveWith_34 (by decide) (fun c34 => ?_) (fun c34 => ?_)
  · exact absurd c34 (by decide)
  · refine lv_aload_n hx hb dX6_solveWith_37 rfl (lv_at hl 5 rfl) ?_
    refine lv_lload_n hx hb dX6_solveWith_38 rfl (lv_at hl 2 rfl) ?_
    refine lv_lload hx hb dX6_solveWith_39 (lv_at hl 1 rfl) ?_
    refine lv_iload hx hb dX6_solveWith_41 (lv_at hl 0 rfl) ?_
    have hPc := hP.sub (ws' := [(fs, .inr (1, [.ref vt])), (vt, .inr (2, [.ref vf, .ref vv])), (vf, .inl (cJ, 1024, .inr (.inl fm))), (vv, .inl (cI, 1024, .inl vl))]) [1, 2, 3, 4] rfl
    have hDc := hD.sub (ws' := [(fs, .inr (1, [.ref vt])), (vt, .inr (2, [.ref vf, .ref vv])), (vf, .inl (cJ, 1024, .inr (.inl fm))), (vv, .inl (cI, 1024, .inl vl))]) [1, 2, 3, 4] (by decide) rfl
    have hFc := va_free (wc := [(fs, .inr (1, [.ref vt])), (vt, .inr (2, [.ref vf, .ref vv])), (vf, .inl (cJ, 1024, .inr (.inl fm))), (vv, .inl (cI, 1024, .inl vl))]) hD hS hA [1, 2, 3, 4] rfl
    refine va_calli (va_runVN (As := [.long (if (cside (pop (fa ||| fb)) 1) = 1 then fa else fb), .long (coth fa fb 1), .int 1]) (rest := []) ⟨hx, hb, hml, hown, hts⟩ (c_X3_valueToTurn_f1 l D cI cJ s.heap.size  fs vt vf vv fm vl hT (if (cside (pop (fa ||| fb)) 1) = 1 then fa else fb) (coth fa fb 1) hB) ⟨va_cnB 3 hts gX6_solveWith_X3_valueToTurn_n241 rfl rfl rfl hnest241 hiniX3 (by decide +kernel) ⟨Nat.le_of_ble_eq_true rfl, Nat.le_of_ble_eq_true rfl⟩, hts (.instanceMethod yX3_valueToTurn) (by decide +kernel), hts (.selects RX3 yX3_valueToTurn yX3_valueToTurn) (by decide +kernel)⟩ ⟨(px_blindE pv_blind), va_recv hK hPc (ci := 1) (q0 := 0) rfl rfl, fun U hU hW => ⟨rfl, hEN.warm hW, by rw [hU], by rw [hU]; exact hPc, va_K.moved hW.alike hK, hDc.weaken (fun _ _ _ _ => trivial)⟩⟩ rfl rfl hl.1 rfl (lv_room (Nat.le_of_ble_eq_true rfl)) dX6_solveWith_43 ⟨(Nat.le_of_ble_eq_true rfl), (Nat.le_of_ble_eq_true rfl)⟩) hS (fun q _ h => hFc q h) hFc (fun r43 u t9 H1 locs hth hvm hw43 hB hz1 hk1 hS => ?_)
    obtain ⟨fm43, vl43⟩ := u
    try dsimp only at hw43
    obtain ⟨hP1, hK1, hD1⟩ := hB
    rw [hth] at hP1
    obtain ⟨hP, hD⟩ := va_join (wr := [(h0, .inr (3, [.ref lg, .ref fs, .ref ps, .long fa, .long fb, .int 1, .int re]))]) (w1 := [(fs, .inr (1, [.ref vt])), (vt, .inr (2, [.ref vf, .ref vv])), (vf, .inl (cJ, 1024, .inr (.inl fm43))), (vv, .inl (cI, 1024, .inl vl43))]) hP hD [1, 2, 3, 4] [0] rfl rfl (by decide) (by decide) hk1 hFc hP1 hD1
    generalize H1 = H at hP hS ⊢
    have hP : va_P D vwCl [(h0, .inr (3, [.ref lg, .ref fs, .ref ps, .long fa, .long fb, .int 1, .int re])), (fs, .inr (1, [.ref vt])), (vt, .inr (2, [.ref vf, .ref vv])), (vf, .inl (cJ, 1024, .inr (.inl fm43))), (vv, .inl (cI, 1024, .inl vl43))] H := hP.sub (ws' := [(h0, .inr (3, [.ref lg, .ref fs, .ref ps, .long fa, .long fb, .int 1, .int re])), (fs, .inr (1, [.ref vt])), (vt, .inr (2, [.ref vf, .ref vv])), (vf, .inl (cJ, 1024, .inr (.inl fm43))), (vv, .inl (cI, 1024, .inl vl43))]) [0, 1, 2, 3, 4] rfl
    have hD : va_D A [(h0, .inr (3, [.ref lg, .ref fs, .ref ps, .long fa, .long fb, .int 1, .int re])), (fs, .inr (1, [.ref vt])), (vt, .inr (2, [.ref vf, .ref vv])), (vf, .inl (cJ, 1024, .inr (.inl fm43))), (vv, .inl (cI, 1024, .inl vl43))] := hD.sub (ws' := [(h0, .inr (3, [.ref lg, .ref fs, .ref ps, .long fa, .long fb, .int 1, .int re])), (fs, .inr (1, [.ref vt])), (vt, .inr (2, [.ref vf, .ref vv])), (vf, .inl (cJ, 1024, .inr (.inl fm43))), (vv, .inl (cI, 1024, .inl vl43))]) [0, 1, 2, 3, 4] (by decide) rfl
    obtain ⟨hv9, hT43⟩ := hw43
    obtain rfl := hv9.symm
    refine lv_goto (tgt := 58) hx hb dX6_solveWith_46 (by decide) ?_
    refine W.iret (v := (vturn (vput 1) (if (cside (pop (fa ||| fb)) 1) = 1 then fa else fb) (coth fa fb 1) 8)) hx hb hr (fun tt ht hW => ⟨⟨(vturn (vput 1) (if (cside (pop (fa ||| fb)) 1) = 1 then fa else fb) (coth fa fb 1) 8), (fm43, vl43), rfl, ?_, by rw [ht]; exact hP, va_K.moved hW.alike hK, hD⟩, hS.F ht⟩) hS.2.2 dX6_solveWith_58
    exact ⟨rfl, hT43⟩

set_option maxHeartbeats 400000 in
set_option maxRecDepth 100000 in
theorem c_X6_solveWith_p1_1 (l : Launch) (D : va_G) (cI cJ : ClassId) (h0 lg fs ps : Nat) (fa fb : Int64) (re : Int32) (hp : 0 < pop (fa ||| fb)) (hn : pop (cempty fa fb) = 1) : Met l yX6_solveWith wsX6_solveWith ({ frames := 16, cells := 0, slots := 0, locals := 463 } : Room) (va_Pc [.ref h0, .ref ps] (px_E (px_W D [(h0, .inr (3, [.ref lg, .ref fs, .ref ps, .long fa, .long fb, .int 1, .int re])), (ps, .inr (1, [.null]))] [(cI, .int), (cJ, .long)]))) (vp_Si (fun r => r = vturn (vput 1) (cown fa fb 1) (coth fa fb 1) 8)) 0 0 (fun _ => False) := by
  refine Met.ofW (cc := cX6_solveWith) (maxL := 8) (ret := (some .int)) (by decide) rfl ?_
  intro p e s m args below meth c s₁ B hml hv
  obtain ⟨rfl, hEN, hP, hK⟩ := hv
  have hx := B.exec
  have hb := B.bytes
  have hr := B.returns
  have hts := atoms_spec (ws := wsX6_solveWith) B.pre
  have hown : s.vm.findClass RX6 = some m.cls := findClass_of_methodNamed B.named
  have hlocks := B.notSynchronized
  have hinX6 : ∀ w ∈ wsX60, w ∈ wsX6_solveWith := by decide +kernel
  have hfl72 : (Cond.fieldLink RX6 72 "Twistquad" "mustTurn" "Z").before ([.ref h0, .ref ps] : List Value).toArray s = true := hts _ (by decide +kernel)
  have hnest241 : va_Nw (.methodLinkNest RX6 241 yX3_valueToTurn RX6) s := hEN.2.2.2.2.1
  have hiniX3 : (Cond.initialized (yX3_valueToTurn).cls).before ([.ref h0, .ref ps] : List Value).toArray s = true := hts (.initialized RX3) (by decide +kernel)
  have hl := lv_entry ([.ref h0, .ref ps]) (n := 8) (Nat.le_of_ble_eq_true rfl)
  rw [lg_entry_eq]
  generalize (lg_sl ([.ref h0, .ref ps]) ++ List.replicate (8 - (lg_sl ([.ref h0, .ref ps])).length) Slot.unset).toArray = ls at hl ⊢
  have hl : lv_has ls 8 [(0, .ref h0), (1, .ref ps)] := hl
  refine lv_aload_n hx hb dX6_solveWith_0 rfl (lv_at hl 0 rfl) ?_
  refine vp_callSi (W.runV (As := []) (rest := []) ⟨hx, hb, hml, hown, hts⟩ (c_X6_sideToAct l D cI cJ h0 lg fs ps fa fb 1 re (Or.inr hp)) (cwV 0 hts gX6_solveWith_X6_sideToAct rfl rfl rfl (by decide +kernel) ⟨Nat.le_of_ble_eq_true rfl, Nat.le_of_ble_eq_true rfl⟩) ⟨px_blindW, va_recv hK hP (ci := 3) (q0 := 0) rfl rfl, fun U hU hW => ⟨rfl, by rw [hU]; exact hP.sub (ws' := [(h0, .inr (3, [.ref lg, .ref fs, .ref ps, .long fa, .long fb, .int 1, .int re]))]) [0] rfl, va_K.moved hW.alike hK⟩⟩ rfl rfl hl.1 rfl (lv_room (Nat.le_of_ble_eq_true rfl)) dX6_solveWith_1 ⟨(Nat.le_of_ble_eq_true rfl), (Nat.le_of_ble_eq_true rfl)⟩) (fun r1 er1 => ?_)
  obtain rfl := er1.symm
  refine lv_istore_n (lv' := [(2, .int (cside (pop (fa ||| fb)) 1)), (0, .ref h0), (1, .ref ps)]) hx hb dX6_solveWith_4 rfl hl (by decide) rfl (fun ls hl => ?_)
  refine lv_aload_n hx hb dX6_solveWith_5 rfl (lv_at hl 1 rfl) ?_
  refine lv_iload_n hx hb dX6_solveWith_6 rfl (lv_at hl 0 rfl) ?_
  refine vp_callSl (W.runV (As := [.int (cside (pop (fa ||| fb)) 1)]) (rest := []) ⟨hx, hb, hml, hown, hts⟩ (c_X6_marblesOf l D cI cJ h0 lg fs ps fa fb 1 re (cside (pop (fa ||| fb)) 1)) (cwV 1 hts gX6_solveWith_X6_marblesOf rfl rfl rfl (by decide +kernel) ⟨Nat.le_of_ble_eq_true rfl, Nat.le_of_ble_eq_true rfl⟩) ⟨px_blindW, va_recv hK hP (ci := 3) (q0 := 0) rfl rfl, fun U hU hW => ⟨rfl, by rw [hU]; exact hP.sub (ws' := [(h0, .inr (3, [.ref lg, .ref fs, .ref ps, .long fa, .long fb, .int 1, .int re]))]) [0] rfl, va_K.moved hW.alike hK⟩⟩ rfl rfl hl.1 rfl (lv_room (Nat.le_of_ble_eq_true rfl)) dX6_solveWith_7 ⟨(Nat.le_of_ble_eq_true rfl), (Nat.le_of_ble_eq_true rfl)⟩) (fun r7 er7 => ?_)
  obtain rfl := er7.symm
  refine lv_lstore_n (lv' := [(3, .long (if (cside (pop (fa ||| fb)) 1) = 1 then fa else fb)), (2, .int (cside (pop (fa ||| fb)) 1)), (0, .ref h0), (1, .ref ps)]) hx hb dX6_solveWith_10 rfl hl (by decide) rfl (fun ls hl => ?_)
  refine lv_aload_n hx hb dX6_solveWith_11 rfl (lv_at hl 2 rfl) ?_
  refine lv_iload_n hx hb dX6_solveWith_12 rfl (lv_at hl 1 rfl) ?_
  refine vp_callSi (W.runS (As := [.int (cside (pop (fa ||| fb)) 1)]) (rest := [.ref h0]) ⟨hx, hb, hml, hown, hts⟩ (c_X6_otherSide l (cside (pop (fa ||| fb)) 1)) (va_cwS 1 hts gX6_solveWith_X6_otherSide rfl rfl rfl (by decide +kernel) ⟨Nat.le_of_ble_eq_true rfl, Nat.le_of_ble_eq_true rfl⟩) ⟨px_blind0, fun U hU hW => ⟨rfl, trivial⟩⟩ rfl rfl hl.1 rfl (lv_room (Nat.le_of_ble_eq_true rfl)) dX6_solveWith_13 ⟨(Nat.le_of_ble_eq_true rfl), (Nat.le_of_ble_eq_true rfl)⟩) (fun r13 er13 => ?_)
  obtain rfl := er13.symm
  refine vp_callSl (W.runV (As := [.int (if (cside (pop (fa ||| fb)) 1) = 1 then 2 else 1)]) (rest := []) ⟨hx, hb, hml, hown, hts⟩ (c_X6_marblesOf l D cI cJ h0 lg fs ps fa fb 1 re (if (cside (pop (fa ||| fb)) 1) = 1 then 2 else 1)) (cwV 1 hts gX6_solveWith_X6_marblesOf rfl rfl rfl (by decide +kernel) ⟨Nat.le_of_ble_eq_true rfl, Nat.le_of_ble_eq_true rfl⟩) ⟨px_blindW, va_recv hK hP (ci := 3) (q0 := 0) rfl rfl, fun U hU hW => ⟨rfl, by rw [hU]; exact hP.sub (ws' := [(h0, .inr (3, [.ref lg, .ref fs, .ref ps, .long fa, .long fb, .int 1, .int re]))]) [0] rfl, va_K.moved hW.alike hK⟩⟩ rfl rfl hl.1 rfl (lv_room (Nat.le_of_ble_eq_true rfl)) dX6_solveWith_16 ⟨(Nat.le_of_ble_eq_true rfl), (Nat.le_of_ble_eq_true rfl)⟩) (fun r16 er16 => ?_)
  obtain rfl := er16.symm
  refine pk_tl (y := (coth fa fb 1)) (rfl) ?_
  refine lv_lstore (lv' := [(5, .long (coth fa fb 1)), (3, .long (if (cside (pop (fa ||| fb)) 1) = 1 then fa else fb)), (2, .int (cside (pop (fa ||| fb)) 1)), (0, .ref h0), (1, .ref ps)]) hx hb dX6_solveWith_19 hl (by decide) rfl (fun ls hl => ?_)
  refine lv_aload_n hx hb dX6_solveWith_21 rfl (lv_at hl 3 rfl) ?_
  refine vp_callSl (W.runV (As := []) (rest := []) ⟨hx, hb, hml, hown, hts⟩ (c_X6_emptyCells l D cI cJ h0 lg fs ps fa fb 1 re ) (cwV 0 hts gX6_solveWith_X6_emptyCells rfl rfl rfl (by decide +kernel) ⟨Nat.le_of_ble_eq_true rfl, Nat.le_of_ble_eq_true rfl⟩) ⟨px_blindW, va_recv hK hP (ci := 3) (q0 := 0) rfl rfl, fun U hU hW => ⟨rfl, by rw [hU]; exact hP.sub (ws' := [(h0, .inr (3, [.ref lg, .ref fs, .ref ps, .long fa, .long fb, .int 1, .int re]))]) [0] rfl, va_K.moved hW.alike hK⟩⟩ rfl rfl hl.1 rfl (lv_room (Nat.le_of_ble_eq_true rfl)) dX6_solveWith_22 ⟨(Nat.le_of_ble_eq_true rfl), (Nat.le_of_ble_eq_true rfl)⟩) (fun r22 er22 => ?_)
  obtain rfl := er22.symm
  refine vp_callSi (W.runS (As := [.long (cempty fa fb)]) (rest := []) ⟨hx, hb, hml, hown, hts⟩ (c_J13_bitCount_95d88 l (cempty fa fb)) (va_cwS 1 hts gX6_solveWith_J13_bitCount_95d88 rfl rfl rfl (by decide +kernel) ⟨Nat.le_of_ble_eq_true rfl, Nat.le_of_ble_eq_true rfl⟩) ⟨px_blind0, fun U hU hW => ⟨rfl, trivial⟩⟩ rfl rfl hl.1 rfl (lv_room (Nat.le_of_ble_eq_true rfl)) dX6_solveWith_25 ⟨(Nat.le_of_ble_eq_true rfl), (Nat.le_of_ble_eq_true rfl)⟩) (fun r25 er25 => ?_)
  obtain rfl := er25.symm
  refine pk_ti (y := 1) (congrArg nI hn) ?_
  refine lv_istore (lv' := [(7, .int 1), (5, .long (coth fa fb 1)), (3, .long (if (cside (pop (fa ||| fb)) 1) = 1 then fa else fb)), (2, .int (cside (pop (fa ||| fb)) 1)), (0, .ref h0), (1, .ref ps)]) hx hb dX6_solveWith_28 hl (by decide) rfl (fun ls hl => ?_)
  refine lv_aload_n hx hb dX6_solveWith_30 rfl (lv_at hl 4 rfl) ?_
  refine va_get (D := D) (ci := 3) (v := .int 1) (C := RX6) (T := TX6) (N := 7) hx hb hts hinX6 hown hK hP 0 rfl rfl 5 (by decide) hfl72 (fun _ h9 => h9) rfl dX6_solveWith_31 ?_
  refine lv_if_eq (tgt := 49) hx hb dX6_solveWith_34 (by decide) (fun c34 => ?_) (fun c34 => ?_)
  · exact absurd c34 (by decide)
  · refine lv_aload_n hx hb dX6_solveWith_37 rfl (lv_at hl 5 rfl) ?_
    refine lv_lload_n hx hb dX6_solveWith_38 rfl (lv_at hl 2 rfl) ?_
    refine lv_lload hx hb dX6_solveWith_39 (lv_at hl 1 rfl) ?_
    refine lv_iload hx hb dX6_solveWith_41 (lv_at hl 0 rfl) ?_
    refine vp_callSi (va_Run.run (va_runVN (As := [.long (if (cside (pop (fa ||| fb)) 1) = 1 then fa else fb), .long (coth fa fb 1), .int 1]) (rest := []) ⟨hx, hb, hml, hown, hts⟩ (c_X3_valueToTurn_p1 l D cI cJ ps (if (cside (pop (fa ||| fb)) 1) = 1 then fa else fb) (coth fa fb 1)) ⟨va_cnB 3 hts gX6_solveWith_X3_valueToTurn_n241 rfl rfl rfl hnest241 hiniX3 (by decide +kernel) ⟨Nat.le_of_ble_eq_true rfl, Nat.le_of_ble_eq_true rfl⟩, hts (.instanceMethod yX3_valueToTurn) (by decide +kernel), hts (.selects RX3 yX3_valueToTurn yX3_valueToTurn) (by decide +kernel)⟩ ⟨(px_blindE px_blindW), va_recv hK hP (ci := 1) (q0 := 1) rfl rfl, fun U hU hW => ⟨rfl, hEN.warm hW, by rw [hU]; exact hP.sub (ws' := [(ps, .inr (1, [.null]))]) [1] rfl, va_K.moved hW.alike hK⟩⟩ rfl rfl hl.1 rfl (lv_room (Nat.le_of_ble_eq_true rfl)) dX6_solveWith_43 ⟨(Nat.le_of_ble_eq_true rfl), (Nat.le_of_ble_eq_true rfl)⟩)) (fun r43 er43 => ?_)
    obtain rfl := er43.symm
    refine lv_goto (tgt := 58) hx hb dX6_solveWith_46 (by decide) ?_
    refine W.iret (v := (vturn (vput 1) (if (cside (pop (fa ||| fb)) 1) = 1 then fa else fb) (coth fa fb 1) 8)) hx hb hr (fun tt ht hW => ⟨(vturn (vput 1) (if (cside (pop (fa ||| fb)) 1) = 1 then fa else fb) (coth fa fb 1) 8), rfl, ?_, ht⟩) (fun _ h => nomatch h) dX6_solveWith_58
    exact rfl

set_option maxHeartbeats 400000 in
set_option maxRecDepth 100000 in
theorem c_X6_solveWith_f2_1 (l : Launch) (D : va_G) (cI cJ : ClassId) (sz : Nat) (h0 lg fs ps vt vf vv : Nat) (fa fb : Int64) (re : Int32) (fm : Nat → Int64) (vl : Nat → Int32) (hT : TI fm vl) (hp : 0 < pop (fa ||| fb)) (hn : pop (cempty fa fb) = 2) (hB : BH 2 (cown fa fb 1) (coth fa fb 1)) : Met l yX6_solveWith wsX6_solveWith ({ frames := 16, cells := 0, slots := 0, locals := 463 } : Room) (va_Pc [.ref h0, .ref fs] (px_E (pv_C D cI cJ [(h0, .inr (3, [.ref lg, .ref fs, .ref ps, .long fa, .long fb, .int 1, .int re])), (fs, .inr (1, [.ref vt])), (vt, .inr (2, [.ref vf, .ref vv])), (vf, .inl (cJ, 1024, .inr (.inl fm))), (vv, .inl (cI, 1024, .inl vl))] sz))) (va_Qi (fun (r : Int32) (u : (Nat → Int64) × (Nat → Int32)) => r = vturn (vput 2) (cown fa fb 1) (coth fa fb 1) 8 ∧ TI u.1 u.2) (fun (u : (Nat → Int64) × (Nat → Int32)) => pv_B D cI cJ (va_A [(h0, .inr (3, [.ref lg, .ref fs, .ref ps, .long fa, .long fb, .int 1, .int re])), (fs, .inr (1, [.ref vt])), (vt, .inr (2, [.ref vf, .ref vv])), (vf, .inl (cJ, 1024, .inr (.inl fm))), (vv, .inl (cI, 1024, .inl vl))] sz) [(h0, .inr (3, [.ref lg, .ref fs, .ref ps, .long fa, .long fb, .int 1, .int re])), (fs, .inr (1, [.ref vt])), (vt, .inr (2, [.ref vf, .ref vv])), (vf, .inl (cJ, 1024, .inr (.inl u.1))), (vv, .inl (cI, 1024, .inl u.2))]) (va_A [(h0, .inr (3, [.ref lg, .ref fs, .ref ps, .long fa, .long fb, .int 1, .int re])), (fs, .inr (1, [.ref vt])), (vt, .inr (2, [.ref vf, .ref vv])), (vf, .inl (cJ, 1024, .inr (.inl fm))), (vv, .inl (cI, 1024, .inl vl))] sz)) 0 0 (va_A [(h0, .inr (3, [.ref lg, .ref fs, .ref ps, .long fa, .long fb, .int 1, .int re])), (fs, .inr (1, [.ref vt])), (vt, .inr (2, [.ref vf, .ref vv])), (vf, .inl (cJ, 1024, .inr (.inl fm))), (vv, .inl (cI, 1024, .inl vl))] sz) := by
  refine Met.ofW (cc := cX6_solveWith) (maxL := 8) (ret := (some .int)) (by decide) rfl ?_
  intro p e s m args below meth c s₁ B hml hv
  obtain ⟨rfl, hEN, rfl, hP, hK, hD0⟩ := hv
  have hx := B.exec
  have hb := B.bytes
  have hr := B.returns
  have hts := atoms_spec (ws := wsX6_solveWith) B.pre
  have hown : s.vm.findClass RX6 = some m.cls := findClass_of_methodNamed B.named
  have hlocks := B.notSynchronized
  have hD := hD0.self (sz := s.heap.size)
  generalize hAe : va_A [(h0, .inr (3, [.ref lg, .ref fs, .ref ps, .long fa, .long fb, .int 1, .int re])), (fs, .inr (1, [.ref vt])), (vt, .inr (2, [.ref vf, .ref vv])), (vf, .inl (cJ, 1024, .inr (.inl fm))), (vv, .inl (cI, 1024, .inl vl))] s.heap.size = A at hD ⊢
  have hA : ∀ q : Nat, s.heap.size ≤ q → A q := fun q h => by rw [← hAe]; exact Or.inr h
  have hS : va_S A s.heap s.heap [] := va_S.rf
  have hinX6 : ∀ w ∈ wsX60, w ∈ wsX6_solveWith := by decide +kernel
  have hfl72 : (Cond.fieldLink RX6 72 "Twistquad" "mustTurn" "Z").before ([.ref h0, .ref fs] : List Value).toArray s = true := hts _ (by decide +kernel)
  have hnest241 : va_Nw (.methodLinkNest RX6 241 yX3_valueToTurn RX6) s := hEN.2.2.2.2.1
  have hiniX3 : (Cond.initialized (yX3_valueToTurn).cls).before ([.ref h0, .ref fs] : List Value).toArray s = true := hts (.initialized RX3) (by decide +kernel)
  have hl := lv_entry ([.ref h0, .ref fs]) (n := 8) (Nat.le_of_ble_eq_true rfl)
  rw [lg_entry_eq]
  generalize (lg_sl ([.ref h0, .ref fs]) ++ List.replicate (8 - (lg_sl ([.ref h0, .ref fs])).length) Slot.unset).toArray = ls at hl ⊢
  have hl : lv_has ls 8 [(0, .ref h0), (1, .ref fs)] := hl
  refine lv_aload_n hx hb dX6_solveWith_0 rfl (lv_at hl 0 rfl) ?_
  refine vp_callSi (W.runV (As := []) (rest := []) ⟨hx, hb, hml, hown, hts⟩ (c_X6_sideToAct l D cI cJ h0 lg fs ps fa fb 1 re (Or.inr hp)) (cwV 0 hts gX6_solveWith_X6_sideToAct rfl rfl rfl (by decide +kernel) ⟨Nat.le_of_ble_eq_true rfl, Nat.le_of_ble_eq_true rfl⟩) ⟨px_blindW, va_recv hK hP (ci := 3) (q0 := 0) rfl rfl, fun U hU hW => ⟨rfl, by rw [hU]; exact hP.sub (ws' := [(h0, .inr (3, [.ref lg, .ref fs, .ref ps, .long fa, .long fb, .int 1, .int re]))]) [0] rfl, va_K.moved hW.alike hK⟩⟩ rfl rfl hl.1 rfl (lv_room (Nat.le_of_ble_eq_true rfl)) dX6_solveWith_1 ⟨(Nat.le_of_ble_eq_true rfl), (Nat.le_of_ble_eq_true rfl)⟩) (fun r1 er1 => ?_)
  obtain rfl := er1.symm
  refine lv_istore_n (lv' := [(2, .int (cside (pop (fa ||| fb)) 1)), (0, .ref h0), (1, .ref fs)]) hx hb dX6_solveWith_4 rfl hl (by decide) rfl (fun ls hl => ?_)
  refine lv_aload_n hx hb dX6_solveWith_5 rfl (lv_at hl 1 rfl) ?_
  refine lv_iload_n hx hb dX6_solveWith_6 rfl (lv_at hl 0 rfl) ?_
  refine vp_callSl (W.runV (As := [.int (cside (pop (fa ||| fb)) 1)]) (rest := []) ⟨hx, hb, hml, hown, hts⟩ (c_X6_marblesOf l D cI cJ h0 lg fs ps fa fb 1 re (cside (pop (fa ||| fb)) 1)) (cwV 1 hts gX6_solveWith_X6_marblesOf rfl rfl rfl (by decide +kernel) ⟨Nat.le_of_ble_eq_true rfl, Nat.le_of_ble_eq_true rfl⟩) ⟨px_blindW, va_recv hK hP (ci := 3) (q0 := 0) rfl rfl, fun U hU hW => ⟨rfl, by rw [hU]; exact hP.sub (ws' := [(h0, .inr (3, [.ref lg, .ref fs, .ref ps, .long fa, .long fb, .int 1, .int re]))]) [0] rfl, va_K.moved hW.alike hK⟩⟩ rfl rfl hl.1 rfl (lv_room (Nat.le_of_ble_eq_true rfl)) dX6_solveWith_7 ⟨(Nat.le_of_ble_eq_true rfl), (Nat.le_of_ble_eq_true rfl)⟩) (fun r7 er7 => ?_)
  obtain rfl := er7.symm
  refine lv_lstore_n (lv' := [(3, .long (if (cside (pop (fa ||| fb)) 1) = 1 then fa else fb)), (2, .int (cside (pop (fa ||| fb)) 1)), (0, .ref h0), (1, .ref fs)]) hx hb dX6_solveWith_10 rfl hl (by decide) rfl (fun ls hl => ?_)
  refine lv_aload_n hx hb dX6_solveWith_11 rfl (lv_at hl 2 rfl) ?_
  refine lv_iload_n hx hb dX6_solveWith_12 rfl (lv_at hl 1 rfl) ?_
  refine vp_callSi (W.runS (As := [.int (cside (pop (fa ||| fb)) 1)]) (rest := [.ref h0]) ⟨hx, hb, hml, hown, hts⟩ (c_X6_otherSide l (cside (pop (fa ||| fb)) 1)) (va_cwS 1 hts gX6_solveWith_X6_otherSide rfl rfl rfl (by decide +kernel) ⟨Nat.le_of_ble_eq_true rfl, Nat.le_of_ble_eq_true rfl⟩) ⟨px_blind0, fun U hU hW => ⟨rfl, trivial⟩⟩ rfl rfl hl.1 rfl (lv_room (Nat.le_of_ble_eq_true rfl)) dX6_solveWith_13 ⟨(Nat.le_of_ble_eq_true rfl), (Nat.le_of_ble_eq_true rfl)⟩) (fun r13 er13 => ?_)
  obtain rfl := er13.symm
  refine vp_callSl (W.runV (As := [.int (if (cside (pop (fa ||| fb)) 1) = 1 then 2 else 1)]) (rest := []) ⟨hx, hb, hml, hown, hts⟩ (c_X6_marblesOf l D cI cJ h0 lg fs ps fa fb 1 re (if (cside (pop (fa ||| fb)) 1) = 1 then 2 else 1)) (cwV 1 hts gX6_solveWith_X6_marblesOf rfl rfl rfl (by decide +kernel) ⟨Nat.le_of_ble_eq_true rfl, Nat.le_of_ble_eq_true rfl⟩) ⟨px_blindW, va_recv hK hP (ci := 3) (q0 := 0) rfl rfl, fun U hU hW => ⟨rfl, by rw [hU]; exact hP.sub (ws' := [(h0, .inr (3, [.ref lg, .ref fs, .ref ps, .long fa, .long fb, .int 1, .int re]))]) [0] rfl, va_K.moved hW.alike hK⟩⟩ rfl rfl hl.1 rfl (lv_room (Nat.le_of_ble_eq_true rfl)) dX6_solveWith_16 ⟨(Nat.le_of_ble_eq_true rfl), (Nat.le_of_ble_eq_true rfl)⟩) (fun r16 er16 => ?_)
  obtain rfl := er16.symm
  refine pk_tl (y := (coth fa fb 1)) (rfl) ?_
  refine lv_lstore (lv' := [(5, .long (coth fa fb 1)), (3, .long (if (cside (pop (fa ||| fb)) 1) = 1 then fa else fb)), (2, .int (cside (pop (fa ||| fb)) 1)), (0, .ref h0), (1, .ref fs)]) hx hb dX6_solveWith_19 hl (by decide) rfl (fun ls hl => ?_)
  refine lv_aload_n hx hb dX6_solveWith_21 rfl (lv_at hl 3 rfl) ?_
  refine vp_callSl (W.runV (As := []) (rest := []) ⟨hx, hb, hml, hown, hts⟩ (c_X6_emptyCells l D cI cJ h0 lg fs ps fa fb 1 re ) (cwV 0 hts gX6_solveWith_X6_emptyCells rfl rfl rfl (by decide +kernel) ⟨Nat.le_of_ble_eq_true rfl, Nat.le_of_ble_eq_true rfl⟩) ⟨px_blindW, va_recv hK hP (ci := 3) (q0 := 0) rfl rfl, fun U hU hW => ⟨rfl, by rw [hU]; exact hP.sub (ws' := [(h0, .inr (3, [.ref lg, .ref fs, .ref ps, .long fa, .long fb, .int 1, .int re]))]) [0] rfl, va_K.moved hW.alike hK⟩⟩ rfl rfl hl.1 rfl (lv_room (Nat.le_of_ble_eq_true rfl)) dX6_solveWith_22 ⟨(Nat.le_of_ble_eq_true rfl), (Nat.le_of_ble_eq_true rfl)⟩) (fun r22 er22 => ?_)
  obtain rfl := er22.symm
  refine vp_callSi (W.runS (As := [.long (cempty fa fb)]) (rest := []) ⟨hx, hb, hml, hown, hts⟩ (c_J13_bitCount_95d88 l (cempty fa fb)) (va_cwS 1 hts gX6_solveWith_J13_bitCount_95d88 rfl rfl rfl (by decide +kernel) ⟨Nat.le_of_ble_eq_true rfl, Nat.le_of_ble_eq_true rfl⟩) ⟨px_blind0, fun U hU hW => ⟨rfl, trivial⟩⟩ rfl rfl hl.1 rfl (lv_room (Nat.le_of_ble_eq_true rfl)) dX6_solveWith_25 ⟨(Nat.le_of_ble_eq_true rfl), (Nat.le_of_ble_eq_true rfl)⟩) (fun r25 er25 => ?_)
  obtain rfl := er25.symm
  refine pk_ti (y := 2) (congrArg nI hn) ?_
  refine lv_istore (lv' := [(7, .int 2), (5, .long (coth fa fb 1)), (3, .long (if (cside (pop (fa ||| fb)) 1) = 1 then fa else fb)), (2, .int (cside (pop (fa ||| fb)) 1)), (0, .ref h0), (1, .ref fs)]) hx hb dX6_solveWith_28 hl (by decide) rfl (fun ls hl => ?_)
  refine lv_aload_n hx hb dX6_solveWith_30 rfl (lv_at hl 4 rfl) ?_
  refine va_get (D := D) (ci := 3) (v := .int 1) (C := RX6) (T := TX6) (N := 7) hx hb hts hinX6 hown hK hP 0 rfl rfl 5 (by decide) hfl72 (fun _ h9 => h9) rfl dX6_solveWith_31 ?_
  refine lv_if_eq (tgt := 49) hx hb dX6_solveWith_34 (by decide) (fun c34 => ?_) (fun c34 => ?_)
  · exact absurd c34 (by decide)
  · refine lv_aload_n hx hb dX6_solveWith_37 rfl (lv_at hl 5 rfl) ?_
    refine lv_lload_n hx hb dX6_solveWith_38 rfl (lv_at hl 2 rfl) ?_
    refine lv_lload hx hb dX6_solveWith_39 (lv_at hl 1 rfl) ?_
    refine lv_iload hx hb dX6_solveWith_41 (lv_at hl 0 rfl) ?_
    have hPc := hP.sub (ws' := [(fs, .inr (1, [.ref vt])), (vt, .inr (2, [.ref vf, .ref vv])), (vf, .inl (cJ, 1024, .inr (.inl fm))), (vv, .inl (cI, 1024, .inl vl))]) [1, 2, 3, 4] rfl
    have hDc := hD.sub (ws' := [(fs, .inr (1, [.ref vt])), (vt, .inr (2, [.ref vf, .ref vv])), (vf, .inl (cJ, 1024, .inr (.inl fm))), (vv, .inl (cI, 1024, .inl vl))]) [1, 2, 3, 4] (by decide) rfl
    have hFc := va_free (wc := [(fs, .inr (1, [.ref vt])), (vt, .inr (2, [.ref vf, .ref vv])), (vf, .inl (cJ, 1024, .inr (.inl fm))), (vv, .inl (cI, 1024, .inl vl))]) hD hS hA [1, 2, 3, 4] rfl
    refine va_calli (va_runVN (As := [.long (if (cside (pop (fa ||| fb)) 1) = 1 then fa else fb), .long (coth fa fb 1), .int 2]) (rest := []) ⟨hx, hb, hml, hown, hts⟩ (c_X3_valueToTurn_f2 l D cI cJ s.heap.size  fs vt vf vv fm vl hT (if (cside (pop (fa ||| fb)) 1) = 1 then fa else fb) (coth fa fb 1) hB) ⟨va_cnB 3 hts gX6_solveWith_X3_valueToTurn_n241 rfl rfl rfl hnest241 hiniX3 (by decide +kernel) ⟨Nat.le_of_ble_eq_true rfl, Nat.le_of_ble_eq_true rfl⟩, hts (.instanceMethod yX3_valueToTurn) (by decide +kernel), hts (.selects RX3 yX3_valueToTurn yX3_valueToTurn) (by decide +kernel)⟩ ⟨(px_blindE pv_blind), va_recv hK hPc (ci := 1) (q0 := 0) rfl rfl, fun U hU hW => ⟨rfl, hEN.warm hW, by rw [hU], by rw [hU]; exact hPc, va_K.moved hW.alike hK, hDc.weaken (fun _ _ _ _ => trivial)⟩⟩ rfl rfl hl.1 rfl (lv_room (Nat.le_of_ble_eq_true rfl)) dX6_solveWith_43 ⟨(Nat.le_of_ble_eq_true rfl), (Nat.le_of_ble_eq_true rfl)⟩) hS (fun q _ h => hFc q h) hFc (fun r43 u t9 H1 locs hth hvm hw43 hB hz1 hk1 hS => ?_)
    obtain ⟨fm43, vl43⟩ := u
    try dsimp only at hw43
    obtain ⟨hP1, hK1, hD1⟩ := hB
    rw [hth] at hP1
    obtain ⟨hP, hD⟩ := va_join (wr := [(h0, .inr (3, [.ref lg, .ref fs, .ref ps, .long fa, .long fb, .int 1, .int re]))]) (w1 := [(fs, .inr (1, [.ref vt])), (vt, .inr (2, [.ref vf, .ref vv])), (vf, .inl (cJ, 1024, .inr (.inl fm43))), (vv, .inl (cI, 1024, .inl vl43))]) hP hD [1, 2, 3, 4] [0] rfl rfl (by decide) (by decide) hk1 hFc hP1 hD1
    generalize H1 = H at hP hS ⊢
    have hP : va_P D vwCl [(h0, .inr (3, [.ref lg, .ref fs, .ref ps, .long fa, .long fb, .int 1, .int re])), (fs, .inr (1, [.ref vt])), (vt, .inr (2, [.ref vf, .ref vv])), (vf, .inl (cJ, 1024, .inr (.inl fm43))), (vv, .inl (cI, 1024, .inl vl43))] H := hP.sub (ws' := [(h0, .inr (3, [.ref lg, .ref fs, .ref ps, .long fa, .long fb, .int 1, .int re])), (fs, .inr (1, [.ref vt])), (vt, .inr (2, [.ref vf, .ref vv])), (vf, .inl (cJ, 1024, .inr (.inl fm43))), (vv, .inl (cI, 1024, .inl vl43))]) [0, 1, 2, 3, 4] rfl
    have hD : va_D A [(h0, .inr (3, [.ref lg, .ref fs, .ref ps, .long fa, .long fb, .int 1, .int re])), (fs, .inr (1, [.ref vt])), (vt, .inr (2, [.ref vf, .ref vv])), (vf, .inl (cJ, 1024, .inr (.inl fm43))), (vv, .inl (cI, 1024, .inl vl43))] := hD.sub (ws' := [(h0, .inr (3, [.ref lg, .ref fs, .ref ps, .long fa, .long fb, .int 1, .int re])), (fs, .inr (1, [.ref vt])), (vt, .inr (2, [.ref vf, .ref vv])), (vf, .inl (cJ, 1024, .inr (.inl fm43))), (vv, .inl (cI, 1024, .inl vl43))]) [0, 1, 2, 3, 4] (by decide) rfl
    obtain ⟨hv9, hT43⟩ := hw43
    obtain rfl := hv9.symm
    refine lv_goto (tgt := 58) hx hb dX6_solveWith_46 (by decide) ?_
    refine W.iret (v := (vturn (vput 2) (if (cside (pop (fa ||| fb)) 1) = 1 then fa else fb) (coth fa fb 1) 8)) hx hb hr (fun tt ht hW => ⟨⟨(vturn (vput 2) (if (cside (pop (fa ||| fb)) 1) = 1 then fa else fb) (coth fa fb 1) 8), (fm43, vl43), rfl, ?_, by rw [ht]; exact hP, va_K.moved hW.alike hK, hD⟩, hS.F ht⟩) hS.2.2 dX6_solveWith_58
    exact ⟨rfl, hT43⟩

set_option maxHeartbeats 400000 in
set_option maxRecDepth 100000 in
theorem c_X6_solveWith_p2_1 (l : Launch) (D : va_G) (cI cJ : ClassId) (h0 lg fs ps : Nat) (fa fb : Int64) (re : Int32) (hp : 0 < pop (fa ||| fb)) (hn : pop (cempty fa fb) = 2) : Met l yX6_solveWith wsX6_solveWith ({ frames := 16, cells := 0, slots := 0, locals := 463 } : Room) (va_Pc [.ref h0, .ref ps] (px_E (px_W D [(h0, .inr (3, [.ref lg, .ref fs, .ref ps, .long fa, .long fb, .int 1, .int re])), (ps, .inr (1, [.null]))] [(cI, .int), (cJ, .long)]))) (vp_Si (fun r => r = vturn (vput 2) (cown fa fb 1) (coth fa fb 1) 8)) 0 0 (fun _ => False) := by
  refine Met.ofW (cc := cX6_solveWith) (maxL := 8) (ret := (some .int)) (by decide) rfl ?_
  intro p e s m args below meth c s₁ B hml hv
  obtain ⟨rfl, hEN, hP, hK⟩ := hv
  have hx := B.exec
  have hb := B.bytes
  have hr := B.returns
  have hts := atoms_spec (ws := wsX6_solveWith) B.pre
  have hown : s.vm.findClass RX6 = some m.cls := findClass_of_methodNamed B.named
  have hlocks := B.notSynchronized
  have hinX6 : ∀ w ∈ wsX60, w ∈ wsX6_solveWith := by decide +kernel
  have hfl72 : (Cond.fieldLink RX6 72 "Twistquad" "mustTurn" "Z").before ([.ref h0, .ref ps] : List Value).toArray s = true := hts _ (by decide +kernel)
  have hnest241 : va_Nw (.methodLinkNest RX6 241 yX3_valueToTurn RX6) s := hEN.2.2.2.2.1
  have hiniX3 : (Cond.initialized (yX3_valueToTurn).cls).before ([.ref h0, .ref ps] : List Value).toArray s = true := hts (.initialized RX3) (by decide +kernel)
  have hl := lv_entry ([.ref h0, .ref ps]) (n := 8) (Nat.le_of_ble_eq_true rfl)
  rw [lg_entry_eq]
  generalize (lg_sl ([.ref h0, .ref ps]) ++ List.replicate (8 - (lg_sl ([.ref h0, .ref ps])).length) Slot.unset).toArray = ls at hl ⊢
  have hl : lv_has ls 8 [(0, .ref h0), (1, .ref ps)] := hl
  refine lv_aload_n hx hb dX6_solveWith_0 rfl (lv_at hl 0 rfl) ?_
  refine vp_callSi (W.runV (As := []) (rest := []) ⟨hx, hb, hml, hown, hts⟩ (c_X6_sideToAct l D cI cJ h0 lg fs ps fa fb 1 re (Or.inr hp)) (cwV 0 hts gX6_solveWith_X6_sideToAct rfl rfl rfl (by decide +kernel) ⟨Nat.le_of_ble_eq_true rfl, Nat.le_of_ble_eq_true rfl⟩) ⟨px_blindW, va_recv hK hP (ci := 3) (q0 := 0) rfl rfl, fun U hU hW => ⟨rfl, by rw [hU]; exact hP.sub (ws' := [(h0, .inr (3, [.ref lg, .ref fs, .ref ps, .long fa, .long fb, .int 1, .int re]))]) [0] rfl, va_K.moved hW.alike hK⟩⟩ rfl rfl hl.1 rfl (lv_room (Nat.le_of_ble_eq_true rfl)) dX6_solveWith_1 ⟨(Nat.le_of_ble_eq_true rfl), (Nat.le_of_ble_eq_true rfl)⟩) (fun r1 er1 => ?_)
  obtain rfl := er1.symm
  refine lv_istore_n (lv' := [(2, .int (cside (pop (fa ||| fb)) 1)), (0, .ref h0), (1, .ref ps)]) hx hb dX6_solveWith_4 rfl hl (by decide) rfl (fun ls hl => ?_)
  refine lv_aload_n hx hb dX6_solveWith_5 rfl (lv_at hl 1 rfl) ?_
  refine lv_iload_n hx hb dX6_solveWith_6 rfl (lv_at hl 0 rfl) ?_
  refine vp_callSl (W.runV (As := [.int (cside (pop (fa ||| fb)) 1)]) (rest := []) ⟨hx, hb, hml, hown, hts⟩ (c_X6_marblesOf l D cI cJ h0 lg fs ps fa fb 1 re (cside (pop (fa ||| fb)) 1)) (cwV 1 hts gX6_solveWith_X6_marblesOf rfl rfl rfl (by decide +kernel) ⟨Nat.le_of_ble_eq_true rfl, Nat.le_of_ble_eq_true rfl⟩) ⟨px_blindW, va_recv hK hP (ci := 3) (q0 := 0) rfl rfl, fun U hU hW => ⟨rfl, by rw [hU]; exact hP.sub (ws' := [(h0, .inr (3, [.ref lg, .ref fs, .ref ps, .long fa, .long fb, .int 1, .int re]))]) [0] rfl, va_K.moved hW.alike hK⟩⟩ rfl rfl hl.1 rfl (lv_room (Nat.le_of_ble_eq_true rfl)) dX6_solveWith_7 ⟨(Nat.le_of_ble_eq_true rfl), (Nat.le_of_ble_eq_true rfl)⟩) (fun r7 er7 => ?_)
  obtain rfl := er7.symm
  refine lv_lstore_n (lv' := [(3, .long (if (cside (pop (fa ||| fb)) 1) = 1 then fa else fb)), (2, .int (cside (pop (fa ||| fb)) 1)), (0, .ref h0), (1, .ref ps)]) hx hb dX6_solveWith_10 rfl hl (by decide) rfl (fun ls hl => ?_)
  refine lv_aload_n hx hb dX6_solveWith_11 rfl (lv_at hl 2 rfl) ?_
  refine lv_iload_n hx hb dX6_solveWith_12 rfl (lv_at hl 1 rfl) ?_
  refine vp_callSi (W.runS (As := [.int (cside (pop (fa ||| fb)) 1)]) (rest := [.ref h0]) ⟨hx, hb, hml, hown, hts⟩ (c_X6_otherSide l (cside (pop (fa ||| fb)) 1)) (va_cwS 1 hts gX6_solveWith_X6_otherSide rfl rfl rfl (by decide +kernel) ⟨Nat.le_of_ble_eq_true rfl, Nat.le_of_ble_eq_true rfl⟩) ⟨px_blind0, fun U hU hW => ⟨rfl, trivial⟩⟩ rfl rfl hl.1 rfl (lv_room (Nat.le_of_ble_eq_true rfl)) dX6_solveWith_13 ⟨(Nat.le_of_ble_eq_true rfl), (Nat.le_of_ble_eq_true rfl)⟩) (fun r13 er13 => ?_)
  obtain rfl := er13.symm
  refine vp_callSl (W.runV (As := [.int (if (cside (pop (fa ||| fb)) 1) = 1 then 2 else 1)]) (rest := []) ⟨hx, hb, hml, hown, hts⟩ (c_X6_marblesOf l D cI cJ h0 lg fs ps fa fb 1 re (if (cside (pop (fa ||| fb)) 1) = 1 then 2 else 1)) (cwV 1 hts gX6_solveWith_X6_marblesOf rfl rfl rfl (by decide +kernel) ⟨Nat.le_of_ble_eq_true rfl, Nat.le_of_ble_eq_true rfl⟩) ⟨px_blindW, va_recv hK hP (ci := 3) (q0 := 0) rfl rfl, fun U hU hW => ⟨rfl, by rw [hU]; exact hP.sub (ws' := [(h0, .inr (3, [.ref lg, .ref fs, .ref ps, .long fa, .long fb, .int 1, .int re]))]) [0] rfl, va_K.moved hW.alike hK⟩⟩ rfl rfl hl.1 rfl (lv_room (Nat.le_of_ble_eq_true rfl)) dX6_solveWith_16 ⟨(Nat.le_of_ble_eq_true rfl), (Nat.le_of_ble_eq_true rfl)⟩) (fun r16 er16 => ?_)
  obtain rfl := er16.symm
  refine pk_tl (y := (coth fa fb 1)) (rfl) ?_
  refine lv_lstore (lv' := [(5, .long (coth fa fb 1)), (3, .long (if (cside (pop (fa ||| fb)) 1) = 1 then fa else fb)), (2, .int (cside (pop (fa ||| fb)) 1)), (0, .ref h0), (1, .ref ps)]) hx hb dX6_solveWith_19 hl (by decide) rfl (fun ls hl => ?_)
  refine lv_aload_n hx hb dX6_solveWith_21 rfl (lv_at hl 3 rfl) ?_
  refine vp_callSl (W.runV (As := []) (rest := []) ⟨hx, hb, hml, hown, hts⟩ (c_X6_emptyCells l D cI cJ h0 lg fs ps fa fb 1 re ) (cwV 0 hts gX6_solveWith_X6_emptyCells rfl rfl rfl (by decide +kernel) ⟨Nat.le_of_ble_eq_true rfl, Nat.le_of_ble_eq_true rfl⟩) ⟨px_blindW, va_recv hK hP (ci := 3) (q0 := 0) rfl rfl, fun U hU hW => ⟨rfl, by rw [hU]; exact hP.sub (ws' := [(h0, .inr (3, [.ref lg, .ref fs, .ref ps, .long fa, .long fb, .int 1, .int re]))]) [0] rfl, va_K.moved hW.alike hK⟩⟩ rfl rfl hl.1 rfl (lv_room (Nat.le_of_ble_eq_true rfl)) dX6_solveWith_22 ⟨(Nat.le_of_ble_eq_true rfl), (Nat.le_of_ble_eq_true rfl)⟩) (fun r22 er22 => ?_)
  obtain rfl := er22.symm
  refine vp_callSi (W.runS (As := [.long (cempty fa fb)]) (rest := []) ⟨hx, hb, hml, hown, hts⟩ (c_J13_bitCount_95d88 l (cempty fa fb)) (va_cwS 1 hts gX6_solveWith_J13_bitCount_95d88 rfl rfl rfl (by decide +kernel) ⟨Nat.le_of_ble_eq_true rfl, Nat.le_of_ble_eq_true rfl⟩) ⟨px_blind0, fun U hU hW => ⟨rfl, trivial⟩⟩ rfl rfl hl.1 rfl (lv_room (Nat.le_of_ble_eq_true rfl)) dX6_solveWith_25 ⟨(Nat.le_of_ble_eq_true rfl), (Nat.le_of_ble_eq_true rfl)⟩) (fun r25 er25 => ?_)
  obtain rfl := er25.symm
  refine pk_ti (y := 2) (congrArg nI hn) ?_
  refine lv_istore (lv' := [(7, .int 2), (5, .long (coth fa fb 1)), (3, .long (if (cside (pop (fa ||| fb)) 1) = 1 then fa else fb)), (2, .int (cside (pop (fa ||| fb)) 1)), (0, .ref h0), (1, .ref ps)]) hx hb dX6_solveWith_28 hl (by decide) rfl (fun ls hl => ?_)
  refine lv_aload_n hx hb dX6_solveWith_30 rfl (lv_at hl 4 rfl) ?_
  refine va_get (D := D) (ci := 3) (v := .int 1) (C := RX6) (T := TX6) (N := 7) hx hb hts hinX6 hown hK hP 0 rfl rfl 5 (by decide) hfl72 (fun _ h9 => h9) rfl dX6_solveWith_31 ?_
  refine lv_if_eq (tgt := 49) hx hb dX6_solveWith_34 (by decide) (fun c34 => ?_) (fun c34 => ?_)
  · exact absurd c34 (by decide)
  · refine lv_aload_n hx hb dX6_solveWith_37 rfl (lv_at hl 5 rfl) ?_
    refine lv_lload_n hx hb dX6_solveWith_38 rfl (lv_at hl 2 rfl) ?_
    refine lv_lload hx hb dX6_solveWith_39 (lv_at hl 1 rfl) ?_
    refine lv_iload hx hb dX6_solveWith_41 (lv_at hl 0 rfl) ?_
    refine vp_callSi (va_Run.run (va_runVN (As := [.long (if (cside (pop (fa ||| fb)) 1) = 1 then fa else fb), .long (coth fa fb 1), .int 2]) (rest := []) ⟨hx, hb, hml, hown, hts⟩ (c_X3_valueToTurn_p2 l D cI cJ ps (if (cside (pop (fa ||| fb)) 1) = 1 then fa else fb) (coth fa fb 1)) ⟨va_cnB 3 hts gX6_solveWith_X3_valueToTurn_n241 rfl rfl rfl hnest241 hiniX3 (by decide +kernel) ⟨Nat.le_of_ble_eq_true rfl, Nat.le_of_ble_eq_true rfl⟩, hts (.instanceMethod yX3_valueToTurn) (by decide +kernel), hts (.selects RX3 yX3_valueToTurn yX3_valueToTurn) (by decide +kernel)⟩ ⟨(px_blindE px_blindW), va_recv hK hP (ci := 1) (q0 := 1) rfl rfl, fun U hU hW => ⟨rfl, hEN.warm hW, by rw [hU]; exact hP.sub (ws' := [(ps, .inr (1, [.null]))]) [1] rfl, va_K.moved hW.alike hK⟩⟩ rfl rfl hl.1 rfl (lv_room (Nat.le_of_ble_eq_true rfl)) dX6_solveWith_43 ⟨(Nat.le_of_ble_eq_true rfl), (Nat.le_of_ble_eq_true rfl)⟩)) (fun r43 er43 => ?_)
    obtain rfl := er43.symm
    refine lv_goto (tgt := 58) hx hb dX6_solveWith_46 (by decide) ?_
    refine W.iret (v := (vturn (vput 2) (if (cside (pop (fa ||| fb)) 1) = 1 then fa else fb) (coth fa fb 1) 8)) hx hb hr (fun tt ht hW => ⟨(vturn (vput 2) (if (cside (pop (fa ||| fb)) 1) = 1 then fa else fb) (coth fa fb 1) 8), rfl, ?_, ht⟩) (fun _ h => nomatch h) dX6_solveWith_58
    exact rfl

set_option maxHeartbeats 400000 in
set_option maxRecDepth 100000 in
theorem c_X6_solveWith_f3_1 (l : Launch) (D : va_G) (cI cJ : ClassId) (sz : Nat) (h0 lg fs ps vt vf vv : Nat) (fa fb : Int64) (re : Int32) (fm : Nat → Int64) (vl : Nat → Int32) (hT : TI fm vl) (hp : 0 < pop (fa ||| fb)) (hn : pop (cempty fa fb) = 3) (hB : BH 3 (cown fa fb 1) (coth fa fb 1)) : Met l yX6_solveWith wsX6_solveWith ({ frames := 16, cells := 0, slots := 0, locals := 463 } : Room) (va_Pc [.ref h0, .ref fs] (px_E (pv_C D cI cJ [(h0, .inr (3, [.ref lg, .ref fs, .ref ps, .long fa, .long fb, .int 1, .int re])), (fs, .inr (1, [.ref vt])), (vt, .inr (2, [.ref vf, .ref vv])), (vf, .inl (cJ, 1024, .inr (.inl fm))), (vv, .inl (cI, 1024, .inl vl))] sz))) (va_Qi (fun (r : Int32) (u : (Nat → Int64) × (Nat → Int32)) => r = vturn (vput 3) (cown fa fb 1) (coth fa fb 1) 8 ∧ TI u.1 u.2) (fun (u : (Nat → Int64) × (Nat → Int32)) => pv_B D cI cJ (va_A [(h0, .inr (3, [.ref lg, .ref fs, .ref ps, .long fa, .long fb, .int 1, .int re])), (fs, .inr (1, [.ref vt])), (vt, .inr (2, [.ref vf, .ref vv])), (vf, .inl (cJ, 1024, .inr (.inl fm))), (vv, .inl (cI, 1024, .inl vl))] sz) [(h0, .inr (3, [.ref lg, .ref fs, .ref ps, .long fa, .long fb, .int 1, .int re])), (fs, .inr (1, [.ref vt])), (vt, .inr (2, [.ref vf, .ref vv])), (vf, .inl (cJ, 1024, .inr (.inl u.1))), (vv, .inl (cI, 1024, .inl u.2))]) (va_A [(h0, .inr (3, [.ref lg, .ref fs, .ref ps, .long fa, .long fb, .int 1, .int re])), (fs, .inr (1, [.ref vt])), (vt, .inr (2, [.ref vf, .ref vv])), (vf, .inl (cJ, 1024, .inr (.inl fm))), (vv, .inl (cI, 1024, .inl vl))] sz)) 0 0 (va_A [(h0, .inr (3, [.ref lg, .ref fs, .ref ps, .long fa, .long fb, .int 1, .int re])), (fs, .inr (1, [.ref vt])), (vt, .inr (2, [.ref vf, .ref vv])), (vf, .inl (cJ, 1024, .inr (.inl fm))), (vv, .inl (cI, 1024, .inl vl))] sz) := by
  refine Met.ofW (cc := cX6_solveWith) (maxL := 8) (ret := (some .int)) (by decide) rfl ?_
  intro p e s m args below meth c s₁ B hml hv
  obtain ⟨rfl, hEN, rfl, hP, hK, hD0⟩ := hv
  have hx := B.exec
  have hb := B.bytes
  have hr := B.returns
  have hts := atoms_spec (ws := wsX6_solveWith) B.pre
  have hown : s.vm.findClass RX6 = some m.cls := findClass_of_methodNamed B.named
  have hlocks := B.notSynchronized
  have hD := hD0.self (sz := s.heap.size)
  generalize hAe : va_A [(h0, .inr (3, [.ref lg, .ref fs, .ref ps, .long fa, .long fb, .int 1, .int re])), (fs, .inr (1, [.ref vt])), (vt, .inr (2, [.ref vf, .ref vv])), (vf, .inl (cJ, 1024, .inr (.inl fm))), (vv, .inl (cI, 1024, .inl vl))] s.heap.size = A at hD ⊢
  have hA : ∀ q : Nat, s.heap.size ≤ q → A q := fun q h => by rw [← hAe]; exact Or.inr h
  have hS : va_S A s.heap s.heap [] := va_S.rf
  have hinX6 : ∀ w ∈ wsX60, w ∈ wsX6_solveWith := by decide +kernel
  have hfl72 : (Cond.fieldLink RX6 72 "Twistquad" "mustTurn" "Z").before ([.ref h0, .ref fs] : List Value).toArray s = true := hts _ (by decide +kernel)
  have hnest241 : va_Nw (.methodLinkNest RX6 241 yX3_valueToTurn RX6) s := hEN.2.2.2.2.1
  have hiniX3 : (Cond.initialized (yX3_valueToTurn).cls).before ([.ref h0, .ref fs] : List Value).toArray s = true := hts (.initialized RX3) (by decide +kernel)
  have hl := lv_entry ([.ref h0, .ref fs]) (n := 8) (Nat.le_of_ble_eq_true rfl)
  rw [lg_entry_eq]
  generalize (lg_sl ([.ref h0, .ref fs]) ++ List.replicate (8 - (lg_sl ([.ref h0, .ref fs])).length) Slot.unset).toArray = ls at hl ⊢
  have hl : lv_has ls 8 [(0, .ref h0), (1, .ref fs)] := hl
  refine lv_aload_n hx hb dX6_solveWith_0 rfl (lv_at hl 0 rfl) ?_
  refine vp_callSi (W.runV (As := []) (rest := []) ⟨hx, hb, hml, hown, hts⟩ (c_X6_sideToAct l D cI cJ h0 lg fs ps fa fb 1 re (Or.inr hp)) (cwV 0 hts gX6_solveWith_X6_sideToAct rfl rfl rfl (by decide +kernel) ⟨Nat.le_of_ble_eq_true rfl, Nat.le_of_ble_eq_true rfl⟩) ⟨px_blindW, va_recv hK hP (ci := 3) (q0 := 0) rfl rfl, fun U hU hW => ⟨rfl, by rw [hU]; exact hP.sub (ws' := [(h0, .inr (3, [.ref lg, .ref fs, .ref ps, .long fa, .long fb, .int 1, .int re]))]) [0] rfl, va_K.moved hW.alike hK⟩⟩ rfl rfl hl.1 rfl (lv_room (Nat.le_of_ble_eq_true rfl)) dX6_solveWith_1 ⟨(Nat.le_of_ble_eq_true rfl), (Nat.le_of_ble_eq_true rfl)⟩) (fun r1 er1 => ?_)
  obtain rfl := er1.symm
  refine lv_istore_n (lv' := [(2, .int (cside (pop (fa ||| fb)) 1)), (0, .ref h0), (1, .ref fs)]) hx hb dX6_solveWith_4 rfl hl (by decide) rfl (fun ls hl => ?_)
  refine lv_aload_n hx hb dX6_solveWith_5 rfl (lv_at hl 1 rfl) ?_
  refine lv_iload_n hx hb dX6_solveWith_6 rfl (lv_at hl 0 rfl) ?_
  refine vp_callSl (W.runV (As := [.int (cside (pop (fa ||| fb)) 1)]) (rest := []) ⟨hx, hb, hml, hown, hts⟩ (c_X6_marblesOf l D cI cJ h0 lg fs ps fa fb 1 re (cside (pop (fa ||| fb)) 1)) (cwV 1 hts gX6_solveWith_X6_marblesOf rfl rfl rfl (by decide +kernel) ⟨Nat.le_of_ble_eq_true rfl, Nat.le_of_ble_eq_true rfl⟩) ⟨px_blindW, va_recv hK hP (ci := 3) (q0 := 0) rfl rfl, fun U hU hW => ⟨rfl, by rw [hU]; exact hP.sub (ws' := [(h0, .inr (3, [.ref lg, .ref fs, .ref ps, .long fa, .long fb, .int 1, .int re]))]) [0] rfl, va_K.moved hW.alike hK⟩⟩ rfl rfl hl.1 rfl (lv_room (Nat.le_of_ble_eq_true rfl)) dX6_solveWith_7 ⟨(Nat.le_of_ble_eq_true rfl), (Nat.le_of_ble_eq_true rfl)⟩) (fun r7 er7 => ?_)
  obtain rfl := er7.symm
  refine lv_lstore_n (lv' := [(3, .long (if (cside (pop (fa ||| fb)) 1) = 1 then fa else fb)), (2, .int (cside (pop (fa ||| fb)) 1)), (0, .ref h0), (1, .ref fs)]) hx hb dX6_solveWith_10 rfl hl (by decide) rfl (fun ls hl => ?_)
  refine lv_aload_n hx hb dX6_solveWith_11 rfl (lv_at hl 2 rfl) ?_
  refine lv_iload_n hx hb dX6_solveWith_12 rfl (lv_at hl 1 rfl) ?_
  refine vp_callSi (W.runS (As := [.int (cside (pop (fa ||| fb)) 1)]) (rest := [.ref h0]) ⟨hx, hb, hml, hown, hts⟩ (c_X6_otherSide l (cside (pop (fa ||| fb)) 1)) (va_cwS 1 hts gX6_solveWith_X6_otherSide rfl rfl rfl (by decide +kernel) ⟨Nat.le_of_ble_eq_true rfl, Nat.le_of_ble_eq_true rfl⟩) ⟨px_blind0, fun U hU hW => ⟨rfl, trivial⟩⟩ rfl rfl hl.1 rfl (lv_room (Nat.le_of_ble_eq_true rfl)) dX6_solveWith_13 ⟨(Nat.le_of_ble_eq_true rfl), (Nat.le_of_ble_eq_true rfl)⟩) (fun r13 er13 => ?_)
  obtain rfl := er13.symm
  refine vp_callSl (W.runV (As := [.int (if (cside (pop (fa ||| fb)) 1) = 1 then 2 else 1)]) (rest := []) ⟨hx, hb, hml, hown, hts⟩ (c_X6_marblesOf l D cI cJ h0 lg fs ps fa fb 1 re (if (cside (pop (fa ||| fb)) 1) = 1 then 2 else 1)) (cwV 1 hts gX6_solveWith_X6_marblesOf rfl rfl rfl (by decide +kernel) ⟨Nat.le_of_ble_eq_true rfl, Nat.le_of_ble_eq_true rfl⟩) ⟨px_blindW, va_recv hK hP (ci := 3) (q0 := 0) rfl rfl, fun U hU hW => ⟨rfl, by rw [hU]; exact hP.sub (ws' := [(h0, .inr (3, [.ref lg, .ref fs, .ref ps, .long fa, .long fb, .int 1, .int re]))]) [0] rfl, va_K.moved hW.alike hK⟩⟩ rfl rfl hl.1 rfl (lv_room (Nat.le_of_ble_eq_true rfl)) dX6_solveWith_16 ⟨(Nat.le_of_ble_eq_true rfl), (Nat.le_of_ble_eq_true rfl)⟩) (fun r16 er16 => ?_)
  obtain rfl := er16.symm
  refine pk_tl (y := (coth fa fb 1)) (rfl) ?_
  refine lv_lstore (lv' := [(5, .long (coth fa fb 1)), (3, .long (if (cside (pop (fa ||| fb)) 1) = 1 then fa else fb)), (2, .int (cside (pop (fa ||| fb)) 1)), (0, .ref h0), (1, .ref fs)]) hx hb dX6_solveWith_19 hl (by decide) rfl (fun ls hl => ?_)
  refine lv_aload_n hx hb dX6_solveWith_21 rfl (lv_at hl 3 rfl) ?_
  refine vp_callSl (W.runV (As := []) (rest := []) ⟨hx, hb, hml, hown, hts⟩ (c_X6_emptyCells l D cI cJ h0 lg fs ps fa fb 1 re ) (cwV 0 hts gX6_solveWith_X6_emptyCells rfl rfl rfl (by decide +kernel) ⟨Nat.le_of_ble_eq_true rfl, Nat.le_of_ble_eq_true rfl⟩) ⟨px_blindW, va_recv hK hP (ci := 3) (q0 := 0) rfl rfl, fun U hU hW => ⟨rfl, by rw [hU]; exact hP.sub (ws' := [(h0, .inr (3, [.ref lg, .ref fs, .ref ps, .long fa, .long fb, .int 1, .int re]))]) [0] rfl, va_K.moved hW.alike hK⟩⟩ rfl rfl hl.1 rfl (lv_room (Nat.le_of_ble_eq_true rfl)) dX6_solveWith_22 ⟨(Nat.le_of_ble_eq_true rfl), (Nat.le_of_ble_eq_true rfl)⟩) (fun r22 er22 => ?_)
  obtain rfl := er22.symm
  refine vp_callSi (W.runS (As := [.long (cempty fa fb)]) (rest := []) ⟨hx, hb, hml, hown, hts⟩ (c_J13_bitCount_95d88 l (cempty fa fb)) (va_cwS 1 hts gX6_solveWith_J13_bitCount_95d88 rfl rfl rfl (by decide +kernel) ⟨Nat.le_of_ble_eq_true rfl, Nat.le_of_ble_eq_true rfl⟩) ⟨px_blind0, fun U hU hW => ⟨rfl, trivial⟩⟩ rfl rfl hl.1 rfl (lv_room (Nat.le_of_ble_eq_true rfl)) dX6_solveWith_25 ⟨(Nat.le_of_ble_eq_true rfl), (Nat.le_of_ble_eq_true rfl)⟩) (fun r25 er25 => ?_)
  obtain rfl := er25.symm
  refine pk_ti (y := 3) (congrArg nI hn) ?_
  refine lv_istore (lv' := [(7, .int 3), (5, .long (coth fa fb 1)), (3, .long (if (cside (pop (fa ||| fb)) 1) = 1 then fa else fb)), (2, .int (cside (pop (fa ||| fb)) 1)), (0, .ref h0), (1, .ref fs)]) hx hb dX6_solveWith_28 hl (by decide) rfl (fun ls hl => ?_)
  refine lv_aload_n hx hb dX6_solveWith_30 rfl (lv_at hl 4 rfl) ?_
  refine va_get (D := D) (ci := 3) (v := .int 1) (C := RX6) (T := TX6) (N := 7) hx hb hts hinX6 hown hK hP 0 rfl rfl 5 (by decide) hfl72 (fun _ h9 => h9) rfl dX6_solveWith_31 ?_
  refine lv_if_eq (tgt := 49) hx hb dX6_solveWith_34 (by decide) (fun c34 => ?_) (fun c34 => ?_)
  · exact absurd c34 (by decide)
  · refine lv_aload_n hx hb dX6_solveWith_37 rfl (lv_at hl 5 rfl) ?_
    refine lv_lload_n hx hb dX6_solveWith_38 rfl (lv_at hl 2 rfl) ?_
    refine lv_lload hx hb dX6_solveWith_39 (lv_at hl 1 rfl) ?_
    refine lv_iload hx hb dX6_solveWith_41 (lv_at hl 0 rfl) ?_
    have hPc := hP.sub (ws' := [(fs, .inr (1, [.ref vt])), (vt, .inr (2, [.ref vf, .ref vv])), (vf, .inl (cJ, 1024, .inr (.inl fm))), (vv, .inl (cI, 1024, .inl vl))]) [1, 2, 3, 4] rfl
    have hDc := hD.sub (ws' := [(fs, .inr (1, [.ref vt])), (vt, .inr (2, [.ref vf, .ref vv])), (vf, .inl (cJ, 1024, .inr (.inl fm))), (vv, .inl (cI, 1024, .inl vl))]) [1, 2, 3, 4] (by decide) rfl
    have hFc := va_free (wc := [(fs, .inr (1, [.ref vt])), (vt, .inr (2, [.ref vf, .ref vv])), (vf, .inl (cJ, 1024, .inr (.inl fm))), (vv, .inl (cI, 1024, .inl vl))]) hD hS hA [1, 2, 3, 4] rfl
    refine va_calli (va_runVN (As := [.long (if (cside (pop (fa ||| fb)) 1) = 1 then fa else fb), .long (coth fa fb 1), .int 3]) (rest := []) ⟨hx, hb, hml, hown, hts⟩ (c_X3_valueToTurn_f3 l D cI cJ s.heap.size  fs vt vf vv fm vl hT (if (cside (pop (fa ||| fb)) 1) = 1 then fa else fb) (coth fa fb 1) hB) ⟨va_cnB 3 hts gX6_solveWith_X3_valueToTurn_n241 rfl rfl rfl hnest241 hiniX3 (by decide +kernel) ⟨Nat.le_of_ble_eq_true rfl, Nat.le_of_ble_eq_true rfl⟩, hts (.instanceMethod yX3_valueToTurn) (by decide +kernel), hts (.selects RX3 yX3_valueToTurn yX3_valueToTurn) (by decide +kernel)⟩ ⟨(px_blindE pv_blind), va_recv hK hPc (ci := 1) (q0 := 0) rfl rfl, fun U hU hW => ⟨rfl, hEN.warm hW, by rw [hU], by rw [hU]; exact hPc, va_K.moved hW.alike hK, hDc.weaken (fun _ _ _ _ => trivial)⟩⟩ rfl rfl hl.1 rfl (lv_room (Nat.le_of_ble_eq_true rfl)) dX6_solveWith_43 ⟨(Nat.le_of_ble_eq_true rfl), (Nat.le_of_ble_eq_true rfl)⟩) hS (fun q _ h => hFc q h) hFc (fun r43 u t9 H1 locs hth hvm hw43 hB hz1 hk1 hS => ?_)
    obtain ⟨fm43, vl43⟩ := u
    try dsimp only at hw43
    obtain ⟨hP1, hK1, hD1⟩ := hB
    rw [hth] at hP1
    obtain ⟨hP, hD⟩ := va_join (wr := [(h0, .inr (3, [.ref lg, .ref fs, .ref ps, .long fa, .long fb, .int 1, .int re]))]) (w1 := [(fs, .inr (1, [.ref vt])), (vt, .inr (2, [.ref vf, .ref vv])), (vf, .inl (cJ, 1024, .inr (.inl fm43))), (vv, .inl (cI, 1024, .inl vl43))]) hP hD [1, 2, 3, 4] [0] rfl rfl (by decide) (by decide) hk1 hFc hP1 hD1
    generalize H1 = H at hP hS ⊢
    have hP : va_P D vwCl [(h0, .inr (3, [.ref lg, .ref fs, .ref ps, .long fa, .long fb, .int 1, .int re])), (fs, .inr (1, [.ref vt])), (vt, .inr (2, [.ref vf, .ref vv])), (vf, .inl (cJ, 1024, .inr (.inl fm43))), (vv, .inl (cI, 1024, .inl vl43))] H := hP.sub (ws' := [(h0, .inr (3, [.ref lg, .ref fs, .ref ps, .long fa, .long fb, .int 1, .int re])), (fs, .inr (1, [.ref vt])), (vt, .inr (2, [.ref vf, .ref vv])), (vf, .inl (cJ, 1024, .inr (.inl fm43))), (vv, .inl (cI, 1024, .inl vl43))]) [0, 1, 2, 3, 4] rfl
    have hD : va_D A [(h0, .inr (3, [.ref lg, .ref fs, .ref ps, .long fa, .long fb, .int 1, .int re])), (fs, .inr (1, [.ref vt])), (vt, .inr (2, [.ref vf, .ref vv])), (vf, .inl (cJ, 1024, .inr (.inl fm43))), (vv, .inl (cI, 1024, .inl vl43))] := hD.sub (ws' := [(h0, .inr (3, [.ref lg, .ref fs, .ref ps, .long fa, .long fb, .int 1, .int re])), (fs, .inr (1, [.ref vt])), (vt, .inr (2, [.ref vf, .ref vv])), (vf, .inl (cJ, 1024, .inr (.inl fm43))), (vv, .inl (cI, 1024, .inl vl43))]) [0, 1, 2, 3, 4] (by decide) rfl
    obtain ⟨hv9, hT43⟩ := hw43
    obtain rfl := hv9.symm
    refine lv_goto (tgt := 58) hx hb dX6_solveWith_46 (by decide) ?_
    refine W.iret (v := (vturn (vput 3) (if (cside (pop (fa ||| fb)) 1) = 1 then fa else fb) (coth fa fb 1) 8)) hx hb hr (fun tt ht hW => ⟨⟨(vturn (vput 3) (if (cside (pop (fa ||| fb)) 1) = 1 then fa else fb) (coth fa fb 1) 8), (fm43, vl43), rfl, ?_, by rw [ht]; exact hP, va_K.moved hW.alike hK, hD⟩, hS.F ht⟩) hS.2.2 dX6_solveWith_58
    exact ⟨rfl, hT43⟩

set_option maxHeartbeats 400000 in
set_option maxRecDepth 100000 in
theorem c_X6_solveWith_p3_1 (l : Launch) (D : va_G) (cI cJ : ClassId) (h0 lg fs ps : Nat) (fa fb : Int64) (re : Int32) (hp : 0 < pop (fa ||| fb)) (hn : pop (cempty fa fb) = 3) : Met l yX6_solveWith wsX6_solveWith ({ frames := 16, cells := 0, slots := 0, locals := 463 } : Room) (va_Pc [.ref h0, .ref ps] (px_E (px_W D [(h0, .inr (3, [.ref lg, .ref fs, .ref ps, .long fa, .long fb, .int 1, .int re])), (ps, .inr (1, [.null]))] [(cI, .int), (cJ, .long)]))) (vp_Si (fun r => r = vturn (vput 3) (cown fa fb 1) (coth fa fb 1) 8)) 0 0 (fun _ => False) := by
  refine Met.ofW (cc := cX6_solveWith) (maxL := 8) (ret := (some .int)) (by decide) rfl ?_
  intro p e s m args below meth c s₁ B hml hv
  obtain ⟨rfl, hEN, hP, hK⟩ := hv
  have hx := B.exec
  have hb := B.bytes
  have hr := B.returns
  have hts := atoms_spec (ws := wsX6_solveWith) B.pre
  have hown : s.vm.findClass RX6 = some m.cls := findClass_of_methodNamed B.named
  have hlocks := B.notSynchronized
  have hinX6 : ∀ w ∈ wsX60, w ∈ wsX6_solveWith := by decide +kernel
  have hfl72 : (Cond.fieldLink RX6 72 "Twistquad" "mustTurn" "Z").before ([.ref h0, .ref ps] : List Value).toArray s = true := hts _ (by decide +kernel)
  have hnest241 : va_Nw (.methodLinkNest RX6 241 yX3_valueToTurn RX6) s := hEN.2.2.2.2.1
  have hiniX3 : (Cond.initialized (yX3_valueToTurn).cls).before ([.ref h0, .ref ps] : List Value).toArray s = true := hts (.initialized RX3) (by decide +kernel)
  have hl := lv_entry ([.ref h0, .ref ps]) (n := 8) (Nat.le_of_ble_eq_true rfl)
  rw [lg_entry_eq]
  generalize (lg_sl ([.ref h0, .ref ps]) ++ List.replicate (8 - (lg_sl ([.ref h0, .ref ps])).length) Slot.unset).toArray = ls at hl ⊢
  have hl : lv_has ls 8 [(0, .ref h0), (1, .ref ps)] := hl
  refine lv_aload_n hx hb dX6_solveWith_0 rfl (lv_at hl 0 rfl) ?_
  refine vp_callSi (W.runV (As := []) (rest := []) ⟨hx, hb, hml, hown, hts⟩ (c_X6_sideToAct l D cI cJ h0 lg fs ps fa fb 1 re (Or.inr hp)) (cwV 0 hts gX6_solveWith_X6_sideToAct rfl rfl rfl (by decide +kernel) ⟨Nat.le_of_ble_eq_true rfl, Nat.le_of_ble_eq_true rfl⟩) ⟨px_blindW, va_recv hK hP (ci := 3) (q0 := 0) rfl rfl, fun U hU hW => ⟨rfl, by rw [hU]; exact hP.sub (ws' := [(h0, .inr (3, [.ref lg, .ref fs, .ref ps, .long fa, .long fb, .int 1, .int re]))]) [0] rfl, va_K.moved hW.alike hK⟩⟩ rfl rfl hl.1 rfl (lv_room (Nat.le_of_ble_eq_true rfl)) dX6_solveWith_1 ⟨(Nat.le_of_ble_eq_true rfl), (Nat.le_of_ble_eq_true rfl)⟩) (fun r1 er1 => ?_)
  obtain rfl := er1.symm
  refine lv_istore_n (lv' := [(2, .int (cside (pop (fa ||| fb)) 1)), (0, .ref h0), (1, .ref ps)]) hx hb dX6_solveWith_4 rfl hl (by decide) rfl (fun ls hl => ?_)
  refine lv_aload_n hx hb dX6_solveWith_5 rfl (lv_at hl 1 rfl) ?_
  refine lv_iload_n hx hb dX6_solveWith_6 rfl (lv_at hl 0 rfl) ?_
  refine vp_callSl (W.runV (As := [.int (cside (pop (fa ||| fb)) 1)]) (rest := []) ⟨hx, hb, hml, hown, hts⟩ (c_X6_marblesOf l D cI cJ h0 lg fs ps fa fb 1 re (cside (pop (fa ||| fb)) 1)) (cwV 1 hts gX6_solveWith_X6_marblesOf rfl rfl rfl (by decide +kernel) ⟨Nat.le_of_ble_eq_true rfl, Nat.le_of_ble_eq_true rfl⟩) ⟨px_blindW, va_recv hK hP (ci := 3) (q0 := 0) rfl rfl, fun U hU hW => ⟨rfl, by rw [hU]; exact hP.sub (ws' := [(h0, .inr (3, [.ref lg, .ref fs, .ref ps, .long fa, .long fb, .int 1, .int re]))]) [0] rfl, va_K.moved hW.alike hK⟩⟩ rfl rfl hl.1 rfl (lv_room (Nat.le_of_ble_eq_true rfl)) dX6_solveWith_7 ⟨(Nat.le_of_ble_eq_true rfl), (Nat.le_of_ble_eq_true rfl)⟩) (fun r7 er7 => ?_)
  obtain rfl := er7.symm
  refine lv_lstore_n (lv' := [(3, .long (if (cside (pop (fa ||| fb)) 1) = 1 then fa else fb)), (2, .int (cside (pop (fa ||| fb)) 1)), (0, .ref h0), (1, .ref ps)]) hx hb dX6_solveWith_10 rfl hl (by decide) rfl (fun ls hl => ?_)
  refine lv_aload_n hx hb dX6_solveWith_11 rfl (lv_at hl 2 rfl) ?_
  refine lv_iload_n hx hb dX6_solveWith_12 rfl (lv_at hl 1 rfl) ?_
  refine vp_callSi (W.runS (As := [.int (cside (pop (fa ||| fb)) 1)]) (rest := [.ref h0]) ⟨hx, hb, hml, hown, hts⟩ (c_X6_otherSide l (cside (pop (fa ||| fb)) 1)) (va_cwS 1 hts gX6_solveWith_X6_otherSide rfl rfl rfl (by decide +kernel) ⟨Nat.le_of_ble_eq_true rfl, Nat.le_of_ble_eq_true rfl⟩) ⟨px_blind0, fun U hU hW => ⟨rfl, trivial⟩⟩ rfl rfl hl.1 rfl (lv_room (Nat.le_of_ble_eq_true rfl)) dX6_solveWith_13 ⟨(Nat.le_of_ble_eq_true rfl), (Nat.le_of_ble_eq_true rfl)⟩) (fun r13 er13 => ?_)
  obtain rfl := er13.symm
  refine vp_callSl (W.runV (As := [.int (if (cside (pop (fa ||| fb)) 1) = 1 then 2 else 1)]) (rest := []) ⟨hx, hb, hml, hown, hts⟩ (c_X6_marblesOf l D cI cJ h0 lg fs ps fa fb 1 re (if (cside (pop (fa ||| fb)) 1) = 1 then 2 else 1)) (cwV 1 hts gX6_solveWith_X6_marblesOf rfl rfl rfl (by decide +kernel) ⟨Nat.le_of_ble_eq_true rfl, Nat.le_of_ble_eq_true rfl⟩) ⟨px_blindW, va_recv hK hP (ci := 3) (q0 := 0) rfl rfl, fun U hU hW => ⟨rfl, by rw [hU]; exact hP.sub (ws' := [(h0, .inr (3, [.ref lg, .ref fs, .ref ps, .long fa, .long fb, .int 1, .int re]))]) [0] rfl, va_K.moved hW.alike hK⟩⟩ rfl rfl hl.1 rfl (lv_room (Nat.le_of_ble_eq_true rfl)) dX6_solveWith_16 ⟨(Nat.le_of_ble_eq_true rfl), (Nat.le_of_ble_eq_true rfl)⟩) (fun r16 er16 => ?_)
  obtain rfl := er16.symm
  refine pk_tl (y := (coth fa fb 1)) (rfl) ?_
  refine lv_lstore (lv' := [(5, .long (coth fa fb 1)), (3, .long (if (cside (pop (fa ||| fb)) 1) = 1 then fa else fb)), (2, .int (cside (pop (fa ||| fb)) 1)), (0, .ref h0), (1, .ref ps)]) hx hb dX6_solveWith_19 hl (by decide) rfl (fun ls hl => ?_)
  refine lv_aload_n hx hb dX6_solveWith_21 rfl (lv_at hl 3 rfl) ?_
  refine vp_callSl (W.runV (As := []) (rest := []) ⟨hx, hb, hml, hown, hts⟩ (c_X6_emptyCells l D cI cJ h0 lg fs ps fa fb 1 re ) (cwV 0 hts gX6_solveWith_X6_emptyCells rfl rfl rfl (by decide +kernel) ⟨Nat.le_of_ble_eq_true rfl, Nat.le_of_ble_eq_true rfl⟩) ⟨px_blindW, va_recv hK hP (ci := 3) (q0 := 0) rfl rfl, fun U hU hW => ⟨rfl, by rw [hU]; exact hP.sub (ws' := [(h0, .inr (3, [.ref lg, .ref fs, .ref ps, .long fa, .long fb, .int 1, .int re]))]) [0] rfl, va_K.moved hW.alike hK⟩⟩ rfl rfl hl.1 rfl (lv_room (Nat.le_of_ble_eq_true rfl)) dX6_solveWith_22 ⟨(Nat.le_of_ble_eq_true rfl), (Nat.le_of_ble_eq_true rfl)⟩) (fun r22 er22 => ?_)
  obtain rfl := er22.symm
  refine vp_callSi (W.runS (As := [.long (cempty fa fb)]) (rest := []) ⟨hx, hb, hml, hown, hts⟩ (c_J13_bitCount_95d88 l (cempty fa fb)) (va_cwS 1 hts gX6_solveWith_J13_bitCount_95d88 rfl rfl rfl (by decide +kernel) ⟨Nat.le_of_ble_eq_true rfl, Nat.le_of_ble_eq_true rfl⟩) ⟨px_blind0, fun U hU hW => ⟨rfl, trivial⟩⟩ rfl rfl hl.1 rfl (lv_room (Nat.le_of_ble_eq_true rfl)) dX6_solveWith_25 ⟨(Nat.le_of_ble_eq_true rfl), (Nat.le_of_ble_eq_true rfl)⟩) (fun r25 er25 => ?_)
  obtain rfl := er25.symm
  refine pk_ti (y := 3) (congrArg nI hn) ?_
  refine lv_istore (lv' := [(7, .int 3), (5, .long (coth fa fb 1)), (3, .long (if (cside (pop (fa ||| fb)) 1) = 1 then fa else fb)), (2, .int (cside (pop (fa ||| fb)) 1)), (0, .ref h0), (1, .ref ps)]) hx hb dX6_solveWith_28 hl (by decide) rfl (fun ls hl => ?_)
  refine lv_aload_n hx hb dX6_solveWith_30 rfl (lv_at hl 4 rfl) ?_
  refine va_get (D := D) (ci := 3) (v := .int 1) (C := RX6) (T := TX6) (N := 7) hx hb hts hinX6 hown hK hP 0 rfl rfl 5 (by decide) hfl72 (fun _ h9 => h9) rfl dX6_solveWith_31 ?_
  refine lv_if_eq (tgt := 49) hx hb dX6_solveWith_34 (by decide) (fun c34 => ?_) (fun c34 => ?_)
  · exact absurd c34 (by decide)
  · refine lv_aload_n hx hb dX6_solveWith_37 rfl (lv_at hl 5 rfl) ?_
    refine lv_lload_n hx hb dX6_solveWith_38 rfl (lv_at hl 2 rfl) ?_
    refine lv_lload hx hb dX6_solveWith_39 (lv_at hl 1 rfl) ?_
    refine lv_iload hx hb dX6_solveWith_41 (lv_at hl 0 rfl) ?_
    refine vp_callSi (va_Run.run (va_runVN (As := [.long (if (cside (pop (fa ||| fb)) 1) = 1 then fa else fb), .long (coth fa fb 1), .int 3]) (rest := []) ⟨hx, hb, hml, hown, hts⟩ (c_X3_valueToTurn_p3 l D cI cJ ps (if (cside (pop (fa ||| fb)) 1) = 1 then fa else fb) (coth fa fb 1)) ⟨va_cnB 3 hts gX6_solveWith_X3_valueToTurn_n241 rfl rfl rfl hnest241 hiniX3 (by decide +kernel) ⟨Nat.le_of_ble_eq_true rfl, Nat.le_of_ble_eq_true rfl⟩, hts (.instanceMethod yX3_valueToTurn) (by decide +kernel), hts (.selects RX3 yX3_valueToTurn yX3_valueToTurn) (by decide +kernel)⟩ ⟨(px_blindE px_blindW), va_recv hK hP (ci := 1) (q0 := 1) rfl rfl, fun U hU hW => ⟨rfl, hEN.warm hW, by rw [hU]; exact hP.sub (ws' := [(ps, .inr (1, [.null]))]) [1] rfl, va_K.moved hW.alike hK⟩⟩ rfl rfl hl.1 rfl (lv_room (Nat.le_of_ble_eq_true rfl)) dX6_solveWith_43 ⟨(Nat.le_of_ble_eq_true rfl), (Nat.le_of_ble_eq_true rfl)⟩)) (fun r43 er43 => ?_)
    obtain rfl := er43.symm
    refine lv_goto (tgt := 58) hx hb dX6_solveWith_46 (by decide) ?_
    refine W.iret (v := (vturn (vput 3) (if (cside (pop (fa ||| fb)) 1) = 1 then fa else fb) (coth fa fb 1) 8)) hx hb hr (fun tt ht hW => ⟨(vturn (vput 3) (if (cside (pop (fa ||| fb)) 1) = 1 then fa else fb) (coth fa fb 1) 8), rfl, ?_, ht⟩) (fun _ h => nomatch h) dX6_solveWith_58
    exact rfl

theorem c_X6_solveWith_f_1 (l : Launch) (D : va_G) (cI cJ : ClassId) (sz : Nat) (h0 lg fs ps vt vf vv : Nat) (fa fb : Int64) (re : Int32) (fm : Nat → Int64) (vl : Nat → Int32) (hT : TI fm vl) (hp : 0 < pop (fa ||| fb)) (n : Nat) (hn3 : n ≤ 3) (hn : pop (cempty fa fb) = n) (hB : BH n (cown fa fb 1) (coth fa fb 1)) : Met l yX6_solveWith wsX6_solveWith ({ frames := 16, cells := 0, slots := 0, locals := 463 } : Room) (va_Pc [.ref h0, .ref fs] (px_E (pv_C D cI cJ [(h0, .inr (3, [.ref lg, .ref fs, .ref ps, .long fa, .long fb, .int 1, .int re])), (fs, .inr (1, [.ref vt])), (vt, .inr (2, [.ref vf, .ref vv])), (vf, .inl (cJ, 1024, .inr (.inl fm))), (vv, .inl (cI, 1024, .inl vl))] sz))) (va_Qi (fun (r : Int32) (u : (Nat → Int64) × (Nat → Int32)) => r = vturn (vput n) (cown fa fb 1) (coth fa fb 1) 8 ∧ TI u.1 u.2) (fun (u : (Nat → Int64) × (Nat → Int32)) => pv_B D cI cJ (va_A [(h0, .inr (3, [.ref lg, .ref fs, .ref ps, .long fa, .long fb, .int 1, .int re])), (fs, .inr (1, [.ref vt])), (vt, .inr (2, [.ref vf, .ref vv])), (vf, .inl (cJ, 1024, .inr (.inl fm))), (vv, .inl (cI, 1024, .inl vl))] sz) [(h0, .inr (3, [.ref lg, .ref fs, .ref ps, .long fa, .long fb, .int 1, .int re])), (fs, .inr (1, [.ref vt])), (vt, .inr (2, [.ref vf, .ref vv])), (vf, .inl (cJ, 1024, .inr (.inl u.1))), (vv, .inl (cI, 1024, .inl u.2))]) (va_A [(h0, .inr (3, [.ref lg, .ref fs, .ref ps, .long fa, .long fb, .int 1, .int re])), (fs, .inr (1, [.ref vt])), (vt, .inr (2, [.ref vf, .ref vv])), (vf, .inl (cJ, 1024, .inr (.inl fm))), (vv, .inl (cI, 1024, .inl vl))] sz)) 0 0 (va_A [(h0, .inr (3, [.ref lg, .ref fs, .ref ps, .long fa, .long fb, .int 1, .int re])), (fs, .inr (1, [.ref vt])), (vt, .inr (2, [.ref vf, .ref vv])), (vf, .inl (cJ, 1024, .inr (.inl fm))), (vv, .inl (cI, 1024, .inl vl))] sz) := by
  match n, hn3, hn, hB with
  | 0, _, hn, hB => exact c_X6_solveWith_f0_1 l D cI cJ sz h0 lg fs ps vt vf vv fa fb re fm vl hT hp hn hB
  | 1, _, hn, hB => exact c_X6_solveWith_f1_1 l D cI cJ sz h0 lg fs ps vt vf vv fa fb re fm vl hT hp hn hB
  | 2, _, hn, hB => exact c_X6_solveWith_f2_1 l D cI cJ sz h0 lg fs ps vt vf vv fa fb re fm vl hT hp hn hB
  | 3, _, hn, hB => exact c_X6_solveWith_f3_1 l D cI cJ sz h0 lg fs ps vt vf vv fa fb re fm vl hT hp hn hB
  | n + 4, h, _, _ => omega

theorem c_X6_solveWith_p_1 (l : Launch) (D : va_G) (cI cJ : ClassId) (h0 lg fs ps : Nat) (fa fb : Int64) (re : Int32) (hp : 0 < pop (fa ||| fb)) (n : Nat) (hn3 : n ≤ 3) (hn : pop (cempty fa fb) = n) : Met l yX6_solveWith wsX6_solveWith ({ frames := 16, cells := 0, slots := 0, locals := 463 } : Room) (va_Pc [.ref h0, .ref ps] (px_E (px_W D [(h0, .inr (3, [.ref lg, .ref fs, .ref ps, .long fa, .long fb, .int 1, .int re])), (ps, .inr (1, [.null]))] [(cI, .int), (cJ, .long)]))) (vp_Si (fun r => r = vturn (vput n) (cown fa fb 1) (coth fa fb 1) 8)) 0 0 (fun _ => False) := by
  match n, hn3, hn with
  | 0, _, hn => exact c_X6_solveWith_p0_1 l D cI cJ h0 lg fs ps fa fb re hp hn
  | 1, _, hn => exact c_X6_solveWith_p1_1 l D cI cJ h0 lg fs ps fa fb re hp hn
  | 2, _, hn => exact c_X6_solveWith_p2_1 l D cI cJ h0 lg fs ps fa fb re hp hn
  | 3, _, hn => exact c_X6_solveWith_p3_1 l D cI cJ h0 lg fs ps fa fb re hp hn
  | n + 4, h, _ => omega

set_option maxHeartbeats 400000 in
set_option maxRecDepth 100000 in
theorem c_X6_value_0 (l : Launch) (hltr : l.stackTraces = false) (D : va_G) (cI cJ : ClassId) (sz : Nat) (h0 lg fs ps vt vf vv : Nat) (fa fb : Int64) (re : Int32) (fm : Nat → Int64) (vl : Nat → Int32) (hT : TI fm vl)  (hB : re = 0 → BV (pop (cempty fa fb)) (cown fa fb 0) (coth fa fb 0)) : vx_Met l yX6_value wsX6_value ({ frames := 17, cells := 1, slots := 6, locals := 490 } : Room) (va_Pc [.ref h0] (px_E (px_X (va_A [(h0, .inr (3, [.ref lg, .ref fs, .ref ps, .long fa, .long fb, .int 0, .int re])), (fs, .inr (1, [.ref vt])), (vt, .inr (2, [.ref vf, .ref vv])), (vf, .inl (cJ, 1024, .inr (.inl fm))), (vv, .inl (cI, 1024, .inl vl))] sz) (pv_C D cI cJ [(h0, .inr (3, [.ref lg, .ref fs, .ref ps, .long fa, .long fb, .int 0, .int re])), (fs, .inr (1, [.ref vt])), (vt, .inr (2, [.ref vf, .ref vv])), (vf, .inl (cJ, 1024, .inr (.inl fm))), (vv, .inl (cI, 1024, .inl vl))] sz)))) (va_Qi (fun (r : Int32) (u : (Nat → Int64) × (Nat → Int32)) => re = 0 ∧ pop (cempty fa fb) ≤ 3 ∧ r = vput (pop (cempty fa fb)) (cown fa fb 0) (coth fa fb 0) ∧ TI u.1 u.2) (fun (u : (Nat → Int64) × (Nat → Int32)) => pv_B D cI cJ (va_A [(h0, .inr (3, [.ref lg, .ref fs, .ref ps, .long fa, .long fb, .int 0, .int re])), (fs, .inr (1, [.ref vt])), (vt, .inr (2, [.ref vf, .ref vv])), (vf, .inl (cJ, 1024, .inr (.inl fm))), (vv, .inl (cI, 1024, .inl vl))] sz) [(h0, .inr (3, [.ref lg, .ref fs, .ref ps, .long fa, .long fb, .int 0, .int re])), (fs, .inr (1, [.ref vt])), (vt, .inr (2, [.ref vf, .ref vv])), (vf, .inl (cJ, 1024, .inr (.inl u.1))), (vv, .inl (cI, 1024, .inl u.2))]) (va_A [(h0, .inr (3, [.ref lg, .ref fs, .ref ps, .long fa, .long fb, .int 0, .int re])), (fs, .inr (1, [.ref vt])), (vt, .inr (2, [.ref vf, .ref vv])), (vf, .inl (cJ, 1024, .inr (.inl fm))), (vv, .inl (cI, 1024, .inl vl))] sz)) (vx_X (fun (_ : Unit) => True) (fun (E : String) (_ : Unit) (tt : State) => (E = nISE ∧ ¬ (re = 0 ∧ pop (cempty fa fb) ≤ 3)) ∧ pv_B D cI cJ (va_A [(h0, .inr (3, [.ref lg, .ref fs, .ref ps, .long fa, .long fb, .int 0, .int re])), (fs, .inr (1, [.ref vt])), (vt, .inr (2, [.ref vf, .ref vv])), (vf, .inl (cJ, 1024, .inr (.inl fm))), (vv, .inl (cI, 1024, .inl vl))] sz) [(h0, .inr (3, [.ref lg, .ref fs, .ref ps, .long fa, .long fb, .int 0, .int re])), (fs, .inr (1, [.ref vt])), (vt, .inr (2, [.ref vf, .ref vv])), (vf, .inl (cJ, 1024, .inr (.inl fm))), (vv, .inl (cI, 1024, .inl vl))] tt) (va_A [(h0, .inr (3, [.ref lg, .ref fs, .ref ps, .long fa, .long fb, .int 0, .int re])), (fs, .inr (1, [.ref vt])), (vt, .inr (2, [.ref vf, .ref vv])), (vf, .inl (cJ, 1024, .inr (.inl fm))), (vv, .inl (cI, 1024, .inl vl))] sz)) 1 6 (va_A [(h0, .inr (3, [.ref lg, .ref fs, .ref ps, .long fa, .long fb, .int 0, .int re])), (fs, .inr (1, [.ref vt])), (vt, .inr (2, [.ref vf, .ref vv])), (vf, .inl (cJ, 1024, .inr (.inl fm))), (vv, .inl (cI, 1024, .inl vl))] sz) := by
  refine vx_ofW (cc := cX6_value) (maxL := 1) (ret := (some .int)) (by decide) rfl ?_
  intro p e s m args below meth c s₁ B hml htab hv
  obtain ⟨rfl, hEN, hEX, hZ, rfl, hP, hK, hD0⟩ := hv
  have hx := B.exec
  have hb := B.bytes
  have hr := B.returns
  have hts := atoms_spec (ws := wsX6_value) B.pre
  have hown : s.vm.findClass RX6 = some m.cls := findClass_of_methodNamed B.named
  have hlocks := B.notSynchronized
  have hD := hD0.self (sz := s.heap.size)
  generalize hAe : va_A [(h0, .inr (3, [.ref lg, .ref fs, .ref ps, .long fa, .long fb, .int 0, .int re])), (fs, .inr (1, [.ref vt])), (vt, .inr (2, [.ref vf, .ref vv])), (vf, .inl (cJ, 1024, .inr (.inl fm))), (vv, .inl (cI, 1024, .inl vl))] s.heap.size = A at hD hZ ⊢
  have hA : ∀ q : Nat, s.heap.size ≤ q → A q := fun q h => by rw [← hAe]; exact Or.inr h
  have hS : va_S A s.heap s.heap [] := va_S.rf
  have hinX6 : ∀ w ∈ wsX60, w ∈ wsX6_value := by decide +kernel
  have hfl24 : (Cond.fieldLink RX6 24 "Twistquad" "formSolver" "LTwistquad$Solver;").before ([.ref h0] : List Value).toArray s = true := hts _ (by decide +kernel)
  have hl := lv_entry ([.ref h0]) (n := 1) (Nat.le_of_ble_eq_true rfl)
  rw [lg_entry_eq]
  generalize (lg_sl ([.ref h0]) ++ List.replicate (1 - (lg_sl ([.ref h0])).length) Slot.unset).toArray = ls at hl ⊢
  have hl : lv_has ls 1 [(0, .ref h0)] := hl
  refine lv_aload_n hx hb dX6_value_0 rfl (lv_at hl 0 rfl) ?_
  have hPc : va_P D vwCl [(h0, .inr (3, [.ref lg, .ref fs, .ref ps, .long fa, .long fb, .int 0, .int re]))] s.heap := hP.sub (ws' := [(h0, .inr (3, [.ref lg, .ref fs, .ref ps, .long fa, .long fb, .int 0, .int re]))]) [0] rfl
  have hDc : va_D A [(h0, .inr (3, [.ref lg, .ref fs, .ref ps, .long fa, .long fb, .int 0, .int re]))] := hD.sub (ws' := [(h0, .inr (3, [.ref lg, .ref fs, .ref ps, .long fa, .long fb, .int 0, .int re]))]) [0] (by decide) rfl
  have hFc := va_free (wc := [(h0, .inr (3, [.ref lg, .ref fs, .ref ps, .long fa, .long fb, .int 0, .int re]))]) hD hS hA [0] rfl
  refine vx_callv (vx_runV (As := []) (rest := []) ⟨hx, hb, hml, hown, hts⟩ (c_X6_requireSolvable l hltr D cI cJ s.heap.size  h0 lg fs ps fa fb 0 re ) (cwV 0 hts gX6_value_X6_requireSolvable rfl rfl rfl (by decide +kernel) ⟨Nat.le_of_ble_eq_true rfl, Nat.le_of_ble_eq_true rfl⟩) ⟨(px_blindX pv_blind), va_recv hK hPc (ci := 3) (q0 := 0) rfl rfl, fun U hU hW => ⟨rfl, hEX.warm hW, by rw [hU]; exact hZ.to hS hW.alike hFc, by rw [hU], by rw [hU]; exact hPc, va_K.moved hW.alike hK, hDc.weaken (fun _ _ _ _ => trivial)⟩⟩ rfl rfl hl.1 rfl (lv_room (Nat.le_of_ble_eq_true rfl)) dX6_value_1 ⟨(Nat.le_of_ble_eq_true rfl), (Nat.le_of_ble_eq_true rfl)⟩) hS (fun q _ h => hFc q h) hFc (fun q _ h => hFc q h) (fun E ce q9 u9 t9 H1 locs hth hvm hpx hB9 hz1 hk1 hS hce hcv hcl => ?_) (fun u t9 H1 locs hth hvm hw1 hB9 hz1 hk1 hS => ?_)
  · obtain ⟨hb9, hP1, hK1, hD1⟩ := hB9
    rw [hth] at hP1
    obtain ⟨hP, hD⟩ := va_join (wr := [(fs, .inr (1, [.ref vt])), (vt, .inr (2, [.ref vf, .ref vv])), (vf, .inl (cJ, 1024, .inr (.inl fm))), (vv, .inl (cI, 1024, .inl vl))]) (w1 := [(h0, .inr (3, [.ref lg, .ref fs, .ref ps, .long fa, .long fb, .int 0, .int re]))]) hP hD [0] [1, 2, 3, 4] rfl rfl (by decide) (by decide) hk1 hFc hP1 hD1
    have hP : va_P D vwCl [(h0, .inr (3, [.ref lg, .ref fs, .ref ps, .long fa, .long fb, .int 0, .int re])), (fs, .inr (1, [.ref vt])), (vt, .inr (2, [.ref vf, .ref vv])), (vf, .inl (cJ, 1024, .inr (.inl fm))), (vv, .inl (cI, 1024, .inl vl))] H1 := hP.sub (ws' := [(h0, .inr (3, [.ref lg, .ref fs, .ref ps, .long fa, .long fb, .int 0, .int re])), (fs, .inr (1, [.ref vt])), (vt, .inr (2, [.ref vf, .ref vv])), (vf, .inl (cJ, 1024, .inr (.inl fm))), (vv, .inl (cI, 1024, .inl vl))]) [4, 0, 1, 2, 3] rfl
    have hD : va_D A [(h0, .inr (3, [.ref lg, .ref fs, .ref ps, .long fa, .long fb, .int 0, .int re])), (fs, .inr (1, [.ref vt])), (vt, .inr (2, [.ref vf, .ref vv])), (vf, .inl (cJ, 1024, .inr (.inl fm))), (vv, .inl (cI, 1024, .inl vl))] := hD.sub (ws' := [(h0, .inr (3, [.ref lg, .ref fs, .ref ps, .long fa, .long fb, .int 0, .int re])), (fs, .inr (1, [.ref vt])), (vt, .inr (2, [.ref vf, .ref vv])), (vf, .inl (cJ, 1024, .inr (.inl fm))), (vv, .inl (cI, 1024, .inl vl))]) [4, 0, 1, 2, 3] (by decide) rfl
    exact vx_out (fun x h => (htab x h).elim) hlocks hce hcv hcl (fun tt htt hvt => ⟨(), trivial, ⟨hb9, by rw [htt]; exact hP, va_K.moved hvt hK, hD⟩, hS.F htt⟩) hS.2.2 (Nat.le_of_ble_eq_true rfl) (Nat.le_of_ble_eq_true rfl)
  · try dsimp only at hw1
    obtain ⟨hP1, hK1, hD1⟩ := hB9
    rw [hth] at hP1
    obtain ⟨hP, hD⟩ := va_join (wr := [(fs, .inr (1, [.ref vt])), (vt, .inr (2, [.ref vf, .ref vv])), (vf, .inl (cJ, 1024, .inr (.inl fm))), (vv, .inl (cI, 1024, .inl vl))]) (w1 := [(h0, .inr (3, [.ref lg, .ref fs, .ref ps, .long fa, .long fb, .int 0, .int re]))]) hP hD [0] [1, 2, 3, 4] rfl rfl (by decide) (by decide) hk1 hFc hP1 hD1
    generalize H1 = H at hP hS ⊢
    have hP : va_P D vwCl [(h0, .inr (3, [.ref lg, .ref fs, .ref ps, .long fa, .long fb, .int 0, .int re])), (fs, .inr (1, [.ref vt])), (vt, .inr (2, [.ref vf, .ref vv])), (vf, .inl (cJ, 1024, .inr (.inl fm))), (vv, .inl (cI, 1024, .inl vl))] H := hP.sub (ws' := [(h0, .inr (3, [.ref lg, .ref fs, .ref ps, .long fa, .long fb, .int 0, .int re])), (fs, .inr (1, [.ref vt])), (vt, .inr (2, [.ref vf, .ref vv])), (vf, .inl (cJ, 1024, .inr (.inl fm))), (vv, .inl (cI, 1024, .inl vl))]) [4, 0, 1, 2, 3] rfl
    have hD : va_D A [(h0, .inr (3, [.ref lg, .ref fs, .ref ps, .long fa, .long fb, .int 0, .int re])), (fs, .inr (1, [.ref vt])), (vt, .inr (2, [.ref vf, .ref vv])), (vf, .inl (cJ, 1024, .inr (.inl fm))), (vv, .inl (cI, 1024, .inl vl))] := hD.sub (ws' := [(h0, .inr (3, [.ref lg, .ref fs, .ref ps, .long fa, .long fb, .int 0, .int re])), (fs, .inr (1, [.ref vt])), (vt, .inr (2, [.ref vf, .ref vv])), (vf, .inl (cJ, 1024, .inr (.inl fm))), (vv, .inl (cI, 1024, .inl vl))]) [4, 0, 1, 2, 3] (by decide) rfl
    refine lv_aload_n hx hb dX6_value_4 rfl (lv_at hl 0 rfl) ?_
    refine lv_aload_n hx hb dX6_value_5 rfl (lv_at hl 0 rfl) ?_
    refine va_get (D := D) (ci := 3) (v := .ref fs) (C := RX6) (T := TX6) (N := 7) hx hb hts hinX6 hown hK hP 0 rfl rfl 1 (by decide) hfl24 (fun _ h9 => h9) rfl dX6_value_6 ?_
    have hPc := hP.sub (ws' := [(h0, .inr (3, [.ref lg, .ref fs, .ref ps, .long fa, .long fb, .int 0, .int re])), (fs, .inr (1, [.ref vt])), (vt, .inr (2, [.ref vf, .ref vv])), (vf, .inl (cJ, 1024, .inr (.inl fm))), (vv, .inl (cI, 1024, .inl vl))]) [0, 1, 2, 3, 4] rfl
    have hDc := hD.sub (ws' := [(h0, .inr (3, [.ref lg, .ref fs, .ref ps, .long fa, .long fb, .int 0, .int re])), (fs, .inr (1, [.ref vt])), (vt, .inr (2, [.ref vf, .ref vv])), (vf, .inl (cJ, 1024, .inr (.inl fm))), (vv, .inl (cI, 1024, .inl vl))]) [0, 1, 2, 3, 4] (by decide) rfl
    have hFc := va_free (wc := [(h0, .inr (3, [.ref lg, .ref fs, .ref ps, .long fa, .long fb, .int 0, .int re])), (fs, .inr (1, [.ref vt])), (vt, .inr (2, [.ref vf, .ref vv])), (vf, .inl (cJ, 1024, .inr (.inl fm))), (vv, .inl (cI, 1024, .inl vl))]) hD hS hA [0, 1, 2, 3, 4] rfl
    refine va_calli (va_runV (As := [.ref fs]) (rest := []) ⟨hx, hb, hml, hown, hts⟩ (c_X6_solveWith_f_0 l D cI cJ H.size  h0 lg fs ps vt vf vv fa fb re fm vl hT (pop (cempty fa fb)) hw1.2 rfl (hB hw1.1)) (cwV 1 hts gX6_value_X6_solveWith rfl rfl rfl (by decide +kernel) ⟨Nat.le_of_ble_eq_true rfl, Nat.le_of_ble_eq_true rfl⟩) ⟨(px_blindE pv_blind), va_recv hK hPc (ci := 3) (q0 := 0) rfl rfl, fun U hU hW => ⟨rfl, hEN.warm hW, by rw [hU], by rw [hU]; exact hPc, va_K.moved hW.alike hK, hDc.weaken (fun _ _ _ _ => trivial)⟩⟩ rfl rfl hl.1 rfl (lv_room (Nat.le_of_ble_eq_true rfl)) dX6_value_9 ⟨(Nat.le_of_ble_eq_true rfl), (Nat.le_of_ble_eq_true rfl)⟩) hS (fun q _ h => hFc q h) hFc (fun r9 u t9 H1 locs hth hvm hw9 hB hz1 hk1 hS => ?_)
    obtain ⟨fm9, vl9⟩ := u
    try dsimp only at hw9
    obtain ⟨hP1, hK1, hD1⟩ := hB
    rw [hth] at hP1
    obtain ⟨hP, hD⟩ := va_join (wr := []) (w1 := [(h0, .inr (3, [.ref lg, .ref fs, .ref ps, .long fa, .long fb, .int 0, .int re])), (fs, .inr (1, [.ref vt])), (vt, .inr (2, [.ref vf, .ref vv])), (vf, .inl (cJ, 1024, .inr (.inl fm9))), (vv, .inl (cI, 1024, .inl vl9))]) hP hD [0, 1, 2, 3, 4] [] rfl rfl (by decide) (by decide) hk1 hFc hP1 hD1
    generalize H1 = H at hP hS ⊢
    have hP : va_P D vwCl [(h0, .inr (3, [.ref lg, .ref fs, .ref ps, .long fa, .long fb, .int 0, .int re])), (fs, .inr (1, [.ref vt])), (vt, .inr (2, [.ref vf, .ref vv])), (vf, .inl (cJ, 1024, .inr (.inl fm9))), (vv, .inl (cI, 1024, .inl vl9))] H := hP.sub (ws' := [(h0, .inr (3, [.ref lg, .ref fs, .ref ps, .long fa, .long fb, .int 0, .int re])), (fs, .inr (1, [.ref vt])), (vt, .inr (2, [.ref vf, .ref vv])), (vf, .inl (cJ, 1024, .inr (.inl fm9))), (vv, .inl (cI, 1024, .inl vl9))]) [0, 1, 2, 3, 4] rfl
    have hD : va_D A [(h0, .inr (3, [.ref lg, .ref fs, .ref ps, .long fa, .long fb, .int 0, .int re])), (fs, .inr (1, [.ref vt])), (vt, .inr (2, [.ref vf, .ref vv])), (vf, .inl (cJ, 1024, .inr (.inl fm9))), (vv, .inl (cI, 1024, .inl vl9))] := hD.sub (ws' := [(h0, .inr (3, [.ref lg, .ref fs, .ref ps, .long fa, .long fb, .int 0, .int re])), (fs, .inr (1, [.ref vt])), (vt, .inr (2, [.ref vf, .ref vv])), (vf, .inl (cJ, 1024, .inr (.inl fm9))), (vv, .inl (cI, 1024, .inl vl9))]) [0, 1, 2, 3, 4] (by decide) rfl
    obtain ⟨hv9, hT9⟩ := hw9
    obtain rfl := hv9.symm
    refine vx_ret ?_
    refine W.widen (k := 1) (n := 6) (Nat.le_of_ble_eq_true rfl) (Nat.le_of_ble_eq_true rfl) ?_
    refine W.iret (v := (vput (pop (cempty fa fb)) (cown fa fb 0) (coth fa fb 0))) hx hb hr (fun tt ht hW => ⟨⟨(vput (pop (cempty fa fb)) (cown fa fb 0) (coth fa fb 0)), (fm9, vl9), rfl, ?_, by rw [ht]; exact hP, va_K.moved hW.alike hK, hD⟩, hS.F ht⟩) hS.2.2 dX6_value_12
    exact ⟨hw1.1, hw1.2, rfl, hT9⟩

set_option maxHeartbeats 400000 in
set_option maxRecDepth 100000 in
theorem c_X6_valueOnBoards_0 (l : Launch) (hltr : l.stackTraces = false) (D : va_G) (cI cJ : ClassId) (sz : Nat) (h0 lg fs ps : Nat) (fa fb : Int64) (re : Int32)  : vx_Met l yX6_valueOnBoards wsX6_valueOnBoards ({ frames := 17, cells := 1, slots := 6, locals := 490 } : Room) (va_Pc [.ref h0] (px_E (px_X (va_A [(h0, .inr (3, [.ref lg, .ref fs, .ref ps, .long fa, .long fb, .int 0, .int re])), (ps, .inr (1, [.null]))] sz) (pv_C D cI cJ [(h0, .inr (3, [.ref lg, .ref fs, .ref ps, .long fa, .long fb, .int 0, .int re])), (ps, .inr (1, [.null]))] sz)))) (va_Qi (fun (r : Int32) (u : Unit) => re = 0 ∧ pop (cempty fa fb) ≤ 3 ∧ r = vput (pop (cempty fa fb)) (cown fa fb 0) (coth fa fb 0)) (fun (u : Unit) => pv_B D cI cJ (va_A [(h0, .inr (3, [.ref lg, .ref fs, .ref ps, .long fa, .long fb, .int 0, .int re])), (ps, .inr (1, [.null]))] sz) [(h0, .inr (3, [.ref lg, .ref fs, .ref ps, .long fa, .long fb, .int 0, .int re])), (ps, .inr (1, [.null]))]) (va_A [(h0, .inr (3, [.ref lg, .ref fs, .ref ps, .long fa, .long fb, .int 0, .int re])), (ps, .inr (1, [.null]))] sz)) (vx_X (fun (_ : Unit) => True) (fun (E : String) (_ : Unit) (tt : State) => (E = nISE ∧ ¬ (re = 0 ∧ pop (cempty fa fb) ≤ 3)) ∧ pv_B D cI cJ (va_A [(h0, .inr (3, [.ref lg, .ref fs, .ref ps, .long fa, .long fb, .int 0, .int re])), (ps, .inr (1, [.null]))] sz) [(h0, .inr (3, [.ref lg, .ref fs, .ref ps, .long fa, .long fb, .int 0, .int re])), (ps, .inr (1, [.null]))] tt) (va_A [(h0, .inr (3, [.ref lg, .ref fs, .ref ps, .long fa, .long fb, .int 0, .int re])), (ps, .inr (1, [.null]))] sz)) 1 6 (va_A [(h0, .inr (3, [.ref lg, .ref fs, .ref ps, .long fa, .long fb, .int 0, .int re])), (ps, .inr (1, [.null]))] sz) := by
  refine vx_ofW (cc := cX6_valueOnBoards) (maxL := 1) (ret := (some .int)) (by decide) rfl ?_
  intro p e s m args below meth c s₁ B hml htab hv
  obtain ⟨rfl, hEN, hEX, hZ, rfl, hP, hK, hD0⟩ := hv
  have hx := B.exec
  have hb := B.bytes
  have hr := B.returns
  have hts := atoms_spec (ws := wsX6_valueOnBoards) B.pre
  have hown : s.vm.findClass RX6 = some m.cls := findClass_of_methodNamed B.named
  have hlocks := B.notSynchronized
  have hD := hD0.self (sz := s.heap.size)
  generalize hAe : va_A [(h0, .inr (3, [.ref lg, .ref fs, .ref ps, .long fa, .long fb, .int 0, .int re])), (ps, .inr (1, [.null]))] s.heap.size = A at hD hZ ⊢
  have hA : ∀ q : Nat, s.heap.size ≤ q → A q := fun q h => by rw [← hAe]; exact Or.inr h
  have hS : va_S A s.heap s.heap [] := va_S.rf
  have hinX6 : ∀ w ∈ wsX60, w ∈ wsX6_valueOnBoards := by decide +kernel
  have hfl28 : (Cond.fieldLink RX6 28 "Twistquad" "plainSolver" "LTwistquad$Solver;").before ([.ref h0] : List Value).toArray s = true := hts _ (by decide +kernel)
  have hl := lv_entry ([.ref h0]) (n := 1) (Nat.le_of_ble_eq_true rfl)
  rw [lg_entry_eq]
  generalize (lg_sl ([.ref h0]) ++ List.replicate (1 - (lg_sl ([.ref h0])).length) Slot.unset).toArray = ls at hl ⊢
  have hl : lv_has ls 1 [(0, .ref h0)] := hl
  refine lv_aload_n hx hb dX6_valueOnBoards_0 rfl (lv_at hl 0 rfl) ?_
  have hPc : va_P D vwCl [(h0, .inr (3, [.ref lg, .ref fs, .ref ps, .long fa, .long fb, .int 0, .int re]))] s.heap := hP.sub (ws' := [(h0, .inr (3, [.ref lg, .ref fs, .ref ps, .long fa, .long fb, .int 0, .int re]))]) [0] rfl
  have hDc : va_D A [(h0, .inr (3, [.ref lg, .ref fs, .ref ps, .long fa, .long fb, .int 0, .int re]))] := hD.sub (ws' := [(h0, .inr (3, [.ref lg, .ref fs, .ref ps, .long fa, .long fb, .int 0, .int re]))]) [0] (by decide) rfl
  have hFc := va_free (wc := [(h0, .inr (3, [.ref lg, .ref fs, .ref ps, .long fa, .long fb, .int 0, .int re]))]) hD hS hA [0] rfl
  refine vx_callv (vx_runV (As := []) (rest := []) ⟨hx, hb, hml, hown, hts⟩ (c_X6_requireSolvable l hltr D cI cJ s.heap.size  h0 lg fs ps fa fb 0 re ) (cwV 0 hts gX6_valueOnBoards_X6_requireSolvable rfl rfl rfl (by decide +kernel) ⟨Nat.le_of_ble_eq_true rfl, Nat.le_of_ble_eq_true rfl⟩) ⟨(px_blindX pv_blind), va_recv hK hPc (ci := 3) (q0 := 0) rfl rfl, fun U hU hW => ⟨rfl, hEX.warm hW, by rw [hU]; exact hZ.to hS hW.alike hFc, by rw [hU], by rw [hU]; exact hPc, va_K.moved hW.alike hK, hDc.weaken (fun _ _ _ _ => trivial)⟩⟩ rfl rfl hl.1 rfl (lv_room (Nat.le_of_ble_eq_true rfl)) dX6_valueOnBoards_1 ⟨(Nat.le_of_ble_eq_true rfl), (Nat.le_of_ble_eq_true rfl)⟩) hS (fun q _ h => hFc q h) hFc (fun q _ h => hFc q h) (fun E ce q9 u9 t9 H1 locs hth hvm hpx hB9 hz1 hk1 hS hce hcv hcl => ?_) (fun u t9 H1 locs hth hvm hw1 hB9 hz1 hk1 hS => ?_)
  · obtain ⟨hb9, hP1, hK1, hD1⟩ := hB9
    rw [hth] at hP1
    obtain ⟨hP, hD⟩ := va_join (wr := [(ps, .inr (1, [.null]))]) (w1 := [(h0, .inr (3, [.ref lg, .ref fs, .ref ps, .long fa, .long fb, .int 0, .int re]))]) hP hD [0] [1] rfl rfl (by decide) (by decide) hk1 hFc hP1 hD1
    have hP : va_P D vwCl [(h0, .inr (3, [.ref lg, .ref fs, .ref ps, .long fa, .long fb, .int 0, .int re])), (ps, .inr (1, [.null]))] H1 := hP.sub (ws' := [(h0, .inr (3, [.ref lg, .ref fs, .ref ps, .long fa, .long fb, .int 0, .int re])), (ps, .inr (1, [.null]))]) [1, 0] rfl
    have hD : va_D A [(h0, .inr (3, [.ref lg, .ref fs, .ref ps, .long fa, .long fb, .int 0, .int re])), (ps, .inr (1, [.null]))] := hD.sub (ws' := [(h0, .inr (3, [.ref lg, .ref fs, .ref ps, .long fa, .long fb, .int 0, .int re])), (ps, .inr (1, [.null]))]) [1, 0] (by decide) rfl
    exact vx_out (fun x h => (htab x h).elim) hlocks hce hcv hcl (fun tt htt hvt => ⟨(), trivial, ⟨hb9, by rw [htt]; exact hP, va_K.moved hvt hK, hD⟩, hS.F htt⟩) hS.2.2 (Nat.le_of_ble_eq_true rfl) (Nat.le_of_ble_eq_true rfl)
  · try dsimp only at hw1
    obtain ⟨hP1, hK1, hD1⟩ := hB9
    rw [hth] at hP1
    obtain ⟨hP, hD⟩ := va_join (wr := [(ps, .inr (1, [.null]))]) (w1 := [(h0, .inr (3, [.ref lg, .ref fs, .ref ps, .long fa, .long fb, .int 0, .int re]))]) hP hD [0] [1] rfl rfl (by decide) (by decide) hk1 hFc hP1 hD1
    generalize H1 = H at hP hS ⊢
    have hP : va_P D vwCl [(h0, .inr (3, [.ref lg, .ref fs, .ref ps, .long fa, .long fb, .int 0, .int re])), (ps, .inr (1, [.null]))] H := hP.sub (ws' := [(h0, .inr (3, [.ref lg, .ref fs, .ref ps, .long fa, .long fb, .int 0, .int re])), (ps, .inr (1, [.null]))]) [1, 0] rfl
    have hD : va_D A [(h0, .inr (3, [.ref lg, .ref fs, .ref ps, .long fa, .long fb, .int 0, .int re])), (ps, .inr (1, [.null]))] := hD.sub (ws' := [(h0, .inr (3, [.ref lg, .ref fs, .ref ps, .long fa, .long fb, .int 0, .int re])), (ps, .inr (1, [.null]))]) [1, 0] (by decide) rfl
    refine lv_aload_n hx hb dX6_valueOnBoards_4 rfl (lv_at hl 0 rfl) ?_
    refine lv_aload_n hx hb dX6_valueOnBoards_5 rfl (lv_at hl 0 rfl) ?_
    refine va_get (D := D) (ci := 3) (v := .ref ps) (C := RX6) (T := TX6) (N := 7) hx hb hts hinX6 hown hK hP 0 rfl rfl 2 (by decide) hfl28 (fun _ h9 => h9) rfl dX6_valueOnBoards_6 ?_
    refine vp_callSi (W.runV (As := [.ref ps]) (rest := []) ⟨hx, hb, hml, hown, hts⟩ (c_X6_solveWith_p_0 l D cI cJ h0 lg fs ps fa fb re  (pop (cempty fa fb)) hw1.2 rfl) (cwV 1 hts gX6_valueOnBoards_X6_solveWith rfl rfl rfl (by decide +kernel) ⟨Nat.le_of_ble_eq_true rfl, Nat.le_of_ble_eq_true rfl⟩) ⟨(px_blindE px_blindW), va_recv hK hP (ci := 3) (q0 := 0) rfl rfl, fun U hU hW => ⟨rfl, hEN.warm hW, by rw [hU]; exact hP.sub (ws' := [(h0, .inr (3, [.ref lg, .ref fs, .ref ps, .long fa, .long fb, .int 0, .int re])), (ps, .inr (1, [.null]))]) [0, 1] rfl, va_K.moved hW.alike hK⟩⟩ rfl rfl hl.1 rfl (lv_room (Nat.le_of_ble_eq_true rfl)) dX6_valueOnBoards_9 ⟨(Nat.le_of_ble_eq_true rfl), (Nat.le_of_ble_eq_true rfl)⟩) (fun r9 er9 => ?_)
    obtain rfl := er9.symm
    refine vx_ret ?_
    refine W.widen (k := 1) (n := 6) (Nat.le_of_ble_eq_true rfl) (Nat.le_of_ble_eq_true rfl) ?_
    refine W.iret (v := (vput (pop (cempty fa fb)) (cown fa fb 0) (coth fa fb 0))) hx hb hr (fun tt ht hW => ⟨⟨(vput (pop (cempty fa fb)) (cown fa fb 0) (coth fa fb 0)), (), rfl, ?_, by rw [ht]; exact hP, va_K.moved hW.alike hK, hD⟩, hS.F ht⟩) hS.2.2 dX6_valueOnBoards_12
    exact ⟨hw1.1, hw1.2, rfl⟩

set_option maxHeartbeats 400000 in
set_option maxRecDepth 100000 in
theorem c_X6_value_1 (l : Launch) (hltr : l.stackTraces = false) (D : va_G) (cI cJ : ClassId) (sz : Nat) (h0 lg fs ps vt vf vv : Nat) (fa fb : Int64) (re : Int32) (fm : Nat → Int64) (vl : Nat → Int32) (hT : TI fm vl) (hp : 0 < pop (fa ||| fb)) (hB : re = 0 → BH (pop (cempty fa fb)) (cown fa fb 1) (coth fa fb 1)) : vx_Met l yX6_value wsX6_value ({ frames := 17, cells := 1, slots := 6, locals := 490 } : Room) (va_Pc [.ref h0] (px_E (px_X (va_A [(h0, .inr (3, [.ref lg, .ref fs, .ref ps, .long fa, .long fb, .int 1, .int re])), (fs, .inr (1, [.ref vt])), (vt, .inr (2, [.ref vf, .ref vv])), (vf, .inl (cJ, 1024, .inr (.inl fm))), (vv, .inl (cI, 1024, .inl vl))] sz) (pv_C D cI cJ [(h0, .inr (3, [.ref lg, .ref fs, .ref ps, .long fa, .long fb, .int 1, .int re])), (fs, .inr (1, [.ref vt])), (vt, .inr (2, [.ref vf, .ref vv])), (vf, .inl (cJ, 1024, .inr (.inl fm))), (vv, .inl (cI, 1024, .inl vl))] sz)))) (va_Qi (fun (r : Int32) (u : (Nat → Int64) × (Nat → Int32)) => re = 0 ∧ pop (cempty fa fb) ≤ 3 ∧ r = vturn (vput (pop (cempty fa fb))) (cown fa fb 1) (coth fa fb 1) 8 ∧ TI u.1 u.2) (fun (u : (Nat → Int64) × (Nat → Int32)) => pv_B D cI cJ (va_A [(h0, .inr (3, [.ref lg, .ref fs, .ref ps, .long fa, .long fb, .int 1, .int re])), (fs, .inr (1, [.ref vt])), (vt, .inr (2, [.ref vf, .ref vv])), (vf, .inl (cJ, 1024, .inr (.inl fm))), (vv, .inl (cI, 1024, .inl vl))] sz) [(h0, .inr (3, [.ref lg, .ref fs, .ref ps, .long fa, .long fb, .int 1, .int re])), (fs, .inr (1, [.ref vt])), (vt, .inr (2, [.ref vf, .ref vv])), (vf, .inl (cJ, 1024, .inr (.inl u.1))), (vv, .inl (cI, 1024, .inl u.2))]) (va_A [(h0, .inr (3, [.ref lg, .ref fs, .ref ps, .long fa, .long fb, .int 1, .int re])), (fs, .inr (1, [.ref vt])), (vt, .inr (2, [.ref vf, .ref vv])), (vf, .inl (cJ, 1024, .inr (.inl fm))), (vv, .inl (cI, 1024, .inl vl))] sz)) (vx_X (fun (_ : Unit) => True) (fun (E : String) (_ : Unit) (tt : State) => (E = nISE ∧ ¬ (re = 0 ∧ pop (cempty fa fb) ≤ 3)) ∧ pv_B D cI cJ (va_A [(h0, .inr (3, [.ref lg, .ref fs, .ref ps, .long fa, .long fb, .int 1, .int re])), (fs, .inr (1, [.ref vt])), (vt, .inr (2, [.ref vf, .ref vv])), (vf, .inl (cJ, 1024, .inr (.inl fm))), (vv, .inl (cI, 1024, .inl vl))] sz) [(h0, .inr (3, [.ref lg, .ref fs, .ref ps, .long fa, .long fb, .int 1, .int re])), (fs, .inr (1, [.ref vt])), (vt, .inr (2, [.ref vf, .ref vv])), (vf, .inl (cJ, 1024, .inr (.inl fm))), (vv, .inl (cI, 1024, .inl vl))] tt) (va_A [(h0, .inr (3, [.ref lg, .ref fs, .ref ps, .long fa, .long fb, .int 1, .int re])), (fs, .inr (1, [.ref vt])), (vt, .inr (2, [.ref vf, .ref vv])), (vf, .inl (cJ, 1024, .inr (.inl fm))), (vv, .inl (cI, 1024, .inl vl))] sz)) 1 6 (va_A [(h0, .inr (3, [.ref lg, .ref fs, .ref ps, .long fa, .long fb, .int 1, .int re])), (fs, .inr (1, [.ref vt])), (vt, .inr (2, [.ref vf, .ref vv])), (vf, .inl (cJ, 1024, .inr (.inl fm))), (vv, .inl (cI, 1024, .inl vl))] sz) := by
  refine vx_ofW (cc := cX6_value) (maxL := 1) (ret := (some .int)) (by decide) rfl ?_
  intro p e s m args below meth c s₁ B hml htab hv
  obtain ⟨rfl, hEN, hEX, hZ, rfl, hP, hK, hD0⟩ := hv
  have hx := B.exec
  have hb := B.bytes
  have hr := B.returns
  have hts := atoms_spec (ws := wsX6_value) B.pre
  have hown : s.vm.findClass RX6 = some m.cls := findClass_of_methodNamed B.named
  have hlocks := B.notSynchronized
  have hD := hD0.self (sz := s.heap.size)
  generalize hAe : va_A [(h0, .inr (3, [.ref lg, .ref fs, .ref ps, .long fa, .long fb, .int 1, .int re])), (fs, .inr (1, [.ref vt])), (vt, .inr (2, [.ref vf, .ref vv])), (vf, .inl (cJ, 1024, .inr (.inl fm))), (vv, .inl (cI, 1024, .inl vl))] s.heap.size = A at hD hZ ⊢
  have hA : ∀ q : Nat, s.heap.size ≤ q → A q := fun q h => by rw [← hAe]; exact Or.inr h
  have hS : va_S A s.heap s.heap [] := va_S.rf
  have hinX6 : ∀ w ∈ wsX60, w ∈ wsX6_value := by decide +kernel
  have hfl24 : (Cond.fieldLink RX6 24 "Twistquad" "formSolver" "LTwistquad$Solver;").before ([.ref h0] : List Value).toArray s = true := hts _ (by decide +kernel)
  have hl := lv_entry ([.ref h0]) (n := 1) (Nat.le_of_ble_eq_true rfl)
  rw [lg_entry_eq]
  generalize (lg_sl ([.ref h0]) ++ List.replicate (1 - (lg_sl ([.ref h0])).length) Slot.unset).toArray = ls at hl ⊢
  have hl : lv_has ls 1 [(0, .ref h0)] := hl
  refine lv_aload_n hx hb dX6_value_0 rfl (lv_at hl 0 rfl) ?_
  have hPc : va_P D vwCl [(h0, .inr (3, [.ref lg, .ref fs, .ref ps, .long fa, .long fb, .int 1, .int re]))] s.heap := hP.sub (ws' := [(h0, .inr (3, [.ref lg, .ref fs, .ref ps, .long fa, .long fb, .int 1, .int re]))]) [0] rfl
  have hDc : va_D A [(h0, .inr (3, [.ref lg, .ref fs, .ref ps, .long fa, .long fb, .int 1, .int re]))] := hD.sub (ws' := [(h0, .inr (3, [.ref lg, .ref fs, .ref ps, .long fa, .long fb, .int 1, .int re]))]) [0] (by decide) rfl
  have hFc := va_free (wc := [(h0, .inr (3, [.ref lg, .ref fs, .ref ps, .long fa, .long fb, .int 1, .int re]))]) hD hS hA [0] rfl
  refine vx_callv (vx_runV (As := []) (rest := []) ⟨hx, hb, hml, hown, hts⟩ (c_X6_requireSolvable l hltr D cI cJ s.heap.size  h0 lg fs ps fa fb 1 re ) (cwV 0 hts gX6_value_X6_requireSolvable rfl rfl rfl (by decide +kernel) ⟨Nat.le_of_ble_eq_true rfl, Nat.le_of_ble_eq_true rfl⟩) ⟨(px_blindX pv_blind), va_recv hK hPc (ci := 3) (q0 := 0) rfl rfl, fun U hU hW => ⟨rfl, hEX.warm hW, by rw [hU]; exact hZ.to hS hW.alike hFc, by rw [hU], by rw [hU]; exact hPc, va_K.moved hW.alike hK, hDc.weaken (fun _ _ _ _ => trivial)⟩⟩ rfl rfl hl.1 rfl (lv_room (Nat.le_of_ble_eq_true rfl)) dX6_value_1 ⟨(Nat.le_of_ble_eq_true rfl), (Nat.le_of_ble_eq_true rfl)⟩) hS (fun q _ h => hFc q h) hFc (fun q _ h => hFc q h) (fun E ce q9 u9 t9 H1 locs hth hvm hpx hB9 hz1 hk1 hS hce hcv hcl => ?_) (fun u t9 H1 locs hth hvm hw1 hB9 hz1 hk1 hS => ?_)
  · obtain ⟨hb9, hP1, hK1, hD1⟩ := hB9
    rw [hth] at hP1
    obtain ⟨hP, hD⟩ := va_join (wr := [(fs, .inr (1, [.ref vt])), (vt, .inr (2, [.ref vf, .ref vv])), (vf, .inl (cJ, 1024, .inr (.inl fm))), (vv, .inl (cI, 1024, .inl vl))]) (w1 := [(h0, .inr (3, [.ref lg, .ref fs, .ref ps, .long fa, .long fb, .int 1, .int re]))]) hP hD [0] [1, 2, 3, 4] rfl rfl (by decide) (by decide) hk1 hFc hP1 hD1
    have hP : va_P D vwCl [(h0, .inr (3, [.ref lg, .ref fs, .ref ps, .long fa, .long fb, .int 1, .int re])), (fs, .inr (1, [.ref vt])), (vt, .inr (2, [.ref vf, .ref vv])), (vf, .inl (cJ, 1024, .inr (.inl fm))), (vv, .inl (cI, 1024, .inl vl))] H1 := hP.sub (ws' := [(h0, .inr (3, [.ref lg, .ref fs, .ref ps, .long fa, .long fb, .int 1, .int re])), (fs, .inr (1, [.ref vt])), (vt, .inr (2, [.ref vf, .ref vv])), (vf, .inl (cJ, 1024, .inr (.inl fm))), (vv, .inl (cI, 1024, .inl vl))]) [4, 0, 1, 2, 3] rfl
    have hD : va_D A [(h0, .inr (3, [.ref lg, .ref fs, .ref ps, .long fa, .long fb, .int 1, .int re])), (fs, .inr (1, [.ref vt])), (vt, .inr (2, [.ref vf, .ref vv])), (vf, .inl (cJ, 1024, .inr (.inl fm))), (vv, .inl (cI, 1024, .inl vl))] := hD.sub (ws' := [(h0, .inr (3, [.ref lg, .ref fs, .ref ps, .long fa, .long fb, .int 1, .int re])), (fs, .inr (1, [.ref vt])), (vt, .inr (2, [.ref vf, .ref vv])), (vf, .inl (cJ, 1024, .inr (.inl fm))), (vv, .inl (cI, 1024, .inl vl))]) [4, 0, 1, 2, 3] (by decide) rfl
    exact vx_out (fun x h => (htab x h).elim) hlocks hce hcv hcl (fun tt htt hvt => ⟨(), trivial, ⟨hb9, by rw [htt]; exact hP, va_K.moved hvt hK, hD⟩, hS.F htt⟩) hS.2.2 (Nat.le_of_ble_eq_true rfl) (Nat.le_of_ble_eq_true rfl)
  · try dsimp only at hw1
    obtain ⟨hP1, hK1, hD1⟩ := hB9
    rw [hth] at hP1
    obtain ⟨hP, hD⟩ := va_join (wr := [(fs, .inr (1, [.ref vt])), (vt, .inr (2, [.ref vf, .ref vv])), (vf, .inl (cJ, 1024, .inr (.inl fm))), (vv, .inl (cI, 1024, .inl vl))]) (w1 := [(h0, .inr (3, [.ref lg, .ref fs, .ref ps, .long fa, .long fb, .int 1, .int re]))]) hP hD [0] [1, 2, 3, 4] rfl rfl (by decide) (by decide) hk1 hFc hP1 hD1
    generalize H1 = H at hP hS ⊢
    have hP : va_P D vwCl [(h0, .inr (3, [.ref lg, .ref fs, .ref ps, .long fa, .long fb, .int 1, .int re])), (fs, .inr (1, [.ref vt])), (vt, .inr (2, [.ref vf, .ref vv])), (vf, .inl (cJ, 1024, .inr (.inl fm))), (vv, .inl (cI, 1024, .inl vl))] H := hP.sub (ws' := [(h0, .inr (3, [.ref lg, .ref fs, .ref ps, .long fa, .long fb, .int 1, .int re])), (fs, .inr (1, [.ref vt])), (vt, .inr (2, [.ref vf, .ref vv])), (vf, .inl (cJ, 1024, .inr (.inl fm))), (vv, .inl (cI, 1024, .inl vl))]) [4, 0, 1, 2, 3] rfl
    have hD : va_D A [(h0, .inr (3, [.ref lg, .ref fs, .ref ps, .long fa, .long fb, .int 1, .int re])), (fs, .inr (1, [.ref vt])), (vt, .inr (2, [.ref vf, .ref vv])), (vf, .inl (cJ, 1024, .inr (.inl fm))), (vv, .inl (cI, 1024, .inl vl))] := hD.sub (ws' := [(h0, .inr (3, [.ref lg, .ref fs, .ref ps, .long fa, .long fb, .int 1, .int re])), (fs, .inr (1, [.ref vt])), (vt, .inr (2, [.ref vf, .ref vv])), (vf, .inl (cJ, 1024, .inr (.inl fm))), (vv, .inl (cI, 1024, .inl vl))]) [4, 0, 1, 2, 3] (by decide) rfl
    refine lv_aload_n hx hb dX6_value_4 rfl (lv_at hl 0 rfl) ?_
    refine lv_aload_n hx hb dX6_value_5 rfl (lv_at hl 0 rfl) ?_
    refine va_get (D := D) (ci := 3) (v := .ref fs) (C := RX6) (T := TX6) (N := 7) hx hb hts hinX6 hown hK hP 0 rfl rfl 1 (by decide) hfl24 (fun _ h9 => h9) rfl dX6_value_6 ?_
    have hPc := hP.sub (ws' := [(h0, .inr (3, [.ref lg, .ref fs, .ref ps, .long fa, .long fb, .int 1, .int re])), (fs, .inr (1, [.ref vt])), (vt, .inr (2, [.ref vf, .ref vv])), (vf, .inl (cJ, 1024, .inr (.inl fm))), (vv, .inl (cI, 1024, .inl vl))]) [0, 1, 2, 3, 4] rfl
    have hDc := hD.sub (ws' := [(h0, .inr (3, [.ref lg, .ref fs, .ref ps, .long fa, .long fb, .int 1, .int re])), (fs, .inr (1, [.ref vt])), (vt, .inr (2, [.ref vf, .ref vv])), (vf, .inl (cJ, 1024, .inr (.inl fm))), (vv, .inl (cI, 1024, .inl vl))]) [0, 1, 2, 3, 4] (by decide) rfl
    have hFc := va_free (wc := [(h0, .inr (3, [.ref lg, .ref fs, .ref ps, .long fa, .long fb, .int 1, .int re])), (fs, .inr (1, [.ref vt])), (vt, .inr (2, [.ref vf, .ref vv])), (vf, .inl (cJ, 1024, .inr (.inl fm))), (vv, .inl (cI, 1024, .inl vl))]) hD hS hA [0, 1, 2, 3, 4] rfl
    refine va_calli (va_runV (As := [.ref fs]) (rest := []) ⟨hx, hb, hml, hown, hts⟩ (c_X6_solveWith_f_1 l D cI cJ H.size  h0 lg fs ps vt vf vv fa fb re fm vl hT hp (pop (cempty fa fb)) hw1.2 rfl (hB hw1.1)) (cwV 1 hts gX6_value_X6_solveWith rfl rfl rfl (by decide +kernel) ⟨Nat.le_of_ble_eq_true rfl, Nat.le_of_ble_eq_true rfl⟩) ⟨(px_blindE pv_blind), va_recv hK hPc (ci := 3) (q0 := 0) rfl rfl, fun U hU hW => ⟨rfl, hEN.warm hW, by rw [hU], by rw [hU]; exact hPc, va_K.moved hW.alike hK, hDc.weaken (fun _ _ _ _ => trivial)⟩⟩ rfl rfl hl.1 rfl (lv_room (Nat.le_of_ble_eq_true rfl)) dX6_value_9 ⟨(Nat.le_of_ble_eq_true rfl), (Nat.le_of_ble_eq_true rfl)⟩) hS (fun q _ h => hFc q h) hFc (fun r9 u t9 H1 locs hth hvm hw9 hB hz1 hk1 hS => ?_)
    obtain ⟨fm9, vl9⟩ := u
    try dsimp only at hw9
    obtain ⟨hP1, hK1, hD1⟩ := hB
    rw [hth] at hP1
    obtain ⟨hP, hD⟩ := va_join (wr := []) (w1 := [(h0, .inr (3, [.ref lg, .ref fs, .ref ps, .long fa, .long fb, .int 1, .int re])), (fs, .inr (1, [.ref vt])), (vt, .inr (2, [.ref vf, .ref vv])), (vf, .inl (cJ, 1024, .inr (.inl fm9))), (vv, .inl (cI, 1024, .inl vl9))]) hP hD [0, 1, 2, 3, 4] [] rfl rfl (by decide) (by decide) hk1 hFc hP1 hD1
    generalize H1 = H at hP hS ⊢
    have hP : va_P D vwCl [(h0, .inr (3, [.ref lg, .ref fs, .ref ps, .long fa, .long fb, .int 1, .int re])), (fs, .inr (1, [.ref vt])), (vt, .inr (2, [.ref vf, .ref vv])), (vf, .inl (cJ, 1024, .inr (.inl fm9))), (vv, .inl (cI, 1024, .inl vl9))] H := hP.sub (ws' := [(h0, .inr (3, [.ref lg, .ref fs, .ref ps, .long fa, .long fb, .int 1, .int re])), (fs, .inr (1, [.ref vt])), (vt, .inr (2, [.ref vf, .ref vv])), (vf, .inl (cJ, 1024, .inr (.inl fm9))), (vv, .inl (cI, 1024, .inl vl9))]) [0, 1, 2, 3, 4] rfl
    have hD : va_D A [(h0, .inr (3, [.ref lg, .ref fs, .ref ps, .long fa, .long fb, .int 1, .int re])), (fs, .inr (1, [.ref vt])), (vt, .inr (2, [.ref vf, .ref vv])), (vf, .inl (cJ, 1024, .inr (.inl fm9))), (vv, .inl (cI, 1024, .inl vl9))] := hD.sub (ws' := [(h0, .inr (3, [.ref lg, .ref fs, .ref ps, .long fa, .long fb, .int 1, .int re])), (fs, .inr (1, [.ref vt])), (vt, .inr (2, [.ref vf, .ref vv])), (vf, .inl (cJ, 1024, .inr (.inl fm9))), (vv, .inl (cI, 1024, .inl vl9))]) [0, 1, 2, 3, 4] (by decide) rfl
    obtain ⟨hv9, hT9⟩ := hw9
    obtain rfl := hv9.symm
    refine vx_ret ?_
    refine W.widen (k := 1) (n := 6) (Nat.le_of_ble_eq_true rfl) (Nat.le_of_ble_eq_true rfl) ?_
    refine W.iret (v := (vturn (vput (pop (cempty fa fb))) (cown fa fb 1) (coth fa fb 1) 8)) hx hb hr (fun tt ht hW => ⟨⟨(vturn (vput (pop (cempty fa fb))) (cown fa fb 1) (coth fa fb 1) 8), (fm9, vl9), rfl, ?_, by rw [ht]; exact hP, va_K.moved hW.alike hK, hD⟩, hS.F ht⟩) hS.2.2 dX6_value_12
    exact ⟨hw1.1, hw1.2, rfl, hT9⟩

set_option maxHeartbeats 400000 in
set_option maxRecDepth 100000 in
theorem c_X6_valueOnBoards_1 (l : Launch) (hltr : l.stackTraces = false) (D : va_G) (cI cJ : ClassId) (sz : Nat) (h0 lg fs ps : Nat) (fa fb : Int64) (re : Int32) (hp : 0 < pop (fa ||| fb)) : vx_Met l yX6_valueOnBoards wsX6_valueOnBoards ({ frames := 17, cells := 1, slots := 6, locals := 490 } : Room) (va_Pc [.ref h0] (px_E (px_X (va_A [(h0, .inr (3, [.ref lg, .ref fs, .ref ps, .long fa, .long fb, .int 1, .int re])), (ps, .inr (1, [.null]))] sz) (pv_C D cI cJ [(h0, .inr (3, [.ref lg, .ref fs, .ref ps, .long fa, .long fb, .int 1, .int re])), (ps, .inr (1, [.null]))] sz)))) (va_Qi (fun (r : Int32) (u : Unit) => re = 0 ∧ pop (cempty fa fb) ≤ 3 ∧ r = vturn (vput (pop (cempty fa fb))) (cown fa fb 1) (coth fa fb 1) 8) (fun (u : Unit) => pv_B D cI cJ (va_A [(h0, .inr (3, [.ref lg, .ref fs, .ref ps, .long fa, .long fb, .int 1, .int re])), (ps, .inr (1, [.null]))] sz) [(h0, .inr (3, [.ref lg, .ref fs, .ref ps, .long fa, .long fb, .int 1, .int re])), (ps, .inr (1, [.null]))]) (va_A [(h0, .inr (3, [.ref lg, .ref fs, .ref ps, .long fa, .long fb, .int 1, .int re])), (ps, .inr (1, [.null]))] sz)) (vx_X (fun (_ : Unit) => True) (fun (E : String) (_ : Unit) (tt : State) => (E = nISE ∧ ¬ (re = 0 ∧ pop (cempty fa fb) ≤ 3)) ∧ pv_B D cI cJ (va_A [(h0, .inr (3, [.ref lg, .ref fs, .ref ps, .long fa, .long fb, .int 1, .int re])), (ps, .inr (1, [.null]))] sz) [(h0, .inr (3, [.ref lg, .ref fs, .ref ps, .long fa, .long fb, .int 1, .int re])), (ps, .inr (1, [.null]))] tt) (va_A [(h0, .inr (3, [.ref lg, .ref fs, .ref ps, .long fa, .long fb, .int 1, .int re])), (ps, .inr (1, [.null]))] sz)) 1 6 (va_A [(h0, .inr (3, [.ref lg, .ref fs, .ref ps, .long fa, .long fb, .int 1, .int re])), (ps, .inr (1, [.null]))] sz) := by
  refine vx_ofW (cc := cX6_valueOnBoards) (maxL := 1) (ret := (some .int)) (by decide) rfl ?_
  intro p e s m args below meth c s₁ B hml htab hv
  obtain ⟨rfl, hEN, hEX, hZ, rfl, hP, hK, hD0⟩ := hv
  have hx := B.exec
  have hb := B.bytes
  have hr := B.returns
  have hts := atoms_spec (ws := wsX6_valueOnBoards) B.pre
  have hown : s.vm.findClass RX6 = some m.cls := findClass_of_methodNamed B.named
  have hlocks := B.notSynchronized
  have hD := hD0.self (sz := s.heap.size)
  generalize hAe : va_A [(h0, .inr (3, [.ref lg, .ref fs, .ref ps, .long fa, .long fb, .int 1, .int re])), (ps, .inr (1, [.null]))] s.heap.size = A at hD hZ ⊢
  have hA : ∀ q : Nat, s.heap.size ≤ q → A q := fun q h => by rw [← hAe]; exact Or.inr h
  have hS : va_S A s.heap s.heap [] := va_S.rf
  have hinX6 : ∀ w ∈ wsX60, w ∈ wsX6_valueOnBoards := by decide +kernel
  have hfl28 : (Cond.fieldLink RX6 28 "Twistquad" "plainSolver" "LTwistquad$Solver;").before ([.ref h0] : List Value).toArray s = true := hts _ (by decide +kernel)
  have hl := lv_entry ([.ref h0]) (n := 1) (Nat.le_of_ble_eq_true rfl)
  rw [lg_entry_eq]
  generalize (lg_sl ([.ref h0]) ++ List.replicate (1 - (lg_sl ([.ref h0])).length) Slot.unset).toArray = ls at hl ⊢
  have hl : lv_has ls 1 [(0, .ref h0)] := hl
  refine lv_aload_n hx hb dX6_valueOnBoards_0 rfl (lv_at hl 0 rfl) ?_
  have hPc : va_P D vwCl [(h0, .inr (3, [.ref lg, .ref fs, .ref ps, .long fa, .long fb, .int 1, .int re]))] s.heap := hP.sub (ws' := [(h0, .inr (3, [.ref lg, .ref fs, .ref ps, .long fa, .long fb, .int 1, .int re]))]) [0] rfl
  have hDc : va_D A [(h0, .inr (3, [.ref lg, .ref fs, .ref ps, .long fa, .long fb, .int 1, .int re]))] := hD.sub (ws' := [(h0, .inr (3, [.ref lg, .ref fs, .ref ps, .long fa, .long fb, .int 1, .int re]))]) [0] (by decide) rfl
  have hFc := va_free (wc := [(h0, .inr (3, [.ref lg, .ref fs, .ref ps, .long fa, .long fb, .int 1, .int re]))]) hD hS hA [0] rfl
  refine vx_callv (vx_runV (As := []) (rest := []) ⟨hx, hb, hml, hown, hts⟩ (c_X6_requireSolvable l hltr D cI cJ s.heap.size  h0 lg fs ps fa fb 1 re ) (cwV 0 hts gX6_valueOnBoards_X6_requireSolvable rfl rfl rfl (by decide +kernel) ⟨Nat.le_of_ble_eq_true rfl, Nat.le_of_ble_eq_true rfl⟩) ⟨(px_blindX pv_blind), va_recv hK hPc (ci := 3) (q0 := 0) rfl rfl, fun U hU hW => ⟨rfl, hEX.warm hW, by rw [hU]; exact hZ.to hS hW.alike hFc, by rw [hU], by rw [hU]; exact hPc, va_K.moved hW.alike hK, hDc.weaken (fun _ _ _ _ => trivial)⟩⟩ rfl rfl hl.1 rfl (lv_room (Nat.le_of_ble_eq_true rfl)) dX6_valueOnBoards_1 ⟨(Nat.le_of_ble_eq_true rfl), (Nat.le_of_ble_eq_true rfl)⟩) hS (fun q _ h => hFc q h) hFc (fun q _ h => hFc q h) (fun E ce q9 u9 t9 H1 locs hth hvm hpx hB9 hz1 hk1 hS hce hcv hcl => ?_) (fun u t9 H1 locs hth hvm hw1 hB9 hz1 hk1 hS => ?_)
  · obtain ⟨hb9, hP1, hK1, hD1⟩ := hB9
    rw [hth] at hP1
    obtain ⟨hP, hD⟩ := va_join (wr := [(ps, .inr (1, [.null]))]) (w1 := [(h0, .inr (3, [.ref lg, .ref fs, .ref ps, .long fa, .long fb, .int 1, .int re]))]) hP hD [0] [1] rfl rfl (by decide) (by decide) hk1 hFc hP1 hD1
    have hP : va_P D vwCl [(h0, .inr (3, [.ref lg, .ref fs, .ref ps, .long fa, .long fb, .int 1, .int re])), (ps, .inr (1, [.null]))] H1 := hP.sub (ws' := [(h0, .inr (3, [.ref lg, .ref fs, .ref ps, .long fa, .long fb, .int 1, .int re])), (ps, .inr (1, [.null]))]) [1, 0] rfl
    have hD : va_D A [(h0, .inr (3, [.ref lg, .ref fs, .ref ps, .long fa, .long fb, .int 1, .int re])), (ps, .inr (1, [.null]))] := hD.sub (ws' := [(h0, .inr (3, [.ref lg, .ref fs, .ref ps, .long fa, .long fb, .int 1, .int re])), (ps, .inr (1, [.null]))]) [1, 0] (by decide) rfl
    exact vx_out (fun x h => (htab x h).elim) hlocks hce hcv hcl (fun tt htt hvt => ⟨(), trivial, ⟨hb9, by rw [htt]; exact hP, va_K.moved hvt hK, hD⟩, hS.F htt⟩) hS.2.2 (Nat.le_of_ble_eq_true rfl) (Nat.le_of_ble_eq_true rfl)
  · try dsimp only at hw1
    obtain ⟨hP1, hK1, hD1⟩ := hB9
    rw [hth] at hP1
    obtain ⟨hP, hD⟩ := va_join (wr := [(ps, .inr (1, [.null]))]) (w1 := [(h0, .inr (3, [.ref lg, .ref fs, .ref ps, .long fa, .long fb, .int 1, .int re]))]) hP hD [0] [1] rfl rfl (by decide) (by decide) hk1 hFc hP1 hD1
    generalize H1 = H at hP hS ⊢
    have hP : va_P D vwCl [(h0, .inr (3, [.ref lg, .ref fs, .ref ps, .long fa, .long fb, .int 1, .int re])), (ps, .inr (1, [.null]))] H := hP.sub (ws' := [(h0, .inr (3, [.ref lg, .ref fs, .ref ps, .long fa, .long fb, .int 1, .int re])), (ps, .inr (1, [.null]))]) [1, 0] rfl
    have hD : va_D A [(h0, .inr (3, [.ref lg, .ref fs, .ref ps, .long fa, .long fb, .int 1, .int re])), (ps, .inr (1, [.null]))] := hD.sub (ws' := [(h0, .inr (3, [.ref lg, .ref fs, .ref ps, .long fa, .long fb, .int 1, .int re])), (ps, .inr (1, [.null]))]) [1, 0] (by decide) rfl
    refine lv_aload_n hx hb dX6_valueOnBoards_4 rfl (lv_at hl 0 rfl) ?_
    refine lv_aload_n hx hb dX6_valueOnBoards_5 rfl (lv_at hl 0 rfl) ?_
    refine va_get (D := D) (ci := 3) (v := .ref ps) (C := RX6) (T := TX6) (N := 7) hx hb hts hinX6 hown hK hP 0 rfl rfl 2 (by decide) hfl28 (fun _ h9 => h9) rfl dX6_valueOnBoards_6 ?_
    refine vp_callSi (W.runV (As := [.ref ps]) (rest := []) ⟨hx, hb, hml, hown, hts⟩ (c_X6_solveWith_p_1 l D cI cJ h0 lg fs ps fa fb re hp (pop (cempty fa fb)) hw1.2 rfl) (cwV 1 hts gX6_valueOnBoards_X6_solveWith rfl rfl rfl (by decide +kernel) ⟨Nat.le_of_ble_eq_true rfl, Nat.le_of_ble_eq_true rfl⟩) ⟨(px_blindE px_blindW), va_recv hK hP (ci := 3) (q0 := 0) rfl rfl, fun U hU hW => ⟨rfl, hEN.warm hW, by rw [hU]; exact hP.sub (ws' := [(h0, .inr (3, [.ref lg, .ref fs, .ref ps, .long fa, .long fb, .int 1, .int re])), (ps, .inr (1, [.null]))]) [0, 1] rfl, va_K.moved hW.alike hK⟩⟩ rfl rfl hl.1 rfl (lv_room (Nat.le_of_ble_eq_true rfl)) dX6_valueOnBoards_9 ⟨(Nat.le_of_ble_eq_true rfl), (Nat.le_of_ble_eq_true rfl)⟩) (fun r9 er9 => ?_)
    obtain rfl := er9.symm
    refine vx_ret ?_
    refine W.widen (k := 1) (n := 6) (Nat.le_of_ble_eq_true rfl) (Nat.le_of_ble_eq_true rfl) ?_
    refine W.iret (v := (vturn (vput (pop (cempty fa fb))) (cown fa fb 1) (coth fa fb 1) 8)) hx hb hr (fun tt ht hW => ⟨⟨(vturn (vput (pop (cempty fa fb))) (cown fa fb 1) (coth fa fb 1) 8), (), rfl, ?_, by rw [ht]; exact hP, va_K.moved hW.alike hK, hD⟩, hS.F ht⟩) hS.2.2 dX6_valueOnBoards_12
    exact ⟨hw1.1, hw1.2, rfl⟩
