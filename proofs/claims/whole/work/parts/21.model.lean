set_option maxHeartbeats 400000 in
set_option maxRecDepth 100000 in
theorem c_X7_thrown (l : Launch) (D : va_G) (cI cJ : ClassId) (h0 ow cl tu lk f1 s2 ms nx bs : Nat) (th re mt fd : Int32) (w k : Nat) (fo lo ff sf : Nat → Int64) (cs ts mm nf bf : Nat → Int32)  : Met l yX7_thrown wsX7_thrown ({ frames := 0, cells := 0, slots := 0, locals := 0 } : Room) (va_Pc [.ref h0] (px_W D [(h0, .inr (4, [.int th, .ref ow, .int re, .int (nI w), .int mt, .ref cl, .ref tu, .int (nI k), .ref lk, .ref f1, .ref s2, .ref ms, .ref nx, .ref bs, .int fd])), (ow, .inl (cJ, 3, .inr (.inl fo))), (cl, .inl (cI, 36, .inl cs)), (tu, .inl (cI, 36, .inl ts)), (lk, .inl (cJ, 3, .inr (.inl lo))), (f1, .inl (cJ, 6, .inr (.inl ff))), (s2, .inl (cJ, 6, .inr (.inl sf))), (ms, .inl (cI, 6, .inl mm)), (nx, .inl (cI, 6, .inl nf)), (bs, .inl (cI, 6, .inl bf))] [(cI, .int), (cJ, .long)])) (vp_Si (fun r => r = th)) 0 0 (fun _ => False) := by
  refine Met.ofW (cc := cX7_thrown) (maxL := 1) (ret := (some .int)) (by decide) rfl ?_
  intro p e s m args below meth c s₁ B hml hv
  obtain ⟨rfl, hP, hK⟩ := hv
  have hx := B.exec
  have hb := B.bytes
  have hr := B.returns
  have hts := atoms_spec (ws := wsX7_thrown) B.pre
  have hown : s.vm.findClass RX7 = some m.cls := findClass_of_methodNamed B.named
  have hlocks := B.notSynchronized
  have hinX7 : ∀ w ∈ wsX70, w ∈ wsX7_thrown := by decide +kernel
  have hfl42 : (Cond.fieldLink RX7 42 "TwistquadModel" "thrown" "I").before ([.ref h0] : List Value).toArray s = true := hts _ (by decide +kernel)
  have hl := lv_entry ([.ref h0]) (n := 1) (Nat.le_of_ble_eq_true rfl)
  rw [lg_entry_eq]
  generalize (lg_sl ([.ref h0]) ++ List.replicate (1 - (lg_sl ([.ref h0])).length) Slot.unset).toArray = ls at hl ⊢
  have hl : lv_has ls 1 [(0, .ref h0)] := hl
  refine lv_aload_n hx hb dX7_thrown_0 rfl (lv_at hl 0 rfl) ?_
  refine va_get (D := D) (ci := 4) (v := .int th) (C := RX7) (T := TX7) (N := 15) hx hb hts hinX7 hown hK hP 0 rfl rfl 0 (by decide) hfl42 (fun _ h9 => h9) rfl dX7_thrown_1 ?_
  refine W.iret (v := th) hx hb hr (fun tt ht hW => ⟨th, rfl, ?_, ht⟩) (fun _ h => nomatch h) dX7_thrown_4
  rfl

set_option maxHeartbeats 400000 in
set_option maxRecDepth 100000 in
theorem c_X7_goesWell (l : Launch) (D : va_G) (cI cJ : ClassId) (sz : Nat) (h0 ow cl tu lk f1 s2 ms nx bs : Nat) (th re mt fd : Int32) (w k : Nat) (fo lo ff sf : Nat → Int64) (cs ts mm nf bf : Nat → Int32) (v : Int32) : Met l yX7_goesWell wsX7_goesWell ({ frames := 0, cells := 0, slots := 0, locals := 0 } : Room) (va_Pc [.ref h0, .int v] (pv_C D cI cJ [(h0, .inr (4, [.int th, .ref ow, .int re, .int (nI w), .int mt, .ref cl, .ref tu, .int (nI k), .ref lk, .ref f1, .ref s2, .ref ms, .ref nx, .ref bs, .int fd])), (ow, .inl (cJ, 3, .inr (.inl fo))), (cl, .inl (cI, 36, .inl cs)), (tu, .inl (cI, 36, .inl ts)), (lk, .inl (cJ, 3, .inr (.inl lo))), (f1, .inl (cJ, 6, .inr (.inl ff))), (s2, .inl (cJ, 6, .inr (.inl sf))), (ms, .inl (cI, 6, .inl mm)), (nx, .inl (cI, 6, .inl nf)), (bs, .inl (cI, 6, .inl bf))] sz)) (va_Qi (fun (r : Int32) (u : Unit) => r = if v = 0 then 1 else 0) (fun (u : Unit) => pv_B D cI cJ (va_A [(h0, .inr (4, [.int th, .ref ow, .int re, .int (nI w), .int mt, .ref cl, .ref tu, .int (nI k), .ref lk, .ref f1, .ref s2, .ref ms, .ref nx, .ref bs, .int fd])), (ow, .inl (cJ, 3, .inr (.inl fo))), (cl, .inl (cI, 36, .inl cs)), (tu, .inl (cI, 36, .inl ts)), (lk, .inl (cJ, 3, .inr (.inl lo))), (f1, .inl (cJ, 6, .inr (.inl ff))), (s2, .inl (cJ, 6, .inr (.inl sf))), (ms, .inl (cI, 6, .inl mm)), (nx, .inl (cI, 6, .inl nf)), (bs, .inl (cI, 6, .inl bf))] sz) [(h0, .inr (4, [.int v, .ref ow, .int re, .int (nI w), .int mt, .ref cl, .ref tu, .int (nI k), .ref lk, .ref f1, .ref s2, .ref ms, .ref nx, .ref bs, .int fd])), (ow, .inl (cJ, 3, .inr (.inl fo))), (cl, .inl (cI, 36, .inl cs)), (tu, .inl (cI, 36, .inl ts)), (lk, .inl (cJ, 3, .inr (.inl lo))), (f1, .inl (cJ, 6, .inr (.inl ff))), (s2, .inl (cJ, 6, .inr (.inl sf))), (ms, .inl (cI, 6, .inl mm)), (nx, .inl (cI, 6, .inl nf)), (bs, .inl (cI, 6, .inl bf))]) (va_A [(h0, .inr (4, [.int th, .ref ow, .int re, .int (nI w), .int mt, .ref cl, .ref tu, .int (nI k), .ref lk, .ref f1, .ref s2, .ref ms, .ref nx, .ref bs, .int fd])), (ow, .inl (cJ, 3, .inr (.inl fo))), (cl, .inl (cI, 36, .inl cs)), (tu, .inl (cI, 36, .inl ts)), (lk, .inl (cJ, 3, .inr (.inl lo))), (f1, .inl (cJ, 6, .inr (.inl ff))), (s2, .inl (cJ, 6, .inr (.inl sf))), (ms, .inl (cI, 6, .inl mm)), (nx, .inl (cI, 6, .inl nf)), (bs, .inl (cI, 6, .inl bf))] sz)) 0 0 (va_A [(h0, .inr (4, [.int th, .ref ow, .int re, .int (nI w), .int mt, .ref cl, .ref tu, .int (nI k), .ref lk, .ref f1, .ref s2, .ref ms, .ref nx, .ref bs, .int fd])), (ow, .inl (cJ, 3, .inr (.inl fo))), (cl, .inl (cI, 36, .inl cs)), (tu, .inl (cI, 36, .inl ts)), (lk, .inl (cJ, 3, .inr (.inl lo))), (f1, .inl (cJ, 6, .inr (.inl ff))), (s2, .inl (cJ, 6, .inr (.inl sf))), (ms, .inl (cI, 6, .inl mm)), (nx, .inl (cI, 6, .inl nf)), (bs, .inl (cI, 6, .inl bf))] sz) := by
  refine Met.ofW (cc := cX7_goesWell) (maxL := 2) (ret := (some .boolean)) (by decide) rfl ?_
  intro p e s m args below meth c s₁ B hml hv
  obtain ⟨rfl, rfl, hP, hK, hD0⟩ := hv
  have hx := B.exec
  have hb := B.bytes
  have hr := B.returns
  have hts := atoms_spec (ws := wsX7_goesWell) B.pre
  have hown : s.vm.findClass RX7 = some m.cls := findClass_of_methodNamed B.named
  have hlocks := B.notSynchronized
  have hD := hD0.self (sz := s.heap.size)
  generalize hAe : va_A [(h0, .inr (4, [.int th, .ref ow, .int re, .int (nI w), .int mt, .ref cl, .ref tu, .int (nI k), .ref lk, .ref f1, .ref s2, .ref ms, .ref nx, .ref bs, .int fd])), (ow, .inl (cJ, 3, .inr (.inl fo))), (cl, .inl (cI, 36, .inl cs)), (tu, .inl (cI, 36, .inl ts)), (lk, .inl (cJ, 3, .inr (.inl lo))), (f1, .inl (cJ, 6, .inr (.inl ff))), (s2, .inl (cJ, 6, .inr (.inl sf))), (ms, .inl (cI, 6, .inl mm)), (nx, .inl (cI, 6, .inl nf)), (bs, .inl (cI, 6, .inl bf))] s.heap.size = A at hD ⊢
  have hA : ∀ q : Nat, s.heap.size ≤ q → A q := fun q h => by rw [← hAe]; exact Or.inr h
  have hS : va_S A s.heap s.heap [] := va_S.rf
  have hinX7 : ∀ w ∈ wsX70, w ∈ wsX7_goesWell := by decide +kernel
  have hfl42 : (Cond.fieldLink RX7 42 "TwistquadModel" "thrown" "I").before ([.ref h0, .int v] : List Value).toArray s = true := hts _ (by decide +kernel)
  have hl := lv_entry ([.ref h0, .int v]) (n := 2) (Nat.le_of_ble_eq_true rfl)
  rw [lg_entry_eq]
  generalize (lg_sl ([.ref h0, .int v]) ++ List.replicate (2 - (lg_sl ([.ref h0, .int v])).length) Slot.unset).toArray = ls at hl ⊢
  have hl : lv_has ls 2 [(0, .ref h0), (1, .int v)] := hl
  refine lv_aload_n hx hb dX7_goesWell_0 rfl (lv_at hl 0 rfl) ?_
  refine lv_iload_n hx hb dX7_goesWell_1 rfl (lv_at hl 1 rfl) ?_
  refine va_put (D := D) (ci := 4) (v := .int v) (ty := .int) (C := RX7) (T := TX7) (N := 15) hx hb hts hinX7 tyX7 tyX7_ok nmX7 hown hK hP hD hS 0 rfl rfl 0 (by decide) hfl42 (fun _ h9 => h9) rfl (by decide +kernel) rfl rfl (Nat.le_of_ble_eq_true rfl) dX7_goesWell_2 (fun H locs hP hD hS => ?_)
  have hP : va_P D vwCl [(h0, .inr (4, [.int v, .ref ow, .int re, .int (nI w), .int mt, .ref cl, .ref tu, .int (nI k), .ref lk, .ref f1, .ref s2, .ref ms, .ref nx, .ref bs, .int fd])), (ow, .inl (cJ, 3, .inr (.inl fo))), (cl, .inl (cI, 36, .inl cs)), (tu, .inl (cI, 36, .inl ts)), (lk, .inl (cJ, 3, .inr (.inl lo))), (f1, .inl (cJ, 6, .inr (.inl ff))), (s2, .inl (cJ, 6, .inr (.inl sf))), (ms, .inl (cI, 6, .inl mm)), (nx, .inl (cI, 6, .inl nf)), (bs, .inl (cI, 6, .inl bf))] H := hP
  have hD : va_D A [(h0, .inr (4, [.int v, .ref ow, .int re, .int (nI w), .int mt, .ref cl, .ref tu, .int (nI k), .ref lk, .ref f1, .ref s2, .ref ms, .ref nx, .ref bs, .int fd])), (ow, .inl (cJ, 3, .inr (.inl fo))), (cl, .inl (cI, 36, .inl cs)), (tu, .inl (cI, 36, .inl ts)), (lk, .inl (cJ, 3, .inr (.inl lo))), (f1, .inl (cJ, 6, .inr (.inl ff))), (s2, .inl (cJ, 6, .inr (.inl sf))), (ms, .inl (cI, 6, .inl mm)), (nx, .inl (cI, 6, .inl nf)), (bs, .inl (cI, 6, .inl bf))] := hD
  refine lv_iload_n hx hb dX7_goesWell_5 rfl (lv_at hl 1 rfl) ?_
  refine lv_if_ne (tgt := 13) hx hb dX7_goesWell_6 (by decide) (fun c6 => ?_) (fun c6 => ?_)
  · refine lv_iconst (v := 0) hx hb dX7_goesWell_13 (by decide) ?_
    refine W.zret (v := 0) hx hb hr (rfl) (fun tt ht hW => ⟨⟨0, (), rfl, ?_, by rw [ht]; exact hP, va_K.moved hW.alike hK, hD⟩, hS.F ht⟩) hS.2.2 dX7_goesWell_14
    first | rw [if_pos c6] | rw [if_neg c6]
  · refine lv_iconst (v := 1) hx hb dX7_goesWell_9 (by decide) ?_
    refine lv_goto (tgt := 14) hx hb dX7_goesWell_10 (by decide) ?_
    refine W.zret (v := 1) hx hb hr (rfl) (fun tt ht hW => ⟨⟨1, (), rfl, ?_, by rw [ht]; exact hP, va_K.moved hW.alike hK, hD⟩, hS.F ht⟩) hS.2.2 dX7_goesWell_14
    first | rw [if_pos c6] | rw [if_neg c6]

set_option maxHeartbeats 400000 in
set_option maxRecDepth 100000 in
theorem c_X7_turnOwn (l : Launch) (D : va_G) (cI cJ : ClassId) (sz : Nat) (h0 ow cl tu lk f1 s2 ms nx bs : Nat) (th re mt fd : Int32) (w k : Nat) (fo lo ff sf : Nat → Int64) (cs ts mm nf bf : Nat → Int32) (q wy : Nat) (hq : q < 4) (hw : wy < 2) : Met l yX7_turnOwn wsX7_turnOwn ({ frames := 2, cells := 0, slots := 0, locals := 51 } : Room) (va_Pc [.ref h0, .int (nI q), .int (nI wy)] (pv_C D cI cJ [(h0, .inr (4, [.int th, .ref ow, .int re, .int (nI w), .int mt, .ref cl, .ref tu, .int (nI k), .ref lk, .ref f1, .ref s2, .ref ms, .ref nx, .ref bs, .int fd])), (ow, .inl (cJ, 3, .inr (.inl fo))), (cl, .inl (cI, 36, .inl cs)), (tu, .inl (cI, 36, .inl ts)), (lk, .inl (cJ, 3, .inr (.inl lo))), (f1, .inl (cJ, 6, .inr (.inl ff))), (s2, .inl (cJ, 6, .inr (.inl sf))), (ms, .inl (cI, 6, .inl mm)), (nx, .inl (cI, 6, .inl nf)), (bs, .inl (cI, 6, .inl bf))] sz)) (va_Qv (fun (u : Unit) => True) (fun (u : Unit) => pv_B D cI cJ (va_A [(h0, .inr (4, [.int th, .ref ow, .int re, .int (nI w), .int mt, .ref cl, .ref tu, .int (nI k), .ref lk, .ref f1, .ref s2, .ref ms, .ref nx, .ref bs, .int fd])), (ow, .inl (cJ, 3, .inr (.inl fo))), (cl, .inl (cI, 36, .inl cs)), (tu, .inl (cI, 36, .inl ts)), (lk, .inl (cJ, 3, .inr (.inl lo))), (f1, .inl (cJ, 6, .inr (.inl ff))), (s2, .inl (cJ, 6, .inr (.inl sf))), (ms, .inl (cI, 6, .inl mm)), (nx, .inl (cI, 6, .inl nf)), (bs, .inl (cI, 6, .inl bf))] sz) [(h0, .inr (4, [.int th, .ref ow, .int re, .int (nI w), .int mt, .ref cl, .ref tu, .int (nI k), .ref lk, .ref f1, .ref s2, .ref ms, .ref nx, .ref bs, .int fd])), (ow, .inl (cJ, 3, .inr (.inl (vp_updL (vp_updL fo 1 (mturned (fo 1) q wy)) 2 (mturned (fo 2) q wy))))), (cl, .inl (cI, 36, .inl cs)), (tu, .inl (cI, 36, .inl ts)), (lk, .inl (cJ, 3, .inr (.inl lo))), (f1, .inl (cJ, 6, .inr (.inl ff))), (s2, .inl (cJ, 6, .inr (.inl sf))), (ms, .inl (cI, 6, .inl mm)), (nx, .inl (cI, 6, .inl nf)), (bs, .inl (cI, 6, .inl bf))]) (va_A [(h0, .inr (4, [.int th, .ref ow, .int re, .int (nI w), .int mt, .ref cl, .ref tu, .int (nI k), .ref lk, .ref f1, .ref s2, .ref ms, .ref nx, .ref bs, .int fd])), (ow, .inl (cJ, 3, .inr (.inl fo))), (cl, .inl (cI, 36, .inl cs)), (tu, .inl (cI, 36, .inl ts)), (lk, .inl (cJ, 3, .inr (.inl lo))), (f1, .inl (cJ, 6, .inr (.inl ff))), (s2, .inl (cJ, 6, .inr (.inl sf))), (ms, .inl (cI, 6, .inl mm)), (nx, .inl (cI, 6, .inl nf)), (bs, .inl (cI, 6, .inl bf))] sz)) 0 0 (va_A [(h0, .inr (4, [.int th, .ref ow, .int re, .int (nI w), .int mt, .ref cl, .ref tu, .int (nI k), .ref lk, .ref f1, .ref s2, .ref ms, .ref nx, .ref bs, .int fd])), (ow, .inl (cJ, 3, .inr (.inl fo))), (cl, .inl (cI, 36, .inl cs)), (tu, .inl (cI, 36, .inl ts)), (lk, .inl (cJ, 3, .inr (.inl lo))), (f1, .inl (cJ, 6, .inr (.inl ff))), (s2, .inl (cJ, 6, .inr (.inl sf))), (ms, .inl (cI, 6, .inl mm)), (nx, .inl (cI, 6, .inl nf)), (bs, .inl (cI, 6, .inl bf))] sz) := by
  refine Met.ofW (cc := cX7_turnOwn) (maxL := 3) (ret := none) (by decide) rfl ?_
  intro p e s m args below meth c s₁ B hml hv
  obtain ⟨rfl, rfl, hP, hK, hD0⟩ := hv
  have hx := B.exec
  have hb := B.bytes
  have hr := B.returns
  have hts := atoms_spec (ws := wsX7_turnOwn) B.pre
  have hown : s.vm.findClass RX7 = some m.cls := findClass_of_methodNamed B.named
  have hlocks := B.notSynchronized
  have hD := hD0.self (sz := s.heap.size)
  generalize hAe : va_A [(h0, .inr (4, [.int th, .ref ow, .int re, .int (nI w), .int mt, .ref cl, .ref tu, .int (nI k), .ref lk, .ref f1, .ref s2, .ref ms, .ref nx, .ref bs, .int fd])), (ow, .inl (cJ, 3, .inr (.inl fo))), (cl, .inl (cI, 36, .inl cs)), (tu, .inl (cI, 36, .inl ts)), (lk, .inl (cJ, 3, .inr (.inl lo))), (f1, .inl (cJ, 6, .inr (.inl ff))), (s2, .inl (cJ, 6, .inr (.inl sf))), (ms, .inl (cI, 6, .inl mm)), (nx, .inl (cI, 6, .inl nf)), (bs, .inl (cI, 6, .inl bf))] s.heap.size = A at hD ⊢
  have hA : ∀ q : Nat, s.heap.size ≤ q → A q := fun q h => by rw [← hAe]; exact Or.inr h
  have hS : va_S A s.heap s.heap [] := va_S.rf
  have hinX7 : ∀ w ∈ wsX70, w ∈ wsX7_turnOwn := by decide +kernel
  have hfl7 : (Cond.fieldLink RX7 7 "TwistquadModel" "own" "[J").before ([.ref h0, .int (nI q), .int (nI wy)] : List Value).toArray s = true := hts _ (by decide +kernel)
  have hl := lv_entry ([.ref h0, .int (nI q), .int (nI wy)]) (n := 3) (Nat.le_of_ble_eq_true rfl)
  rw [lg_entry_eq]
  generalize (lg_sl ([.ref h0, .int (nI q), .int (nI wy)]) ++ List.replicate (3 - (lg_sl ([.ref h0, .int (nI q), .int (nI wy)])).length) Slot.unset).toArray = ls at hl ⊢
  have hl : lv_has ls 3 [(0, .ref h0), (1, .int (nI q)), (2, .int (nI wy))] := hl
  refine lv_aload_n hx hb dX7_turnOwn_0 rfl (lv_at hl 0 rfl) ?_
  refine va_get (D := D) (ci := 4) (v := .ref ow) (C := RX7) (T := TX7) (N := 15) hx hb hts hinX7 hown hK hP 0 rfl rfl 1 (by decide) hfl7 (fun _ h9 => h9) rfl dX7_turnOwn_1 ?_
  refine lv_iconst (v := 1) hx hb dX7_turnOwn_4 (by decide) ?_
  refine lv_aload_n hx hb dX7_turnOwn_5 rfl (lv_at hl 0 rfl) ?_
  refine va_get (D := D) (ci := 4) (v := .ref ow) (C := RX7) (T := TX7) (N := 15) hx hb hts hinX7 hown hK hP 0 rfl rfl 1 (by decide) hfl7 (fun _ h9 => h9) rfl dX7_turnOwn_6 ?_
  refine lv_iconst (v := 1) hx hb dX7_turnOwn_9 (by decide) ?_
  refine va_lald hx hb hK hP 1 1 rfl rfl (vp_in_nI (n := 1) (N := 3) (by omega) (by decide)) dX7_turnOwn_10 ?_
  refine pk_tl (y := (fo 1)) (congrArg fo (pk_cl 1)) ?_
  refine lv_iload_n hx hb dX7_turnOwn_11 rfl (lv_at hl 1 rfl) ?_
  refine lv_iload_n hx hb dX7_turnOwn_12 rfl (lv_at hl 2 rfl) ?_
  refine vp_callSl (W.runS (As := [.long (fo 1), .int (nI q), .int (nI wy)]) (rest := [.int 1, .ref ow]) ⟨hx, hb, hml, hown, hts⟩ (c_X7_turned l (fo 1) q wy (by omega) (by omega)) (va_cwS 3 hts gX7_turnOwn_X7_turned rfl rfl rfl (by decide +kernel) ⟨Nat.le_of_ble_eq_true rfl, Nat.le_of_ble_eq_true rfl⟩) ⟨px_blind0, fun U hU hW => ⟨rfl, trivial⟩⟩ rfl rfl hl.1 rfl (lv_room (Nat.le_of_ble_eq_true rfl)) dX7_turnOwn_13 ⟨(Nat.le_of_ble_eq_true rfl), (Nat.le_of_ble_eq_true rfl)⟩) (fun r13 er13 => ?_)
  obtain rfl := er13.symm
  refine va_last hx hb hK hP hD hS 1 1 rfl rfl (vp_in_nI (n := 1) (N := 3) (by omega) (by decide)) dX7_turnOwn_16 (fun H locs hP hD hS => ?_)
  have hu16 : (1 : Int32).toNatClampNeg = 1 := pk_cl 1
  rw [hu16] at hP hD
  have hP : va_P D vwCl [(h0, .inr (4, [.int th, .ref ow, .int re, .int (nI w), .int mt, .ref cl, .ref tu, .int (nI k), .ref lk, .ref f1, .ref s2, .ref ms, .ref nx, .ref bs, .int fd])), (ow, .inl (cJ, 3, .inr (.inl (vp_updL fo 1 (mturned (fo 1) q wy))))), (cl, .inl (cI, 36, .inl cs)), (tu, .inl (cI, 36, .inl ts)), (lk, .inl (cJ, 3, .inr (.inl lo))), (f1, .inl (cJ, 6, .inr (.inl ff))), (s2, .inl (cJ, 6, .inr (.inl sf))), (ms, .inl (cI, 6, .inl mm)), (nx, .inl (cI, 6, .inl nf)), (bs, .inl (cI, 6, .inl bf))] H := hP
  have hD : va_D A [(h0, .inr (4, [.int th, .ref ow, .int re, .int (nI w), .int mt, .ref cl, .ref tu, .int (nI k), .ref lk, .ref f1, .ref s2, .ref ms, .ref nx, .ref bs, .int fd])), (ow, .inl (cJ, 3, .inr (.inl (vp_updL fo 1 (mturned (fo 1) q wy))))), (cl, .inl (cI, 36, .inl cs)), (tu, .inl (cI, 36, .inl ts)), (lk, .inl (cJ, 3, .inr (.inl lo))), (f1, .inl (cJ, 6, .inr (.inl ff))), (s2, .inl (cJ, 6, .inr (.inl sf))), (ms, .inl (cI, 6, .inl mm)), (nx, .inl (cI, 6, .inl nf)), (bs, .inl (cI, 6, .inl bf))] := hD
  refine lv_aload_n hx hb dX7_turnOwn_17 rfl (lv_at hl 0 rfl) ?_
  refine va_get (D := D) (ci := 4) (v := .ref ow) (C := RX7) (T := TX7) (N := 15) hx hb hts hinX7 hown hK hP 0 rfl rfl 1 (by decide) hfl7 (fun _ h9 => h9) rfl dX7_turnOwn_18 ?_
  refine lv_iconst (v := 2) hx hb dX7_turnOwn_21 (by decide) ?_
  refine lv_aload_n hx hb dX7_turnOwn_22 rfl (lv_at hl 0 rfl) ?_
  refine va_get (D := D) (ci := 4) (v := .ref ow) (C := RX7) (T := TX7) (N := 15) hx hb hts hinX7 hown hK hP 0 rfl rfl 1 (by decide) hfl7 (fun _ h9 => h9) rfl dX7_turnOwn_23 ?_
  refine lv_iconst (v := 2) hx hb dX7_turnOwn_26 (by decide) ?_
  refine va_lald hx hb hK hP 1 1 rfl rfl (vp_in_nI (n := 2) (N := 3) (by omega) (by decide)) dX7_turnOwn_27 ?_
  refine pk_tl (y := (fo 2)) ((congrArg (vp_updL fo 1 (mturned (fo 1) q wy)) (pk_cl 2)).trans (pk_uLn (by decide))) ?_
  refine lv_iload_n hx hb dX7_turnOwn_28 rfl (lv_at hl 1 rfl) ?_
  refine lv_iload_n hx hb dX7_turnOwn_29 rfl (lv_at hl 2 rfl) ?_
  refine vp_callSl (W.runS (As := [.long (fo 2), .int (nI q), .int (nI wy)]) (rest := [.int 2, .ref ow]) ⟨hx, hb, hml, hown, hts⟩ (c_X7_turned l (fo 2) q wy (by omega) (by omega)) (va_cwS 3 hts gX7_turnOwn_X7_turned rfl rfl rfl (by decide +kernel) ⟨Nat.le_of_ble_eq_true rfl, Nat.le_of_ble_eq_true rfl⟩) ⟨px_blind0, fun U hU hW => ⟨rfl, trivial⟩⟩ rfl rfl hl.1 rfl (lv_room (Nat.le_of_ble_eq_true rfl)) dX7_turnOwn_30 ⟨(Nat.le_of_ble_eq_true rfl), (Nat.le_of_ble_eq_true rfl)⟩) (fun r30 er30 => ?_)
  obtain rfl := er30.symm
  refine va_last hx hb hK hP hD hS 1 1 rfl rfl (vp_in_nI (n := 2) (N := 3) (by omega) (by decide)) dX7_turnOwn_33 (fun H locs hP hD hS => ?_)
  have hu33 : (2 : Int32).toNatClampNeg = 2 := pk_cl 2
  rw [hu33] at hP hD
  have hP : va_P D vwCl [(h0, .inr (4, [.int th, .ref ow, .int re, .int (nI w), .int mt, .ref cl, .ref tu, .int (nI k), .ref lk, .ref f1, .ref s2, .ref ms, .ref nx, .ref bs, .int fd])), (ow, .inl (cJ, 3, .inr (.inl (vp_updL (vp_updL fo 1 (mturned (fo 1) q wy)) 2 (mturned (fo 2) q wy))))), (cl, .inl (cI, 36, .inl cs)), (tu, .inl (cI, 36, .inl ts)), (lk, .inl (cJ, 3, .inr (.inl lo))), (f1, .inl (cJ, 6, .inr (.inl ff))), (s2, .inl (cJ, 6, .inr (.inl sf))), (ms, .inl (cI, 6, .inl mm)), (nx, .inl (cI, 6, .inl nf)), (bs, .inl (cI, 6, .inl bf))] H := hP
  have hD : va_D A [(h0, .inr (4, [.int th, .ref ow, .int re, .int (nI w), .int mt, .ref cl, .ref tu, .int (nI k), .ref lk, .ref f1, .ref s2, .ref ms, .ref nx, .ref bs, .int fd])), (ow, .inl (cJ, 3, .inr (.inl (vp_updL (vp_updL fo 1 (mturned (fo 1) q wy)) 2 (mturned (fo 2) q wy))))), (cl, .inl (cI, 36, .inl cs)), (tu, .inl (cI, 36, .inl ts)), (lk, .inl (cJ, 3, .inr (.inl lo))), (f1, .inl (cJ, 6, .inr (.inl ff))), (s2, .inl (cJ, 6, .inr (.inl sf))), (ms, .inl (cI, 6, .inl mm)), (nx, .inl (cI, 6, .inl nf)), (bs, .inl (cI, 6, .inl bf))] := hD
  refine W.vret hx hb hr (fun tt ht hW => ⟨⟨(), rfl, ?_, by rw [ht]; exact hP, va_K.moved hW.alike hK, hD⟩, hS.F ht⟩) hS.2.2 dX7_turnOwn_34
  trivial

set_option maxHeartbeats 400000 in
set_option maxRecDepth 100000 in
theorem c_X7_lengthOf (l : Launch) (D : va_G) (cI cJ : ClassId) (h0 ow cl tu lk f1 s2 ms nx bs : Nat) (th re mt fd : Int32) (w k : Nat) (fo lo ff sf : Nat → Int64) (cs ts mm nf bf : Nat → Int32) (j : Nat) (hj : j < 36) : Met l yX7_lengthOf wsX7_lengthOf ({ frames := 0, cells := 0, slots := 0, locals := 0 } : Room) (va_Pc [.ref h0, .int (nI j)] (px_W D [(h0, .inr (4, [.int th, .ref ow, .int re, .int (nI w), .int mt, .ref cl, .ref tu, .int (nI k), .ref lk, .ref f1, .ref s2, .ref ms, .ref nx, .ref bs, .int fd])), (ow, .inl (cJ, 3, .inr (.inl fo))), (cl, .inl (cI, 36, .inl cs)), (tu, .inl (cI, 36, .inl ts)), (lk, .inl (cJ, 3, .inr (.inl lo))), (f1, .inl (cJ, 6, .inr (.inl ff))), (s2, .inl (cJ, 6, .inr (.inl sf))), (ms, .inl (cI, 6, .inl mm)), (nx, .inl (cI, 6, .inl nf)), (bs, .inl (cI, 6, .inl bf))] [(cI, .int), (cJ, .long)])) (vp_Si (fun r => r = if ts j = (-1) then 2 else 4)) 0 0 (fun _ => False) := by
  refine Met.ofW (cc := cX7_lengthOf) (maxL := 2) (ret := (some .int)) (by decide) rfl ?_
  intro p e s m args below meth c s₁ B hml hv
  obtain ⟨rfl, hP, hK⟩ := hv
  have hx := B.exec
  have hb := B.bytes
  have hr := B.returns
  have hts := atoms_spec (ws := wsX7_lengthOf) B.pre
  have hown : s.vm.findClass RX7 = some m.cls := findClass_of_methodNamed B.named
  have hlocks := B.notSynchronized
  have hinX7 : ∀ w ∈ wsX70, w ∈ wsX7_lengthOf := by decide +kernel
  have hfl21 : (Cond.fieldLink RX7 21 "TwistquadModel" "turns" "[I").before ([.ref h0, .int (nI j)] : List Value).toArray s = true := hts _ (by decide +kernel)
  have hl := lv_entry ([.ref h0, .int (nI j)]) (n := 2) (Nat.le_of_ble_eq_true rfl)
  rw [lg_entry_eq]
  generalize (lg_sl ([.ref h0, .int (nI j)]) ++ List.replicate (2 - (lg_sl ([.ref h0, .int (nI j)])).length) Slot.unset).toArray = ls at hl ⊢
  have hl : lv_has ls 2 [(0, .ref h0), (1, .int (nI j))] := hl
  refine lv_aload_n hx hb dX7_lengthOf_0 rfl (lv_at hl 0 rfl) ?_
  refine va_get (D := D) (ci := 4) (v := .ref tu) (C := RX7) (T := TX7) (N := 15) hx hb hts hinX7 hown hK hP 0 rfl rfl 6 (by decide) hfl21 (fun _ h9 => h9) rfl dX7_lengthOf_1 ?_
  refine lv_iload_n hx hb dX7_lengthOf_4 rfl (lv_at hl 1 rfl) ?_
  refine va_iald hx hb hK hP 3 0 rfl rfl (vp_in_nI (n := j) (N := 36) (by omega) (by decide)) dX7_lengthOf_5 ?_
  refine pk_ti (y := (ts j)) (congrArg ts (pk_cl j)) ?_
  refine lv_iconst (v := (-1)) hx hb dX7_lengthOf_6 (by decide) ?_
  refine lv_icmp_ne (tgt := 14) hx hb dX7_lengthOf_7 (by decide) (fun c7 => ?_) (fun c7 => ?_)
  · refine lv_iconst (v := 4) hx hb dX7_lengthOf_14 (by decide) ?_
    refine W.iret (v := 4) hx hb hr (fun tt ht hW => ⟨4, rfl, ?_, ht⟩) (fun _ h => nomatch h) dX7_lengthOf_15
    first | rw [if_pos c7] | rw [if_neg c7]
  · refine lv_iconst (v := 2) hx hb dX7_lengthOf_10 (by decide) ?_
    refine lv_goto (tgt := 15) hx hb dX7_lengthOf_11 (by decide) ?_
    refine W.iret (v := 2) hx hb hr (fun tt ht hW => ⟨2, rfl, ?_, ht⟩) (fun _ h => nomatch h) dX7_lengthOf_15
    first | rw [if_pos c7] | rw [if_neg c7]

set_option maxHeartbeats 400000 in
set_option maxRecDepth 100000 in
theorem c_X7_winsBy (l : Launch) (D : va_G) (cI cJ : ClassId) (h0 ow cl tu lk f1 s2 ms nx bs : Nat) (th re mt fd : Int32) (w k : Nat) (fo lo ff sf : Nat → Int64) (cs ts mm nf bf : Nat → Int32) (hw : w = 1 ∨ w = 2) (v : Int32) : Met l yX7_winsBy wsX7_winsBy ({ frames := 3, cells := 0, slots := 0, locals := 72 } : Room) (va_Pc [.ref h0, .int v] (px_W D [(h0, .inr (4, [.int th, .ref ow, .int re, .int (nI w), .int mt, .ref cl, .ref tu, .int (nI k), .ref lk, .ref f1, .ref s2, .ref ms, .ref nx, .ref bs, .int fd])), (ow, .inl (cJ, 3, .inr (.inl fo))), (cl, .inl (cI, 36, .inl cs)), (tu, .inl (cI, 36, .inl ts)), (lk, .inl (cJ, 3, .inr (.inl lo))), (f1, .inl (cJ, 6, .inr (.inl ff))), (s2, .inl (cJ, 6, .inr (.inl sf))), (ms, .inl (cI, 6, .inl mm)), (nx, .inl (cI, 6, .inl nf)), (bs, .inl (cI, 6, .inl bf))] [(cI, .int), (cJ, .long)])) (vp_Si (fun r => r = if 0 < msum (fo w ||| jshl 1 v) 0 5 32 then 1 else 0)) 0 0 (fun _ => False) := by
  refine Met.ofW (cc := cX7_winsBy) (maxL := 2) (ret := (some .boolean)) (by decide) rfl ?_
  intro p e s m args below meth c s₁ B hml hv
  obtain ⟨rfl, hP, hK⟩ := hv
  have hx := B.exec
  have hb := B.bytes
  have hr := B.returns
  have hts := atoms_spec (ws := wsX7_winsBy) B.pre
  have hown : s.vm.findClass RX7 = some m.cls := findClass_of_methodNamed B.named
  have hlocks := B.notSynchronized
  have hinX7 : ∀ w ∈ wsX70, w ∈ wsX7_winsBy := by decide +kernel
  have hfl7 : (Cond.fieldLink RX7 7 "TwistquadModel" "own" "[J").before ([.ref h0, .int v] : List Value).toArray s = true := hts _ (by decide +kernel)
  have hfl13 : (Cond.fieldLink RX7 13 "TwistquadModel" "mover" "I").before ([.ref h0, .int v] : List Value).toArray s = true := hts _ (by decide +kernel)
  have hl := lv_entry ([.ref h0, .int v]) (n := 2) (Nat.le_of_ble_eq_true rfl)
  rw [lg_entry_eq]
  generalize (lg_sl ([.ref h0, .int v]) ++ List.replicate (2 - (lg_sl ([.ref h0, .int v])).length) Slot.unset).toArray = ls at hl ⊢
  have hl : lv_has ls 2 [(0, .ref h0), (1, .int v)] := hl
  refine lv_aload_n hx hb dX7_winsBy_0 rfl (lv_at hl 0 rfl) ?_
  refine va_get (D := D) (ci := 4) (v := .ref ow) (C := RX7) (T := TX7) (N := 15) hx hb hts hinX7 hown hK hP 0 rfl rfl 1 (by decide) hfl7 (fun _ h9 => h9) rfl dX7_winsBy_1 ?_
  refine lv_aload_n hx hb dX7_winsBy_4 rfl (lv_at hl 0 rfl) ?_
  refine va_get (D := D) (ci := 4) (v := .int (nI w)) (C := RX7) (T := TX7) (N := 15) hx hb hts hinX7 hown hK hP 0 rfl rfl 3 (by decide) hfl13 (fun _ h9 => h9) rfl dX7_winsBy_5 ?_
  refine va_lald hx hb hK hP 1 1 rfl rfl (vp_in_nI (n := w) (N := 3) (by omega) (by decide)) dX7_winsBy_8 ?_
  refine pk_tl (y := (fo w)) (congrArg fo (pk_cl w)) ?_
  refine lv_lconst (v := 1) hx hb dX7_winsBy_9 (by decide) ?_
  refine lv_iload_n hx hb dX7_winsBy_10 rfl (lv_at hl 1 rfl) ?_
  refine lv_lshl (v := jshl 1 v) hx hb dX7_winsBy_11 rfl ?_
  refine lv_topl (fun x11 ex11 => ?_)
  refine lv_lor hx hb dX7_winsBy_12 ?_
  refine lv_topl (fun x12 ex12 => ?_)
  refine vp_callSi (W.runS (As := [.long x12]) (rest := []) ⟨hx, hb, hml, hown, hts⟩ (c_X7_hasLine l x12) (va_cwS 1 hts gX7_winsBy_X7_hasLine rfl rfl rfl (by decide +kernel) ⟨Nat.le_of_ble_eq_true rfl, Nat.le_of_ble_eq_true rfl⟩) ⟨px_blind0, fun U hU hW => ⟨rfl, trivial⟩⟩ rfl rfl hl.1 rfl (lv_room (Nat.le_of_ble_eq_true rfl)) dX7_winsBy_13 ⟨(Nat.le_of_ble_eq_true rfl), (Nat.le_of_ble_eq_true rfl)⟩) (fun r13 er13 => ?_)
  obtain rfl := er13.symm
  refine W.zret (v := (if 0 < msum x12 0 5 32 then 1 else 0)) hx hb hr (nb_if) (fun tt ht hW => ⟨(if 0 < msum x12 0 5 32 then 1 else 0), rfl, ?_, ht⟩) (fun _ h => nomatch h) dX7_winsBy_16
  obtain rfl := ex11.symm; obtain rfl := ex12.symm; rfl

set_option maxHeartbeats 400000 in
set_option maxRecDepth 100000 in
theorem c_X7_isEnding (l : Launch) (D : va_G) (cI cJ : ClassId) (h0 ow cl tu lk f1 s2 ms nx bs : Nat) (th re mt fd : Int32) (w k : Nat) (fo lo ff sf : Nat → Int64) (cs ts mm nf bf : Nat → Int32)  : Met l yX7_isEnding wsX7_isEnding ({ frames := 2, cells := 0, slots := 0, locals := 45 } : Room) (va_Pc [.ref h0] (px_W D [(h0, .inr (4, [.int th, .ref ow, .int re, .int (nI w), .int mt, .ref cl, .ref tu, .int (nI k), .ref lk, .ref f1, .ref s2, .ref ms, .ref nx, .ref bs, .int fd])), (ow, .inl (cJ, 3, .inr (.inl fo))), (cl, .inl (cI, 36, .inl cs)), (tu, .inl (cI, 36, .inl ts)), (lk, .inl (cJ, 3, .inr (.inl lo))), (f1, .inl (cJ, 6, .inr (.inl ff))), (s2, .inl (cJ, 6, .inr (.inl sf))), (ms, .inl (cI, 6, .inl mm)), (nx, .inl (cI, 6, .inl nf)), (bs, .inl (cI, 6, .inl bf))] [(cI, .int), (cJ, .long)])) (vp_Si (fun r => r = if re = 0 ∧ ¬ 3 < nI 36 - nI (msize (fo 1 ||| fo 2) 36) then 1 else 0)) 0 0 (fun _ => False) := by
  refine Met.ofW (cc := cX7_isEnding) (maxL := 1) (ret := (some .boolean)) (by decide) rfl ?_
  intro p e s m args below meth c s₁ B hml hv
  obtain ⟨rfl, hP, hK⟩ := hv
  have hx := B.exec
  have hb := B.bytes
  have hr := B.returns
  have hts := atoms_spec (ws := wsX7_isEnding) B.pre
  have hown : s.vm.findClass RX7 = some m.cls := findClass_of_methodNamed B.named
  have hlocks := B.notSynchronized
  have hinX7 : ∀ w ∈ wsX70, w ∈ wsX7_isEnding := by decide +kernel
  have hfl73 : (Cond.fieldLink RX7 73 "TwistquadModel" "result" "I").before ([.ref h0] : List Value).toArray s = true := hts _ (by decide +kernel)
  have hfl7 : (Cond.fieldLink RX7 7 "TwistquadModel" "own" "[J").before ([.ref h0] : List Value).toArray s = true := hts _ (by decide +kernel)
  have hl := lv_entry ([.ref h0]) (n := 1) (Nat.le_of_ble_eq_true rfl)
  rw [lg_entry_eq]
  generalize (lg_sl ([.ref h0]) ++ List.replicate (1 - (lg_sl ([.ref h0])).length) Slot.unset).toArray = ls at hl ⊢
  have hl : lv_has ls 1 [(0, .ref h0)] := hl
  refine lv_aload_n hx hb dX7_isEnding_0 rfl (lv_at hl 0 rfl) ?_
  refine va_get (D := D) (ci := 4) (v := .int re) (C := RX7) (T := TX7) (N := 15) hx hb hts hinX7 hown hK hP 0 rfl rfl 2 (by decide) hfl73 (fun _ h9 => h9) rfl dX7_isEnding_1 ?_
  refine lv_if_ne (tgt := 34) hx hb dX7_isEnding_4 (by decide) (fun c4 => ?_) (fun c4 => ?_)
  · refine lv_iconst (v := 0) hx hb dX7_isEnding_34 (by decide) ?_
    refine W.zret (v := 0) hx hb hr (rfl) (fun tt ht hW => ⟨0, rfl, ?_, ht⟩) (fun _ h => nomatch h) dX7_isEnding_35
    skip; first | (rw [if_pos ⟨c4, c27⟩]; done) | (rw [if_neg (fun h => h.2 c27)]; done) | (rw [if_neg (fun h => c4 h.1)]; done)
  · refine lv_bipush (v := 36) hx hb dX7_isEnding_7 (by decide) ?_
    refine lv_aload_n hx hb dX7_isEnding_9 rfl (lv_at hl 0 rfl) ?_
    refine va_get (D := D) (ci := 4) (v := .ref ow) (C := RX7) (T := TX7) (N := 15) hx hb hts hinX7 hown hK hP 0 rfl rfl 1 (by decide) hfl7 (fun _ h9 => h9) rfl dX7_isEnding_10 ?_
    refine lv_iconst (v := 1) hx hb dX7_isEnding_13 (by decide) ?_
    refine va_lald hx hb hK hP 1 1 rfl rfl (vp_in_nI (n := 1) (N := 3) (by omega) (by decide)) dX7_isEnding_14 ?_
    refine pk_tl (y := (fo 1)) (congrArg fo (pk_cl 1)) ?_
    refine lv_aload_n hx hb dX7_isEnding_15 rfl (lv_at hl 0 rfl) ?_
    refine va_get (D := D) (ci := 4) (v := .ref ow) (C := RX7) (T := TX7) (N := 15) hx hb hts hinX7 hown hK hP 0 rfl rfl 1 (by decide) hfl7 (fun _ h9 => h9) rfl dX7_isEnding_16 ?_
    refine lv_iconst (v := 2) hx hb dX7_isEnding_19 (by decide) ?_
    refine va_lald hx hb hK hP 1 1 rfl rfl (vp_in_nI (n := 2) (N := 3) (by omega) (by decide)) dX7_isEnding_20 ?_
    refine pk_tl (y := (fo 2)) (congrArg fo (pk_cl 2)) ?_
    refine lv_lor hx hb dX7_isEnding_21 ?_
    refine lv_topl (fun x21 ex21 => ?_)
    refine vp_callSi (W.runS (As := [.long x21]) (rest := [.int 36]) ⟨hx, hb, hml, hown, hts⟩ (c_X7_sizeOf l x21) (va_cwS 1 hts gX7_isEnding_X7_sizeOf rfl rfl rfl (by decide +kernel) ⟨Nat.le_of_ble_eq_true rfl, Nat.le_of_ble_eq_true rfl⟩) ⟨px_blind0, fun U hU hW => ⟨rfl, trivial⟩⟩ rfl rfl hl.1 rfl (lv_room (Nat.le_of_ble_eq_true rfl)) dX7_isEnding_22 ⟨(Nat.le_of_ble_eq_true rfl), (Nat.le_of_ble_eq_true rfl)⟩) (fun r22 er22 => ?_)
    obtain rfl := er22.symm
    refine lv_isub hx hb dX7_isEnding_25 ?_
    refine lv_topi (fun x25 ex25 => ?_)
    refine lv_iconst (v := 3) hx hb dX7_isEnding_26 (by decide) ?_
    refine lv_icmp_gt (tgt := 34) hx hb dX7_isEnding_27 (by decide) (fun c27 => ?_) (fun c27 => ?_)
    · refine lv_iconst (v := 0) hx hb dX7_isEnding_34 (by decide) ?_
      refine W.zret (v := 0) hx hb hr (rfl) (fun tt ht hW => ⟨0, rfl, ?_, ht⟩) (fun _ h => nomatch h) dX7_isEnding_35
      obtain rfl := ex21.symm; obtain rfl := ex25.symm; first | (rw [if_pos ⟨c4, c27⟩]; done) | (rw [if_neg (fun h => h.2 c27)]; done) | (rw [if_neg (fun h => c4 h.1)]; done)
    · refine lv_iconst (v := 1) hx hb dX7_isEnding_30 (by decide) ?_
      refine lv_goto (tgt := 35) hx hb dX7_isEnding_31 (by decide) ?_
      refine W.zret (v := 1) hx hb hr (rfl) (fun tt ht hW => ⟨1, rfl, ?_, ht⟩) (fun _ h => nomatch h) dX7_isEnding_35
      obtain rfl := ex21.symm; obtain rfl := ex25.symm; first | (rw [if_pos ⟨c4, c27⟩]; done) | (rw [if_neg (fun h => h.2 c27)]; done) | (rw [if_neg (fun h => c4 h.1)]; done)
theorem cell_ok {j : Nat} (h : j < 36) : 0 ≤ nI j ∧ nI j ≤ 35 := ⟨nI_pos' (by omega), nI_le (b := 35) (by omega) (by decide)⟩
theorem q_ok {j : Nat} (h : j < 4) : 0 ≤ nI j ∧ nI j ≤ 3 := ⟨nI_pos' (by omega), nI_le (b := 3) (by omega) (by decide)⟩
theorem w_ok {j : Nat} (h : j < 2) : 0 ≤ nI j ∧ nI j ≤ 1 := ⟨nI_pos' (by omega), nI_le (b := 1) (by omega) (by decide)⟩
theorem s_ok {j : Nat} (h : j = 1 ∨ j = 2) : 1 ≤ nI j ∧ nI j ≤ 2 := ⟨nI_le (a := 1) (by omega) (by omega), nI_le (b := 2) (by omega) (by decide)⟩
theorem s_3 {w : Nat} (h : w = 1 ∨ w = 2) : 3 - w < 3 := by omega

set_option maxHeartbeats 400000 in
set_option maxRecDepth 100000 in
theorem c_X7_put_bad1 (l : Launch) (D : va_G) (cI cJ : ClassId) (sz : Nat) (h0 ow cl tu lk f1 s2 ms nx bs : Nat) (th re mt fd : Int32) (w k : Nat) (fo lo ff sf : Nat → Int64) (cs ts mm nf bf : Nat → Int32) (v : Int32) (hc : ¬ (0 ≤ v ∧ v ≤ 35)) : Met l yX7_put wsX7_put ({ frames := 3, cells := 0, slots := 0, locals := 72 } : Room) (va_Pc [.ref h0, .int v] (pv_C D cI cJ [(h0, .inr (4, [.int th, .ref ow, .int re, .int (nI w), .int mt, .ref cl, .ref tu, .int (nI k), .ref lk, .ref f1, .ref s2, .ref ms, .ref nx, .ref bs, .int fd])), (ow, .inl (cJ, 3, .inr (.inl fo))), (cl, .inl (cI, 36, .inl cs)), (tu, .inl (cI, 36, .inl ts)), (lk, .inl (cJ, 3, .inr (.inl lo))), (f1, .inl (cJ, 6, .inr (.inl ff))), (s2, .inl (cJ, 6, .inr (.inl sf))), (ms, .inl (cI, 6, .inl mm)), (nx, .inl (cI, 6, .inl nf)), (bs, .inl (cI, 6, .inl bf))] sz)) (va_Qi (fun (r : Int32) (u : Unit) => r = 0) (fun (u : Unit) => pv_B D cI cJ (va_A [(h0, .inr (4, [.int th, .ref ow, .int re, .int (nI w), .int mt, .ref cl, .ref tu, .int (nI k), .ref lk, .ref f1, .ref s2, .ref ms, .ref nx, .ref bs, .int fd])), (ow, .inl (cJ, 3, .inr (.inl fo))), (cl, .inl (cI, 36, .inl cs)), (tu, .inl (cI, 36, .inl ts)), (lk, .inl (cJ, 3, .inr (.inl lo))), (f1, .inl (cJ, 6, .inr (.inl ff))), (s2, .inl (cJ, 6, .inr (.inl sf))), (ms, .inl (cI, 6, .inl mm)), (nx, .inl (cI, 6, .inl nf)), (bs, .inl (cI, 6, .inl bf))] sz) [(h0, .inr (4, [.int 1, .ref ow, .int re, .int (nI w), .int mt, .ref cl, .ref tu, .int (nI k), .ref lk, .ref f1, .ref s2, .ref ms, .ref nx, .ref bs, .int fd])), (ow, .inl (cJ, 3, .inr (.inl fo))), (cl, .inl (cI, 36, .inl cs)), (tu, .inl (cI, 36, .inl ts)), (lk, .inl (cJ, 3, .inr (.inl lo))), (f1, .inl (cJ, 6, .inr (.inl ff))), (s2, .inl (cJ, 6, .inr (.inl sf))), (ms, .inl (cI, 6, .inl mm)), (nx, .inl (cI, 6, .inl nf)), (bs, .inl (cI, 6, .inl bf))]) (va_A [(h0, .inr (4, [.int th, .ref ow, .int re, .int (nI w), .int mt, .ref cl, .ref tu, .int (nI k), .ref lk, .ref f1, .ref s2, .ref ms, .ref nx, .ref bs, .int fd])), (ow, .inl (cJ, 3, .inr (.inl fo))), (cl, .inl (cI, 36, .inl cs)), (tu, .inl (cI, 36, .inl ts)), (lk, .inl (cJ, 3, .inr (.inl lo))), (f1, .inl (cJ, 6, .inr (.inl ff))), (s2, .inl (cJ, 6, .inr (.inl sf))), (ms, .inl (cI, 6, .inl mm)), (nx, .inl (cI, 6, .inl nf)), (bs, .inl (cI, 6, .inl bf))] sz)) 0 0 (va_A [(h0, .inr (4, [.int th, .ref ow, .int re, .int (nI w), .int mt, .ref cl, .ref tu, .int (nI k), .ref lk, .ref f1, .ref s2, .ref ms, .ref nx, .ref bs, .int fd])), (ow, .inl (cJ, 3, .inr (.inl fo))), (cl, .inl (cI, 36, .inl cs)), (tu, .inl (cI, 36, .inl ts)), (lk, .inl (cJ, 3, .inr (.inl lo))), (f1, .inl (cJ, 6, .inr (.inl ff))), (s2, .inl (cJ, 6, .inr (.inl sf))), (ms, .inl (cI, 6, .inl mm)), (nx, .inl (cI, 6, .inl nf)), (bs, .inl (cI, 6, .inl bf))] sz) := by
  refine Met.ofW (cc := cX7_put) (maxL := 3) (ret := (some .int)) (by decide) rfl ?_
  intro p e s m args below meth c s₁ B hml hv
  obtain ⟨rfl, rfl, hP, hK, hD0⟩ := hv
  have hx := B.exec
  have hb := B.bytes
  have hr := B.returns
  have hts := atoms_spec (ws := wsX7_put) B.pre
  have hown : s.vm.findClass RX7 = some m.cls := findClass_of_methodNamed B.named
  have hlocks := B.notSynchronized
  have hD := hD0.self (sz := s.heap.size)
  generalize hAe : va_A [(h0, .inr (4, [.int th, .ref ow, .int re, .int (nI w), .int mt, .ref cl, .ref tu, .int (nI k), .ref lk, .ref f1, .ref s2, .ref ms, .ref nx, .ref bs, .int fd])), (ow, .inl (cJ, 3, .inr (.inl fo))), (cl, .inl (cI, 36, .inl cs)), (tu, .inl (cI, 36, .inl ts)), (lk, .inl (cJ, 3, .inr (.inl lo))), (f1, .inl (cJ, 6, .inr (.inl ff))), (s2, .inl (cJ, 6, .inr (.inl sf))), (ms, .inl (cI, 6, .inl mm)), (nx, .inl (cI, 6, .inl nf)), (bs, .inl (cI, 6, .inl bf))] s.heap.size = A at hD ⊢
  have hA : ∀ q : Nat, s.heap.size ≤ q → A q := fun q h => by rw [← hAe]; exact Or.inr h
  have hS : va_S A s.heap s.heap [] := va_S.rf
  have hinX7 : ∀ w ∈ wsX70, w ∈ wsX7_put := by decide +kernel
  have hfl7 : (Cond.fieldLink RX7 7 "TwistquadModel" "own" "[J").before ([.ref h0, .int v] : List Value).toArray s = true := hts _ (by decide +kernel)
  have hfl13 : (Cond.fieldLink RX7 13 "TwistquadModel" "mover" "I").before ([.ref h0, .int v] : List Value).toArray s = true := hts _ (by decide +kernel)
  have hfl17 : (Cond.fieldLink RX7 17 "TwistquadModel" "cells" "[I").before ([.ref h0, .int v] : List Value).toArray s = true := hts _ (by decide +kernel)
  have hfl83 : (Cond.fieldLink RX7 83 "TwistquadModel" "moves" "I").before ([.ref h0, .int v] : List Value).toArray s = true := hts _ (by decide +kernel)
  have hfl21 : (Cond.fieldLink RX7 21 "TwistquadModel" "turns" "[I").before ([.ref h0, .int v] : List Value).toArray s = true := hts _ (by decide +kernel)
  have hfl76 : (Cond.fieldLink RX7 76 "TwistquadModel" "mustTurn" "Z").before ([.ref h0, .int v] : List Value).toArray s = true := hts _ (by decide +kernel)
  have hfl73 : (Cond.fieldLink RX7 73 "TwistquadModel" "result" "I").before ([.ref h0, .int v] : List Value).toArray s = true := hts _ (by decide +kernel)
  have hl := lv_entry ([.ref h0, .int v]) (n := 3) (Nat.le_of_ble_eq_true rfl)
  rw [lg_entry_eq]
  generalize (lg_sl ([.ref h0, .int v]) ++ List.replicate (3 - (lg_sl ([.ref h0, .int v])).length) Slot.unset).toArray = ls at hl ⊢
  have hl : lv_has ls 3 [(0, .ref h0), (1, .int v)] := hl
  refine lv_iload_n hx hb dX7_put_0 rfl (lv_at hl 1 rfl) ?_
  refine vp_callSi (W.runS (As := [.int v]) (rest := []) ⟨hx, hb, hml, hown, hts⟩ (c_X7_isCell l v) (va_cwS 1 hts gX7_put_X7_isCell rfl rfl rfl (by decide +kernel) ⟨Nat.le_of_ble_eq_true rfl, Nat.le_of_ble_eq_true rfl⟩) ⟨px_blind0, fun U hU hW => ⟨rfl, trivial⟩⟩ rfl rfl hl.1 rfl (lv_room (Nat.le_of_ble_eq_true rfl)) dX7_put_1 ⟨(Nat.le_of_ble_eq_true rfl), (Nat.le_of_ble_eq_true rfl)⟩) (fun r1 er1 => ?_)
  obtain rfl := er1.symm
  refine pk_b (P := 0 ≤ v ∧ v ≤ 35) (fun b1 => ?_) (fun b1 => ?_)
  · exact absurd b1 hc
  · refine lv_if_eq (tgt := 45) hx hb dX7_put_4 (by decide) (fun c4 => ?_) (fun c4 => ?_)
    · refine lv_iconst (v := 0) hx hb dX7_put_45 (by decide) ?_
      refine lv_istore_n (lv' := [(2, .int 0), (0, .ref h0), (1, .int v)]) hx hb dX7_put_46 rfl hl (by decide) rfl (fun ls hl => ?_)
      refine lv_aload_n hx hb dX7_put_47 rfl (lv_at hl 1 rfl) ?_
      refine lv_iload_n hx hb dX7_put_48 rfl (lv_at hl 2 rfl) ?_
      refine vp_callSi (W.runS (As := [.int v]) (rest := [.ref h0]) ⟨hx, hb, hml, hown, hts⟩ (c_X7_isCell l v) (va_cwS 1 hts gX7_put_X7_isCell rfl rfl rfl (by decide +kernel) ⟨Nat.le_of_ble_eq_true rfl, Nat.le_of_ble_eq_true rfl⟩) ⟨px_blind0, fun U hU hW => ⟨rfl, trivial⟩⟩ rfl rfl hl.1 rfl (lv_room (Nat.le_of_ble_eq_true rfl)) dX7_put_49 ⟨(Nat.le_of_ble_eq_true rfl), (Nat.le_of_ble_eq_true rfl)⟩) (fun r49 er49 => ?_)
      obtain rfl := er49.symm
      refine pk_b (P := 0 ≤ v ∧ v ≤ 35) (fun b49 => ?_) (fun b49 => ?_)
      · exact absurd b49 hc
      · refine lv_if_ne (tgt := 59) hx hb dX7_put_52 (by decide) (fun c52 => ?_) (fun c52 => ?_)
        · exact absurd c52 (by decide)
        · refine lv_iconst (v := 1) hx hb dX7_put_55 (by decide) ?_
          refine lv_goto (tgt := 68) hx hb dX7_put_56 (by decide) ?_
          have hPc := hP.sub (ws' := [(h0, .inr (4, [.int th, .ref ow, .int re, .int (nI w), .int mt, .ref cl, .ref tu, .int (nI k), .ref lk, .ref f1, .ref s2, .ref ms, .ref nx, .ref bs, .int fd])), (ow, .inl (cJ, 3, .inr (.inl fo))), (cl, .inl (cI, 36, .inl cs)), (tu, .inl (cI, 36, .inl ts)), (lk, .inl (cJ, 3, .inr (.inl lo))), (f1, .inl (cJ, 6, .inr (.inl ff))), (s2, .inl (cJ, 6, .inr (.inl sf))), (ms, .inl (cI, 6, .inl mm)), (nx, .inl (cI, 6, .inl nf)), (bs, .inl (cI, 6, .inl bf))]) [0, 1, 2, 3, 4, 5, 6, 7, 8, 9] rfl
          have hDc := hD.sub (ws' := [(h0, .inr (4, [.int th, .ref ow, .int re, .int (nI w), .int mt, .ref cl, .ref tu, .int (nI k), .ref lk, .ref f1, .ref s2, .ref ms, .ref nx, .ref bs, .int fd])), (ow, .inl (cJ, 3, .inr (.inl fo))), (cl, .inl (cI, 36, .inl cs)), (tu, .inl (cI, 36, .inl ts)), (lk, .inl (cJ, 3, .inr (.inl lo))), (f1, .inl (cJ, 6, .inr (.inl ff))), (s2, .inl (cJ, 6, .inr (.inl sf))), (ms, .inl (cI, 6, .inl mm)), (nx, .inl (cI, 6, .inl nf)), (bs, .inl (cI, 6, .inl bf))]) [0, 1, 2, 3, 4, 5, 6, 7, 8, 9] (by decide) rfl
          have hFc := va_free (wc := [(h0, .inr (4, [.int th, .ref ow, .int re, .int (nI w), .int mt, .ref cl, .ref tu, .int (nI k), .ref lk, .ref f1, .ref s2, .ref ms, .ref nx, .ref bs, .int fd])), (ow, .inl (cJ, 3, .inr (.inl fo))), (cl, .inl (cI, 36, .inl cs)), (tu, .inl (cI, 36, .inl ts)), (lk, .inl (cJ, 3, .inr (.inl lo))), (f1, .inl (cJ, 6, .inr (.inl ff))), (s2, .inl (cJ, 6, .inr (.inl sf))), (ms, .inl (cI, 6, .inl mm)), (nx, .inl (cI, 6, .inl nf)), (bs, .inl (cI, 6, .inl bf))]) hD hS hA [0, 1, 2, 3, 4, 5, 6, 7, 8, 9] rfl
          refine va_calli (va_runV (As := [.int 1]) (rest := []) ⟨hx, hb, hml, hown, hts⟩ (c_X7_goesWell l D cI cJ s.heap.size  h0 ow cl tu lk f1 s2 ms nx bs th re mt fd w k fo lo ff sf cs ts mm nf bf 1) (cwV 1 hts gX7_put_X7_goesWell rfl rfl rfl (by decide +kernel) ⟨Nat.le_of_ble_eq_true rfl, Nat.le_of_ble_eq_true rfl⟩) ⟨pv_blind, va_recv hK hPc (ci := 4) (q0 := 0) rfl rfl, fun U hU hW => ⟨rfl, by rw [hU], by rw [hU]; exact hPc, va_K.moved hW.alike hK, hDc.weaken (fun _ _ _ _ => trivial)⟩⟩ rfl rfl hl.1 rfl (lv_room (Nat.le_of_ble_eq_true rfl)) dX7_put_68 ⟨(Nat.le_of_ble_eq_true rfl), (Nat.le_of_ble_eq_true rfl)⟩) hS (fun q _ h => hFc q h) hFc (fun r68 u t9 H1 locs ht9 hvm hw68 hB hz1 hk1 hS => ?_)
          try dsimp only at hw68
          obtain ⟨hP1, hK1, hD1⟩ := hB
          rw [ht9] at hP1
          obtain ⟨hP, hD⟩ := va_join (wr := []) (w1 := [(h0, .inr (4, [.int 1, .ref ow, .int re, .int (nI w), .int mt, .ref cl, .ref tu, .int (nI k), .ref lk, .ref f1, .ref s2, .ref ms, .ref nx, .ref bs, .int fd])), (ow, .inl (cJ, 3, .inr (.inl fo))), (cl, .inl (cI, 36, .inl cs)), (tu, .inl (cI, 36, .inl ts)), (lk, .inl (cJ, 3, .inr (.inl lo))), (f1, .inl (cJ, 6, .inr (.inl ff))), (s2, .inl (cJ, 6, .inr (.inl sf))), (ms, .inl (cI, 6, .inl mm)), (nx, .inl (cI, 6, .inl nf)), (bs, .inl (cI, 6, .inl bf))]) hP hD [0, 1, 2, 3, 4, 5, 6, 7, 8, 9] [] rfl rfl (by decide) (by decide) hk1 hFc hP1 hD1
          generalize H1 = H at hP hS ⊢
          have hP : va_P D vwCl [(h0, .inr (4, [.int 1, .ref ow, .int re, .int (nI w), .int mt, .ref cl, .ref tu, .int (nI k), .ref lk, .ref f1, .ref s2, .ref ms, .ref nx, .ref bs, .int fd])), (ow, .inl (cJ, 3, .inr (.inl fo))), (cl, .inl (cI, 36, .inl cs)), (tu, .inl (cI, 36, .inl ts)), (lk, .inl (cJ, 3, .inr (.inl lo))), (f1, .inl (cJ, 6, .inr (.inl ff))), (s2, .inl (cJ, 6, .inr (.inl sf))), (ms, .inl (cI, 6, .inl mm)), (nx, .inl (cI, 6, .inl nf)), (bs, .inl (cI, 6, .inl bf))] H := hP.sub (ws' := [(h0, .inr (4, [.int 1, .ref ow, .int re, .int (nI w), .int mt, .ref cl, .ref tu, .int (nI k), .ref lk, .ref f1, .ref s2, .ref ms, .ref nx, .ref bs, .int fd])), (ow, .inl (cJ, 3, .inr (.inl fo))), (cl, .inl (cI, 36, .inl cs)), (tu, .inl (cI, 36, .inl ts)), (lk, .inl (cJ, 3, .inr (.inl lo))), (f1, .inl (cJ, 6, .inr (.inl ff))), (s2, .inl (cJ, 6, .inr (.inl sf))), (ms, .inl (cI, 6, .inl mm)), (nx, .inl (cI, 6, .inl nf)), (bs, .inl (cI, 6, .inl bf))]) [0, 1, 2, 3, 4, 5, 6, 7, 8, 9] rfl
          have hD : va_D A [(h0, .inr (4, [.int 1, .ref ow, .int re, .int (nI w), .int mt, .ref cl, .ref tu, .int (nI k), .ref lk, .ref f1, .ref s2, .ref ms, .ref nx, .ref bs, .int fd])), (ow, .inl (cJ, 3, .inr (.inl fo))), (cl, .inl (cI, 36, .inl cs)), (tu, .inl (cI, 36, .inl ts)), (lk, .inl (cJ, 3, .inr (.inl lo))), (f1, .inl (cJ, 6, .inr (.inl ff))), (s2, .inl (cJ, 6, .inr (.inl sf))), (ms, .inl (cI, 6, .inl mm)), (nx, .inl (cI, 6, .inl nf)), (bs, .inl (cI, 6, .inl bf))] := hD.sub (ws' := [(h0, .inr (4, [.int 1, .ref ow, .int re, .int (nI w), .int mt, .ref cl, .ref tu, .int (nI k), .ref lk, .ref f1, .ref s2, .ref ms, .ref nx, .ref bs, .int fd])), (ow, .inl (cJ, 3, .inr (.inl fo))), (cl, .inl (cI, 36, .inl cs)), (tu, .inl (cI, 36, .inl ts)), (lk, .inl (cJ, 3, .inr (.inl lo))), (f1, .inl (cJ, 6, .inr (.inl ff))), (s2, .inl (cJ, 6, .inr (.inl sf))), (ms, .inl (cI, 6, .inl mm)), (nx, .inl (cI, 6, .inl nf)), (bs, .inl (cI, 6, .inl bf))]) [0, 1, 2, 3, 4, 5, 6, 7, 8, 9] (by decide) rfl
          obtain rfl := hw68.symm
          refine pk_b (P := 1 = 0) (fun b68 => ?_) (fun b68 => ?_)
          · refine lv_if_ne (tgt := 76) hx hb dX7_put_71 (by decide) (fun c71 => ?_) (fun c71 => ?_)
            · refine lv_aload_n hx hb dX7_put_76 rfl (lv_at hl 1 rfl) ?_
              refine va_get (D := D) (ci := 4) (v := .ref ow) (C := RX7) (T := TX7) (N := 15) hx hb hts hinX7 hown hK hP 0 rfl rfl 1 (by decide) hfl7 (fun _ h9 => h9) rfl dX7_put_77 ?_
              refine lv_aload_n hx hb dX7_put_80 rfl (lv_at hl 1 rfl) ?_
              refine va_get (D := D) (ci := 4) (v := .int (nI w)) (C := RX7) (T := TX7) (N := 15) hx hb hts hinX7 hown hK hP 0 rfl rfl 3 (by decide) hfl13 (fun _ h9 => h9) rfl dX7_put_81 ?_
              refine lv_dup2_11 hx hb dX7_put_84 rfl rfl ?_
              refine va_lald hx hb hK hP 1 1 rfl rfl (vp_in_nI (n := w) (N := 3) (by omega) (by decide)) dX7_put_85 ?_
              refine pk_tl (y := (fo w)) (congrArg fo (pk_cl w)) ?_
              refine lv_lconst (v := 1) hx hb dX7_put_86 (by decide) ?_
              refine lv_iload_n hx hb dX7_put_87 rfl (lv_at hl 2 rfl) ?_
              refine lv_lshl (v := jshl 1 v) hx hb dX7_put_88 rfl ?_
              refine lv_topl (fun x88 ex88 => ?_)
              refine lv_lor hx hb dX7_put_89 ?_
              refine lv_topl (fun x89 ex89 => ?_)
              refine va_last hx hb hK hP hD hS 1 1 rfl rfl (vp_in_nI (n := w) (N := 3) (by omega) (by decide)) dX7_put_90 (fun H locs hP hD hS => ?_)
              have hu90 : ((nI w) : Int32).toNatClampNeg = w := pk_cl w
              rw [hu90] at hP hD
              have hP : va_P D vwCl [(h0, .inr (4, [.int 1, .ref ow, .int re, .int (nI w), .int mt, .ref cl, .ref tu, .int (nI k), .ref lk, .ref f1, .ref s2, .ref ms, .ref nx, .ref bs, .int fd])), (ow, .inl (cJ, 3, .inr (.inl (vp_updL fo w x89)))), (cl, .inl (cI, 36, .inl cs)), (tu, .inl (cI, 36, .inl ts)), (lk, .inl (cJ, 3, .inr (.inl lo))), (f1, .inl (cJ, 6, .inr (.inl ff))), (s2, .inl (cJ, 6, .inr (.inl sf))), (ms, .inl (cI, 6, .inl mm)), (nx, .inl (cI, 6, .inl nf)), (bs, .inl (cI, 6, .inl bf))] H := hP
              have hD : va_D A [(h0, .inr (4, [.int 1, .ref ow, .int re, .int (nI w), .int mt, .ref cl, .ref tu, .int (nI k), .ref lk, .ref f1, .ref s2, .ref ms, .ref nx, .ref bs, .int fd])), (ow, .inl (cJ, 3, .inr (.inl (vp_updL fo w x89)))), (cl, .inl (cI, 36, .inl cs)), (tu, .inl (cI, 36, .inl ts)), (lk, .inl (cJ, 3, .inr (.inl lo))), (f1, .inl (cJ, 6, .inr (.inl ff))), (s2, .inl (cJ, 6, .inr (.inl sf))), (ms, .inl (cI, 6, .inl mm)), (nx, .inl (cI, 6, .inl nf)), (bs, .inl (cI, 6, .inl bf))] := hD
              refine lv_aload_n hx hb dX7_put_91 rfl (lv_at hl 1 rfl) ?_
              refine va_get (D := D) (ci := 4) (v := .ref cl) (C := RX7) (T := TX7) (N := 15) hx hb hts hinX7 hown hK hP 0 rfl rfl 5 (by decide) hfl17 (fun _ h9 => h9) rfl dX7_put_92 ?_
              refine lv_aload_n hx hb dX7_put_95 rfl (lv_at hl 1 rfl) ?_
              refine va_get (D := D) (ci := 4) (v := .int (nI k)) (C := RX7) (T := TX7) (N := 15) hx hb hts hinX7 hown hK hP 0 rfl rfl 7 (by decide) hfl83 (fun _ h9 => h9) rfl dX7_put_96 ?_
              refine lv_iload_n hx hb dX7_put_99 rfl (lv_at hl 2 rfl) ?_
              refine va_iast hx hb hK hP hD hS 2 0 rfl rfl (vp_in_nI (n := k) (N := 36) (by omega) (by decide)) dX7_put_100 (fun H locs hP hD hS => ?_)
              have hu100 : ((nI k) : Int32).toNatClampNeg = k := pk_cl k
              rw [hu100] at hP hD
              have hP : va_P D vwCl [(h0, .inr (4, [.int 1, .ref ow, .int re, .int (nI w), .int mt, .ref cl, .ref tu, .int (nI k), .ref lk, .ref f1, .ref s2, .ref ms, .ref nx, .ref bs, .int fd])), (ow, .inl (cJ, 3, .inr (.inl (vp_updL fo w x89)))), (cl, .inl (cI, 36, .inl (upd cs k v))), (tu, .inl (cI, 36, .inl ts)), (lk, .inl (cJ, 3, .inr (.inl lo))), (f1, .inl (cJ, 6, .inr (.inl ff))), (s2, .inl (cJ, 6, .inr (.inl sf))), (ms, .inl (cI, 6, .inl mm)), (nx, .inl (cI, 6, .inl nf)), (bs, .inl (cI, 6, .inl bf))] H := hP
              have hD : va_D A [(h0, .inr (4, [.int 1, .ref ow, .int re, .int (nI w), .int mt, .ref cl, .ref tu, .int (nI k), .ref lk, .ref f1, .ref s2, .ref ms, .ref nx, .ref bs, .int fd])), (ow, .inl (cJ, 3, .inr (.inl (vp_updL fo w x89)))), (cl, .inl (cI, 36, .inl (upd cs k v))), (tu, .inl (cI, 36, .inl ts)), (lk, .inl (cJ, 3, .inr (.inl lo))), (f1, .inl (cJ, 6, .inr (.inl ff))), (s2, .inl (cJ, 6, .inr (.inl sf))), (ms, .inl (cI, 6, .inl mm)), (nx, .inl (cI, 6, .inl nf)), (bs, .inl (cI, 6, .inl bf))] := hD
              refine lv_aload_n hx hb dX7_put_101 rfl (lv_at hl 1 rfl) ?_
              refine va_get (D := D) (ci := 4) (v := .ref tu) (C := RX7) (T := TX7) (N := 15) hx hb hts hinX7 hown hK hP 0 rfl rfl 6 (by decide) hfl21 (fun _ h9 => h9) rfl dX7_put_102 ?_
              refine lv_aload_n hx hb dX7_put_105 rfl (lv_at hl 1 rfl) ?_
              refine va_get (D := D) (ci := 4) (v := .int (nI k)) (C := RX7) (T := TX7) (N := 15) hx hb hts hinX7 hown hK hP 0 rfl rfl 7 (by decide) hfl83 (fun _ h9 => h9) rfl dX7_put_106 ?_
              refine lv_iconst (v := (-1)) hx hb dX7_put_109 (by decide) ?_
              refine va_iast hx hb hK hP hD hS 3 0 rfl rfl (vp_in_nI (n := k) (N := 36) (by omega) (by decide)) dX7_put_110 (fun H locs hP hD hS => ?_)
              have hu110 : ((nI k) : Int32).toNatClampNeg = k := pk_cl k
              rw [hu110] at hP hD
              have hP : va_P D vwCl [(h0, .inr (4, [.int 1, .ref ow, .int re, .int (nI w), .int mt, .ref cl, .ref tu, .int (nI k), .ref lk, .ref f1, .ref s2, .ref ms, .ref nx, .ref bs, .int fd])), (ow, .inl (cJ, 3, .inr (.inl (vp_updL fo w x89)))), (cl, .inl (cI, 36, .inl (upd cs k v))), (tu, .inl (cI, 36, .inl (upd ts k (-1)))), (lk, .inl (cJ, 3, .inr (.inl lo))), (f1, .inl (cJ, 6, .inr (.inl ff))), (s2, .inl (cJ, 6, .inr (.inl sf))), (ms, .inl (cI, 6, .inl mm)), (nx, .inl (cI, 6, .inl nf)), (bs, .inl (cI, 6, .inl bf))] H := hP
              have hD : va_D A [(h0, .inr (4, [.int 1, .ref ow, .int re, .int (nI w), .int mt, .ref cl, .ref tu, .int (nI k), .ref lk, .ref f1, .ref s2, .ref ms, .ref nx, .ref bs, .int fd])), (ow, .inl (cJ, 3, .inr (.inl (vp_updL fo w x89)))), (cl, .inl (cI, 36, .inl (upd cs k v))), (tu, .inl (cI, 36, .inl (upd ts k (-1)))), (lk, .inl (cJ, 3, .inr (.inl lo))), (f1, .inl (cJ, 6, .inr (.inl ff))), (s2, .inl (cJ, 6, .inr (.inl sf))), (ms, .inl (cI, 6, .inl mm)), (nx, .inl (cI, 6, .inl nf)), (bs, .inl (cI, 6, .inl bf))] := hD
              refine lv_aload_n hx hb dX7_put_111 rfl (lv_at hl 1 rfl) ?_
              refine lv_dup hx hb dX7_put_112 rfl ?_
              refine va_get (D := D) (ci := 4) (v := .int (nI k)) (C := RX7) (T := TX7) (N := 15) hx hb hts hinX7 hown hK hP 0 rfl rfl 7 (by decide) hfl83 (fun _ h9 => h9) rfl dX7_put_113 ?_
              refine lv_iconst (v := 1) hx hb dX7_put_116 (by decide) ?_
              refine lv_iadd hx hb dX7_put_117 ?_
              refine pk_ti (y := nI (k + 1)) (nI_add k 1) ?_
              refine va_put (D := D) (ci := 4) (v := .int (nI (k + 1))) (ty := .int) (C := RX7) (T := TX7) (N := 15) hx hb hts hinX7 tyX7 tyX7_ok nmX7 hown hK hP hD hS 0 rfl rfl 7 (by decide) hfl83 (fun _ h9 => h9) rfl (by decide +kernel) rfl rfl (Nat.le_of_ble_eq_true rfl) dX7_put_118 (fun H locs hP hD hS => ?_)
              have hP : va_P D vwCl [(h0, .inr (4, [.int 1, .ref ow, .int re, .int (nI w), .int mt, .ref cl, .ref tu, .int (nI (k + 1)), .ref lk, .ref f1, .ref s2, .ref ms, .ref nx, .ref bs, .int fd])), (ow, .inl (cJ, 3, .inr (.inl (vp_updL fo w x89)))), (cl, .inl (cI, 36, .inl (upd cs k v))), (tu, .inl (cI, 36, .inl (upd ts k (-1)))), (lk, .inl (cJ, 3, .inr (.inl lo))), (f1, .inl (cJ, 6, .inr (.inl ff))), (s2, .inl (cJ, 6, .inr (.inl sf))), (ms, .inl (cI, 6, .inl mm)), (nx, .inl (cI, 6, .inl nf)), (bs, .inl (cI, 6, .inl bf))] H := hP
              have hD : va_D A [(h0, .inr (4, [.int 1, .ref ow, .int re, .int (nI w), .int mt, .ref cl, .ref tu, .int (nI (k + 1)), .ref lk, .ref f1, .ref s2, .ref ms, .ref nx, .ref bs, .int fd])), (ow, .inl (cJ, 3, .inr (.inl (vp_updL fo w x89)))), (cl, .inl (cI, 36, .inl (upd cs k v))), (tu, .inl (cI, 36, .inl (upd ts k (-1)))), (lk, .inl (cJ, 3, .inr (.inl lo))), (f1, .inl (cJ, 6, .inr (.inl ff))), (s2, .inl (cJ, 6, .inr (.inl sf))), (ms, .inl (cI, 6, .inl mm)), (nx, .inl (cI, 6, .inl nf)), (bs, .inl (cI, 6, .inl bf))] := hD
              refine lv_aload_n hx hb dX7_put_121 rfl (lv_at hl 1 rfl) ?_
              refine lv_iconst (v := 1) hx hb dX7_put_122 (by decide) ?_
              refine va_put (D := D) (ci := 4) (v := .int 1) (ty := .boolean) (C := RX7) (T := TX7) (N := 15) hx hb hts hinX7 tyX7 tyX7_ok nmX7 hown hK hP hD hS 0 rfl rfl 4 (by decide) hfl76 (fun _ h9 => h9) rfl (by decide +kernel) rfl rfl (Nat.le_of_ble_eq_true rfl) dX7_put_123 (fun H locs hP hD hS => ?_)
              have hP : va_P D vwCl [(h0, .inr (4, [.int 1, .ref ow, .int re, .int (nI w), .int 1, .ref cl, .ref tu, .int (nI (k + 1)), .ref lk, .ref f1, .ref s2, .ref ms, .ref nx, .ref bs, .int fd])), (ow, .inl (cJ, 3, .inr (.inl (vp_updL fo w x89)))), (cl, .inl (cI, 36, .inl (upd cs k v))), (tu, .inl (cI, 36, .inl (upd ts k (-1)))), (lk, .inl (cJ, 3, .inr (.inl lo))), (f1, .inl (cJ, 6, .inr (.inl ff))), (s2, .inl (cJ, 6, .inr (.inl sf))), (ms, .inl (cI, 6, .inl mm)), (nx, .inl (cI, 6, .inl nf)), (bs, .inl (cI, 6, .inl bf))] H := hP
              have hD : va_D A [(h0, .inr (4, [.int 1, .ref ow, .int re, .int (nI w), .int 1, .ref cl, .ref tu, .int (nI (k + 1)), .ref lk, .ref f1, .ref s2, .ref ms, .ref nx, .ref bs, .int fd])), (ow, .inl (cJ, 3, .inr (.inl (vp_updL fo w x89)))), (cl, .inl (cI, 36, .inl (upd cs k v))), (tu, .inl (cI, 36, .inl (upd ts k (-1)))), (lk, .inl (cJ, 3, .inr (.inl lo))), (f1, .inl (cJ, 6, .inr (.inl ff))), (s2, .inl (cJ, 6, .inr (.inl sf))), (ms, .inl (cI, 6, .inl mm)), (nx, .inl (cI, 6, .inl nf)), (bs, .inl (cI, 6, .inl bf))] := hD
              refine lv_aload_n hx hb dX7_put_126 rfl (lv_at hl 1 rfl) ?_
              refine va_get (D := D) (ci := 4) (v := .ref ow) (C := RX7) (T := TX7) (N := 15) hx hb hts hinX7 hown hK hP 0 rfl rfl 1 (by decide) hfl7 (fun _ h9 => h9) rfl dX7_put_127 ?_
              refine lv_aload_n hx hb dX7_put_130 rfl (lv_at hl 1 rfl) ?_
              refine va_get (D := D) (ci := 4) (v := .int (nI w)) (C := RX7) (T := TX7) (N := 15) hx hb hts hinX7 hown hK hP 0 rfl rfl 3 (by decide) hfl13 (fun _ h9 => h9) rfl dX7_put_131 ?_
              refine va_lald hx hb hK hP 1 1 rfl rfl (vp_in_nI (n := w) (N := 3) (by omega) (by decide)) dX7_put_134 ?_
              refine pk_tl (y := ((vp_updL fo w x89) w)) (congrArg (vp_updL fo w x89) (pk_cl w)) ?_
              refine vp_callSi (W.runS (As := [.long ((vp_updL fo w x89) w)]) (rest := []) ⟨hx, hb, hml, hown, hts⟩ (c_X7_hasLine l ((vp_updL fo w x89) w)) (va_cwS 1 hts gX7_put_X7_hasLine rfl rfl rfl (by decide +kernel) ⟨Nat.le_of_ble_eq_true rfl, Nat.le_of_ble_eq_true rfl⟩) ⟨px_blind0, fun U hU hW => ⟨rfl, trivial⟩⟩ rfl rfl hl.1 rfl (lv_room (Nat.le_of_ble_eq_true rfl)) dX7_put_135 ⟨(Nat.le_of_ble_eq_true rfl), (Nat.le_of_ble_eq_true rfl)⟩) (fun r135 er135 => ?_)
              obtain rfl := er135.symm
              refine pk_b (P := 0 < msum ((vp_updL fo w x89) w) 0 5 32) (fun b135 => ?_) (fun b135 => ?_)
              · refine lv_if_eq (tgt := 154) hx hb dX7_put_138 (by decide) (fun c138 => ?_) (fun c138 => ?_)
                · exact absurd c138 (by decide)
                · refine lv_aload_n hx hb dX7_put_141 rfl (lv_at hl 1 rfl) ?_
                  refine lv_aload_n hx hb dX7_put_142 rfl (lv_at hl 1 rfl) ?_
                  refine va_get (D := D) (ci := 4) (v := .int (nI w)) (C := RX7) (T := TX7) (N := 15) hx hb hts hinX7 hown hK hP 0 rfl rfl 3 (by decide) hfl13 (fun _ h9 => h9) rfl dX7_put_143 ?_
                  refine va_put (D := D) (ci := 4) (v := .int (nI w)) (ty := .int) (C := RX7) (T := TX7) (N := 15) hx hb hts hinX7 tyX7 tyX7_ok nmX7 hown hK hP hD hS 0 rfl rfl 2 (by decide) hfl73 (fun _ h9 => h9) rfl (by decide +kernel) rfl rfl (Nat.le_of_ble_eq_true rfl) dX7_put_146 (fun H locs hP hD hS => ?_)
                  have hP : va_P D vwCl [(h0, .inr (4, [.int 1, .ref ow, .int (nI w), .int (nI w), .int 1, .ref cl, .ref tu, .int (nI (k + 1)), .ref lk, .ref f1, .ref s2, .ref ms, .ref nx, .ref bs, .int fd])), (ow, .inl (cJ, 3, .inr (.inl (vp_updL fo w x89)))), (cl, .inl (cI, 36, .inl (upd cs k v))), (tu, .inl (cI, 36, .inl (upd ts k (-1)))), (lk, .inl (cJ, 3, .inr (.inl lo))), (f1, .inl (cJ, 6, .inr (.inl ff))), (s2, .inl (cJ, 6, .inr (.inl sf))), (ms, .inl (cI, 6, .inl mm)), (nx, .inl (cI, 6, .inl nf)), (bs, .inl (cI, 6, .inl bf))] H := hP
                  have hD : va_D A [(h0, .inr (4, [.int 1, .ref ow, .int (nI w), .int (nI w), .int 1, .ref cl, .ref tu, .int (nI (k + 1)), .ref lk, .ref f1, .ref s2, .ref ms, .ref nx, .ref bs, .int fd])), (ow, .inl (cJ, 3, .inr (.inl (vp_updL fo w x89)))), (cl, .inl (cI, 36, .inl (upd cs k v))), (tu, .inl (cI, 36, .inl (upd ts k (-1)))), (lk, .inl (cJ, 3, .inr (.inl lo))), (f1, .inl (cJ, 6, .inr (.inl ff))), (s2, .inl (cJ, 6, .inr (.inl sf))), (ms, .inl (cI, 6, .inl mm)), (nx, .inl (cI, 6, .inl nf)), (bs, .inl (cI, 6, .inl bf))] := hD
                  refine lv_aload_n hx hb dX7_put_149 rfl (lv_at hl 1 rfl) ?_
                  refine lv_iconst (v := 0) hx hb dX7_put_150 (by decide) ?_
                  refine va_put (D := D) (ci := 4) (v := .int 0) (ty := .boolean) (C := RX7) (T := TX7) (N := 15) hx hb hts hinX7 tyX7 tyX7_ok nmX7 hown hK hP hD hS 0 rfl rfl 4 (by decide) hfl76 (fun _ h9 => h9) rfl (by decide +kernel) rfl rfl (Nat.le_of_ble_eq_true rfl) dX7_put_151 (fun H locs hP hD hS => ?_)
                  have hP : va_P D vwCl [(h0, .inr (4, [.int 1, .ref ow, .int (nI w), .int (nI w), .int 0, .ref cl, .ref tu, .int (nI (k + 1)), .ref lk, .ref f1, .ref s2, .ref ms, .ref nx, .ref bs, .int fd])), (ow, .inl (cJ, 3, .inr (.inl (vp_updL fo w x89)))), (cl, .inl (cI, 36, .inl (upd cs k v))), (tu, .inl (cI, 36, .inl (upd ts k (-1)))), (lk, .inl (cJ, 3, .inr (.inl lo))), (f1, .inl (cJ, 6, .inr (.inl ff))), (s2, .inl (cJ, 6, .inr (.inl sf))), (ms, .inl (cI, 6, .inl mm)), (nx, .inl (cI, 6, .inl nf)), (bs, .inl (cI, 6, .inl bf))] H := hP
                  have hD : va_D A [(h0, .inr (4, [.int 1, .ref ow, .int (nI w), .int (nI w), .int 0, .ref cl, .ref tu, .int (nI (k + 1)), .ref lk, .ref f1, .ref s2, .ref ms, .ref nx, .ref bs, .int fd])), (ow, .inl (cJ, 3, .inr (.inl (vp_updL fo w x89)))), (cl, .inl (cI, 36, .inl (upd cs k v))), (tu, .inl (cI, 36, .inl (upd ts k (-1)))), (lk, .inl (cJ, 3, .inr (.inl lo))), (f1, .inl (cJ, 6, .inr (.inl ff))), (s2, .inl (cJ, 6, .inr (.inl sf))), (ms, .inl (cI, 6, .inl mm)), (nx, .inl (cI, 6, .inl nf)), (bs, .inl (cI, 6, .inl bf))] := hD
                  refine lv_aload_n hx hb dX7_put_154 rfl (lv_at hl 1 rfl) ?_
                  refine va_get (D := D) (ci := 4) (v := .int (nI w)) (C := RX7) (T := TX7) (N := 15) hx hb hts hinX7 hown hK hP 0 rfl rfl 2 (by decide) hfl73 (fun _ h9 => h9) rfl dX7_put_155 ?_
                  obtain rfl := ex88.symm; obtain rfl := ex89.symm
                  refine W.iret (v := (nI w)) hx hb hr (fun tt ht hW => ⟨⟨(nI w), (), rfl, ?_, by rw [ht]; exact hP, va_K.moved hW.alike hK, hD⟩, hS.F ht⟩) hS.2.2 dX7_put_158
                  exact rfl
              · refine lv_if_eq (tgt := 154) hx hb dX7_put_138 (by decide) (fun c138 => ?_) (fun c138 => ?_)
                · refine lv_aload_n hx hb dX7_put_154 rfl (lv_at hl 1 rfl) ?_
                  refine va_get (D := D) (ci := 4) (v := .int re) (C := RX7) (T := TX7) (N := 15) hx hb hts hinX7 hown hK hP 0 rfl rfl 2 (by decide) hfl73 (fun _ h9 => h9) rfl dX7_put_155 ?_
                  obtain rfl := ex88.symm; obtain rfl := ex89.symm
                  refine W.iret (v := re) hx hb hr (fun tt ht hW => ⟨⟨re, (), rfl, ?_, by rw [ht]; exact hP, va_K.moved hW.alike hK, hD⟩, hS.F ht⟩) hS.2.2 dX7_put_158
                  exact rfl
                · exact absurd c138 (by decide)
            · exact absurd c71 (by decide)
          · refine lv_if_ne (tgt := 76) hx hb dX7_put_71 (by decide) (fun c71 => ?_) (fun c71 => ?_)
            · exact absurd c71 (by decide)
            · refine lv_iconst (v := 0) hx hb dX7_put_74 (by decide) ?_
              refine W.iret (v := 0) hx hb hr (fun tt ht hW => ⟨⟨0, (), rfl, ?_, by rw [ht]; exact hP, va_K.moved hW.alike hK, hD⟩, hS.F ht⟩) hS.2.2 dX7_put_75
              exact rfl
    · exact absurd c4 (by decide)

set_option maxHeartbeats 400000 in
set_option maxRecDepth 100000 in
theorem c_X7_put_bad2 (l : Launch) (D : va_G) (cI cJ : ClassId) (sz : Nat) (h0 ow cl tu lk f1 s2 ms nx bs : Nat) (th re mt fd : Int32) (w k : Nat) (fo lo ff sf : Nat → Int64) (cs ts mm nf bf : Nat → Int32) (j : Nat) (hj : j < 36) (hbad : ¬ (re = 0 ∧ mt = 0 ∧ ¬ bt (fo 1 ||| fo 2) j = true)) : Met l yX7_put wsX7_put ({ frames := 3, cells := 0, slots := 0, locals := 72 } : Room) (va_Pc [.ref h0, .int (nI j)] (pv_C D cI cJ [(h0, .inr (4, [.int th, .ref ow, .int re, .int (nI w), .int mt, .ref cl, .ref tu, .int (nI k), .ref lk, .ref f1, .ref s2, .ref ms, .ref nx, .ref bs, .int fd])), (ow, .inl (cJ, 3, .inr (.inl fo))), (cl, .inl (cI, 36, .inl cs)), (tu, .inl (cI, 36, .inl ts)), (lk, .inl (cJ, 3, .inr (.inl lo))), (f1, .inl (cJ, 6, .inr (.inl ff))), (s2, .inl (cJ, 6, .inr (.inl sf))), (ms, .inl (cI, 6, .inl mm)), (nx, .inl (cI, 6, .inl nf)), (bs, .inl (cI, 6, .inl bf))] sz)) (va_Qi (fun (r : Int32) (u : Unit) => r = 0) (fun (u : Unit) => pv_B D cI cJ (va_A [(h0, .inr (4, [.int th, .ref ow, .int re, .int (nI w), .int mt, .ref cl, .ref tu, .int (nI k), .ref lk, .ref f1, .ref s2, .ref ms, .ref nx, .ref bs, .int fd])), (ow, .inl (cJ, 3, .inr (.inl fo))), (cl, .inl (cI, 36, .inl cs)), (tu, .inl (cI, 36, .inl ts)), (lk, .inl (cJ, 3, .inr (.inl lo))), (f1, .inl (cJ, 6, .inr (.inl ff))), (s2, .inl (cJ, 6, .inr (.inl sf))), (ms, .inl (cI, 6, .inl mm)), (nx, .inl (cI, 6, .inl nf)), (bs, .inl (cI, 6, .inl bf))] sz) [(h0, .inr (4, [.int 2, .ref ow, .int re, .int (nI w), .int mt, .ref cl, .ref tu, .int (nI k), .ref lk, .ref f1, .ref s2, .ref ms, .ref nx, .ref bs, .int fd])), (ow, .inl (cJ, 3, .inr (.inl fo))), (cl, .inl (cI, 36, .inl cs)), (tu, .inl (cI, 36, .inl ts)), (lk, .inl (cJ, 3, .inr (.inl lo))), (f1, .inl (cJ, 6, .inr (.inl ff))), (s2, .inl (cJ, 6, .inr (.inl sf))), (ms, .inl (cI, 6, .inl mm)), (nx, .inl (cI, 6, .inl nf)), (bs, .inl (cI, 6, .inl bf))]) (va_A [(h0, .inr (4, [.int th, .ref ow, .int re, .int (nI w), .int mt, .ref cl, .ref tu, .int (nI k), .ref lk, .ref f1, .ref s2, .ref ms, .ref nx, .ref bs, .int fd])), (ow, .inl (cJ, 3, .inr (.inl fo))), (cl, .inl (cI, 36, .inl cs)), (tu, .inl (cI, 36, .inl ts)), (lk, .inl (cJ, 3, .inr (.inl lo))), (f1, .inl (cJ, 6, .inr (.inl ff))), (s2, .inl (cJ, 6, .inr (.inl sf))), (ms, .inl (cI, 6, .inl mm)), (nx, .inl (cI, 6, .inl nf)), (bs, .inl (cI, 6, .inl bf))] sz)) 0 0 (va_A [(h0, .inr (4, [.int th, .ref ow, .int re, .int (nI w), .int mt, .ref cl, .ref tu, .int (nI k), .ref lk, .ref f1, .ref s2, .ref ms, .ref nx, .ref bs, .int fd])), (ow, .inl (cJ, 3, .inr (.inl fo))), (cl, .inl (cI, 36, .inl cs)), (tu, .inl (cI, 36, .inl ts)), (lk, .inl (cJ, 3, .inr (.inl lo))), (f1, .inl (cJ, 6, .inr (.inl ff))), (s2, .inl (cJ, 6, .inr (.inl sf))), (ms, .inl (cI, 6, .inl mm)), (nx, .inl (cI, 6, .inl nf)), (bs, .inl (cI, 6, .inl bf))] sz) := by
  refine Met.ofW (cc := cX7_put) (maxL := 3) (ret := (some .int)) (by decide) rfl ?_
  intro p e s m args below meth c s₁ B hml hv
  obtain ⟨rfl, rfl, hP, hK, hD0⟩ := hv
  have hx := B.exec
  have hb := B.bytes
  have hr := B.returns
  have hts := atoms_spec (ws := wsX7_put) B.pre
  have hown : s.vm.findClass RX7 = some m.cls := findClass_of_methodNamed B.named
  have hlocks := B.notSynchronized
  have hD := hD0.self (sz := s.heap.size)
  generalize hAe : va_A [(h0, .inr (4, [.int th, .ref ow, .int re, .int (nI w), .int mt, .ref cl, .ref tu, .int (nI k), .ref lk, .ref f1, .ref s2, .ref ms, .ref nx, .ref bs, .int fd])), (ow, .inl (cJ, 3, .inr (.inl fo))), (cl, .inl (cI, 36, .inl cs)), (tu, .inl (cI, 36, .inl ts)), (lk, .inl (cJ, 3, .inr (.inl lo))), (f1, .inl (cJ, 6, .inr (.inl ff))), (s2, .inl (cJ, 6, .inr (.inl sf))), (ms, .inl (cI, 6, .inl mm)), (nx, .inl (cI, 6, .inl nf)), (bs, .inl (cI, 6, .inl bf))] s.heap.size = A at hD ⊢
  have hA : ∀ q : Nat, s.heap.size ≤ q → A q := fun q h => by rw [← hAe]; exact Or.inr h
  have hS : va_S A s.heap s.heap [] := va_S.rf
  have hinX7 : ∀ w ∈ wsX70, w ∈ wsX7_put := by decide +kernel
  have hfl73 : (Cond.fieldLink RX7 73 "TwistquadModel" "result" "I").before ([.ref h0, .int (nI j)] : List Value).toArray s = true := hts _ (by decide +kernel)
  have hfl7 : (Cond.fieldLink RX7 7 "TwistquadModel" "own" "[J").before ([.ref h0, .int (nI j)] : List Value).toArray s = true := hts _ (by decide +kernel)
  have hfl13 : (Cond.fieldLink RX7 13 "TwistquadModel" "mover" "I").before ([.ref h0, .int (nI j)] : List Value).toArray s = true := hts _ (by decide +kernel)
  have hfl17 : (Cond.fieldLink RX7 17 "TwistquadModel" "cells" "[I").before ([.ref h0, .int (nI j)] : List Value).toArray s = true := hts _ (by decide +kernel)
  have hfl83 : (Cond.fieldLink RX7 83 "TwistquadModel" "moves" "I").before ([.ref h0, .int (nI j)] : List Value).toArray s = true := hts _ (by decide +kernel)
  have hfl21 : (Cond.fieldLink RX7 21 "TwistquadModel" "turns" "[I").before ([.ref h0, .int (nI j)] : List Value).toArray s = true := hts _ (by decide +kernel)
  have hfl76 : (Cond.fieldLink RX7 76 "TwistquadModel" "mustTurn" "Z").before ([.ref h0, .int (nI j)] : List Value).toArray s = true := hts _ (by decide +kernel)
  have hl := lv_entry ([.ref h0, .int (nI j)]) (n := 3) (Nat.le_of_ble_eq_true rfl)
  rw [lg_entry_eq]
  generalize (lg_sl ([.ref h0, .int (nI j)]) ++ List.replicate (3 - (lg_sl ([.ref h0, .int (nI j)])).length) Slot.unset).toArray = ls at hl ⊢
  have hl : lv_has ls 3 [(0, .ref h0), (1, .int (nI j))] := hl
  refine lv_iload_n hx hb dX7_put_0 rfl (lv_at hl 1 rfl) ?_
  refine vp_callSi (W.runS (As := [.int (nI j)]) (rest := []) ⟨hx, hb, hml, hown, hts⟩ (c_X7_isCell l (nI j)) (va_cwS 1 hts gX7_put_X7_isCell rfl rfl rfl (by decide +kernel) ⟨Nat.le_of_ble_eq_true rfl, Nat.le_of_ble_eq_true rfl⟩) ⟨px_blind0, fun U hU hW => ⟨rfl, trivial⟩⟩ rfl rfl hl.1 rfl (lv_room (Nat.le_of_ble_eq_true rfl)) dX7_put_1 ⟨(Nat.le_of_ble_eq_true rfl), (Nat.le_of_ble_eq_true rfl)⟩) (fun r1 er1 => ?_)
  obtain rfl := er1.symm
  refine pk_b (P := 0 ≤ (nI j) ∧ (nI j) ≤ 35) (fun b1 => ?_) (fun b1 => ?_)
  · refine lv_if_eq (tgt := 45) hx hb dX7_put_4 (by decide) (fun c4 => ?_) (fun c4 => ?_)
    · exact absurd c4 (by decide)
    · refine lv_aload_n hx hb dX7_put_7 rfl (lv_at hl 0 rfl) ?_
      refine va_get (D := D) (ci := 4) (v := .int re) (C := RX7) (T := TX7) (N := 15) hx hb hts hinX7 hown hK hP 0 rfl rfl 2 (by decide) hfl73 (fun _ h9 => h9) rfl dX7_put_8 ?_
      refine lv_if_ne (tgt := 41) hx hb dX7_put_11 (by decide) (fun c11 => ?_) (fun c11 => ?_)
      · refine lv_iconst (v := 1) hx hb dX7_put_41 (by decide) ?_
        refine lv_goto (tgt := 46) hx hb dX7_put_42 (by decide) ?_
        refine lv_istore_n (lv' := [(2, .int 1), (0, .ref h0), (1, .int (nI j))]) hx hb dX7_put_46 rfl hl (by decide) rfl (fun ls hl => ?_)
        refine lv_aload_n hx hb dX7_put_47 rfl (lv_at hl 1 rfl) ?_
        refine lv_iload_n hx hb dX7_put_48 rfl (lv_at hl 2 rfl) ?_
        refine vp_callSi (W.runS (As := [.int (nI j)]) (rest := [.ref h0]) ⟨hx, hb, hml, hown, hts⟩ (c_X7_isCell l (nI j)) (va_cwS 1 hts gX7_put_X7_isCell rfl rfl rfl (by decide +kernel) ⟨Nat.le_of_ble_eq_true rfl, Nat.le_of_ble_eq_true rfl⟩) ⟨px_blind0, fun U hU hW => ⟨rfl, trivial⟩⟩ rfl rfl hl.1 rfl (lv_room (Nat.le_of_ble_eq_true rfl)) dX7_put_49 ⟨(Nat.le_of_ble_eq_true rfl), (Nat.le_of_ble_eq_true rfl)⟩) (fun r49 er49 => ?_)
        obtain rfl := er49.symm
        refine pk_b (P := 0 ≤ (nI j) ∧ (nI j) ≤ 35) (fun b49 => ?_) (fun b49 => ?_)
        · refine lv_if_ne (tgt := 59) hx hb dX7_put_52 (by decide) (fun c52 => ?_) (fun c52 => ?_)
          · refine lv_iload_n hx hb dX7_put_59 rfl (lv_at hl 0 rfl) ?_
            refine lv_if_eq (tgt := 67) hx hb dX7_put_60 (by decide) (fun c60 => ?_) (fun c60 => ?_)
            · exact absurd c60 (by decide)
            · refine lv_iconst (v := 2) hx hb dX7_put_63 (by decide) ?_
              refine lv_goto (tgt := 68) hx hb dX7_put_64 (by decide) ?_
              have hPc := hP.sub (ws' := [(h0, .inr (4, [.int th, .ref ow, .int re, .int (nI w), .int mt, .ref cl, .ref tu, .int (nI k), .ref lk, .ref f1, .ref s2, .ref ms, .ref nx, .ref bs, .int fd])), (ow, .inl (cJ, 3, .inr (.inl fo))), (cl, .inl (cI, 36, .inl cs)), (tu, .inl (cI, 36, .inl ts)), (lk, .inl (cJ, 3, .inr (.inl lo))), (f1, .inl (cJ, 6, .inr (.inl ff))), (s2, .inl (cJ, 6, .inr (.inl sf))), (ms, .inl (cI, 6, .inl mm)), (nx, .inl (cI, 6, .inl nf)), (bs, .inl (cI, 6, .inl bf))]) [0, 1, 2, 3, 4, 5, 6, 7, 8, 9] rfl
              have hDc := hD.sub (ws' := [(h0, .inr (4, [.int th, .ref ow, .int re, .int (nI w), .int mt, .ref cl, .ref tu, .int (nI k), .ref lk, .ref f1, .ref s2, .ref ms, .ref nx, .ref bs, .int fd])), (ow, .inl (cJ, 3, .inr (.inl fo))), (cl, .inl (cI, 36, .inl cs)), (tu, .inl (cI, 36, .inl ts)), (lk, .inl (cJ, 3, .inr (.inl lo))), (f1, .inl (cJ, 6, .inr (.inl ff))), (s2, .inl (cJ, 6, .inr (.inl sf))), (ms, .inl (cI, 6, .inl mm)), (nx, .inl (cI, 6, .inl nf)), (bs, .inl (cI, 6, .inl bf))]) [0, 1, 2, 3, 4, 5, 6, 7, 8, 9] (by decide) rfl
              have hFc := va_free (wc := [(h0, .inr (4, [.int th, .ref ow, .int re, .int (nI w), .int mt, .ref cl, .ref tu, .int (nI k), .ref lk, .ref f1, .ref s2, .ref ms, .ref nx, .ref bs, .int fd])), (ow, .inl (cJ, 3, .inr (.inl fo))), (cl, .inl (cI, 36, .inl cs)), (tu, .inl (cI, 36, .inl ts)), (lk, .inl (cJ, 3, .inr (.inl lo))), (f1, .inl (cJ, 6, .inr (.inl ff))), (s2, .inl (cJ, 6, .inr (.inl sf))), (ms, .inl (cI, 6, .inl mm)), (nx, .inl (cI, 6, .inl nf)), (bs, .inl (cI, 6, .inl bf))]) hD hS hA [0, 1, 2, 3, 4, 5, 6, 7, 8, 9] rfl
              refine va_calli (va_runV (As := [.int 2]) (rest := []) ⟨hx, hb, hml, hown, hts⟩ (c_X7_goesWell l D cI cJ s.heap.size  h0 ow cl tu lk f1 s2 ms nx bs th re mt fd w k fo lo ff sf cs ts mm nf bf 2) (cwV 1 hts gX7_put_X7_goesWell rfl rfl rfl (by decide +kernel) ⟨Nat.le_of_ble_eq_true rfl, Nat.le_of_ble_eq_true rfl⟩) ⟨pv_blind, va_recv hK hPc (ci := 4) (q0 := 0) rfl rfl, fun U hU hW => ⟨rfl, by rw [hU], by rw [hU]; exact hPc, va_K.moved hW.alike hK, hDc.weaken (fun _ _ _ _ => trivial)⟩⟩ rfl rfl hl.1 rfl (lv_room (Nat.le_of_ble_eq_true rfl)) dX7_put_68 ⟨(Nat.le_of_ble_eq_true rfl), (Nat.le_of_ble_eq_true rfl)⟩) hS (fun q _ h => hFc q h) hFc (fun r68 u t9 H1 locs ht9 hvm hw68 hB hz1 hk1 hS => ?_)
              try dsimp only at hw68
              obtain ⟨hP1, hK1, hD1⟩ := hB
              rw [ht9] at hP1
              obtain ⟨hP, hD⟩ := va_join (wr := []) (w1 := [(h0, .inr (4, [.int 2, .ref ow, .int re, .int (nI w), .int mt, .ref cl, .ref tu, .int (nI k), .ref lk, .ref f1, .ref s2, .ref ms, .ref nx, .ref bs, .int fd])), (ow, .inl (cJ, 3, .inr (.inl fo))), (cl, .inl (cI, 36, .inl cs)), (tu, .inl (cI, 36, .inl ts)), (lk, .inl (cJ, 3, .inr (.inl lo))), (f1, .inl (cJ, 6, .inr (.inl ff))), (s2, .inl (cJ, 6, .inr (.inl sf))), (ms, .inl (cI, 6, .inl mm)), (nx, .inl (cI, 6, .inl nf)), (bs, .inl (cI, 6, .inl bf))]) hP hD [0, 1, 2, 3, 4, 5, 6, 7, 8, 9] [] rfl rfl (by decide) (by decide) hk1 hFc hP1 hD1
              generalize H1 = H at hP hS ⊢
              have hP : va_P D vwCl [(h0, .inr (4, [.int 2, .ref ow, .int re, .int (nI w), .int mt, .ref cl, .ref tu, .int (nI k), .ref lk, .ref f1, .ref s2, .ref ms, .ref nx, .ref bs, .int fd])), (ow, .inl (cJ, 3, .inr (.inl fo))), (cl, .inl (cI, 36, .inl cs)), (tu, .inl (cI, 36, .inl ts)), (lk, .inl (cJ, 3, .inr (.inl lo))), (f1, .inl (cJ, 6, .inr (.inl ff))), (s2, .inl (cJ, 6, .inr (.inl sf))), (ms, .inl (cI, 6, .inl mm)), (nx, .inl (cI, 6, .inl nf)), (bs, .inl (cI, 6, .inl bf))] H := hP.sub (ws' := [(h0, .inr (4, [.int 2, .ref ow, .int re, .int (nI w), .int mt, .ref cl, .ref tu, .int (nI k), .ref lk, .ref f1, .ref s2, .ref ms, .ref nx, .ref bs, .int fd])), (ow, .inl (cJ, 3, .inr (.inl fo))), (cl, .inl (cI, 36, .inl cs)), (tu, .inl (cI, 36, .inl ts)), (lk, .inl (cJ, 3, .inr (.inl lo))), (f1, .inl (cJ, 6, .inr (.inl ff))), (s2, .inl (cJ, 6, .inr (.inl sf))), (ms, .inl (cI, 6, .inl mm)), (nx, .inl (cI, 6, .inl nf)), (bs, .inl (cI, 6, .inl bf))]) [0, 1, 2, 3, 4, 5, 6, 7, 8, 9] rfl
              have hD : va_D A [(h0, .inr (4, [.int 2, .ref ow, .int re, .int (nI w), .int mt, .ref cl, .ref tu, .int (nI k), .ref lk, .ref f1, .ref s2, .ref ms, .ref nx, .ref bs, .int fd])), (ow, .inl (cJ, 3, .inr (.inl fo))), (cl, .inl (cI, 36, .inl cs)), (tu, .inl (cI, 36, .inl ts)), (lk, .inl (cJ, 3, .inr (.inl lo))), (f1, .inl (cJ, 6, .inr (.inl ff))), (s2, .inl (cJ, 6, .inr (.inl sf))), (ms, .inl (cI, 6, .inl mm)), (nx, .inl (cI, 6, .inl nf)), (bs, .inl (cI, 6, .inl bf))] := hD.sub (ws' := [(h0, .inr (4, [.int 2, .ref ow, .int re, .int (nI w), .int mt, .ref cl, .ref tu, .int (nI k), .ref lk, .ref f1, .ref s2, .ref ms, .ref nx, .ref bs, .int fd])), (ow, .inl (cJ, 3, .inr (.inl fo))), (cl, .inl (cI, 36, .inl cs)), (tu, .inl (cI, 36, .inl ts)), (lk, .inl (cJ, 3, .inr (.inl lo))), (f1, .inl (cJ, 6, .inr (.inl ff))), (s2, .inl (cJ, 6, .inr (.inl sf))), (ms, .inl (cI, 6, .inl mm)), (nx, .inl (cI, 6, .inl nf)), (bs, .inl (cI, 6, .inl bf))]) [0, 1, 2, 3, 4, 5, 6, 7, 8, 9] (by decide) rfl
              obtain rfl := hw68.symm
              refine pk_b (P := 2 = 0) (fun b68 => ?_) (fun b68 => ?_)
              · refine lv_if_ne (tgt := 76) hx hb dX7_put_71 (by decide) (fun c71 => ?_) (fun c71 => ?_)
                · refine lv_aload_n hx hb dX7_put_76 rfl (lv_at hl 1 rfl) ?_
                  refine va_get (D := D) (ci := 4) (v := .ref ow) (C := RX7) (T := TX7) (N := 15) hx hb hts hinX7 hown hK hP 0 rfl rfl 1 (by decide) hfl7 (fun _ h9 => h9) rfl dX7_put_77 ?_
                  refine lv_aload_n hx hb dX7_put_80 rfl (lv_at hl 1 rfl) ?_
                  refine va_get (D := D) (ci := 4) (v := .int (nI w)) (C := RX7) (T := TX7) (N := 15) hx hb hts hinX7 hown hK hP 0 rfl rfl 3 (by decide) hfl13 (fun _ h9 => h9) rfl dX7_put_81 ?_
                  refine lv_dup2_11 hx hb dX7_put_84 rfl rfl ?_
                  refine va_lald hx hb hK hP 1 1 rfl rfl (vp_in_nI (n := w) (N := 3) (by omega) (by decide)) dX7_put_85 ?_
                  refine pk_tl (y := (fo w)) (congrArg fo (pk_cl w)) ?_
                  refine lv_lconst (v := 1) hx hb dX7_put_86 (by decide) ?_
                  refine lv_iload_n hx hb dX7_put_87 rfl (lv_at hl 2 rfl) ?_
                  refine lv_lshl (v := jshl 1 (nI j)) hx hb dX7_put_88 rfl ?_
                  refine lv_topl (fun x88 ex88 => ?_)
                  refine lv_lor hx hb dX7_put_89 ?_
                  refine lv_topl (fun x89 ex89 => ?_)
                  refine va_last hx hb hK hP hD hS 1 1 rfl rfl (vp_in_nI (n := w) (N := 3) (by omega) (by decide)) dX7_put_90 (fun H locs hP hD hS => ?_)
                  have hu90 : ((nI w) : Int32).toNatClampNeg = w := pk_cl w
                  rw [hu90] at hP hD
                  have hP : va_P D vwCl [(h0, .inr (4, [.int 2, .ref ow, .int re, .int (nI w), .int mt, .ref cl, .ref tu, .int (nI k), .ref lk, .ref f1, .ref s2, .ref ms, .ref nx, .ref bs, .int fd])), (ow, .inl (cJ, 3, .inr (.inl (vp_updL fo w x89)))), (cl, .inl (cI, 36, .inl cs)), (tu, .inl (cI, 36, .inl ts)), (lk, .inl (cJ, 3, .inr (.inl lo))), (f1, .inl (cJ, 6, .inr (.inl ff))), (s2, .inl (cJ, 6, .inr (.inl sf))), (ms, .inl (cI, 6, .inl mm)), (nx, .inl (cI, 6, .inl nf)), (bs, .inl (cI, 6, .inl bf))] H := hP
                  have hD : va_D A [(h0, .inr (4, [.int 2, .ref ow, .int re, .int (nI w), .int mt, .ref cl, .ref tu, .int (nI k), .ref lk, .ref f1, .ref s2, .ref ms, .ref nx, .ref bs, .int fd])), (ow, .inl (cJ, 3, .inr (.inl (vp_updL fo w x89)))), (cl, .inl (cI, 36, .inl cs)), (tu, .inl (cI, 36, .inl ts)), (lk, .inl (cJ, 3, .inr (.inl lo))), (f1, .inl (cJ, 6, .inr (.inl ff))), (s2, .inl (cJ, 6, .inr (.inl sf))), (ms, .inl (cI, 6, .inl mm)), (nx, .inl (cI, 6, .inl nf)), (bs, .inl (cI, 6, .inl bf))] := hD
                  refine lv_aload_n hx hb dX7_put_91 rfl (lv_at hl 1 rfl) ?_
                  refine va_get (D := D) (ci := 4) (v := .ref cl) (C := RX7) (T := TX7) (N := 15) hx hb hts hinX7 hown hK hP 0 rfl rfl 5 (by decide) hfl17 (fun _ h9 => h9) rfl dX7_put_92 ?_
                  refine lv_aload_n hx hb dX7_put_95 rfl (lv_at hl 1 rfl) ?_
                  refine va_get (D := D) (ci := 4) (v := .int (nI k)) (C := RX7) (T := TX7) (N := 15) hx hb hts hinX7 hown hK hP 0 rfl rfl 7 (by decide) hfl83 (fun _ h9 => h9) rfl dX7_put_96 ?_
                  refine lv_iload_n hx hb dX7_put_99 rfl (lv_at hl 2 rfl) ?_
                  refine va_iast hx hb hK hP hD hS 2 0 rfl rfl (vp_in_nI (n := k) (N := 36) (by omega) (by decide)) dX7_put_100 (fun H locs hP hD hS => ?_)
                  have hu100 : ((nI k) : Int32).toNatClampNeg = k := pk_cl k
                  rw [hu100] at hP hD
                  have hP : va_P D vwCl [(h0, .inr (4, [.int 2, .ref ow, .int re, .int (nI w), .int mt, .ref cl, .ref tu, .int (nI k), .ref lk, .ref f1, .ref s2, .ref ms, .ref nx, .ref bs, .int fd])), (ow, .inl (cJ, 3, .inr (.inl (vp_updL fo w x89)))), (cl, .inl (cI, 36, .inl (upd cs k (nI j)))), (tu, .inl (cI, 36, .inl ts)), (lk, .inl (cJ, 3, .inr (.inl lo))), (f1, .inl (cJ, 6, .inr (.inl ff))), (s2, .inl (cJ, 6, .inr (.inl sf))), (ms, .inl (cI, 6, .inl mm)), (nx, .inl (cI, 6, .inl nf)), (bs, .inl (cI, 6, .inl bf))] H := hP
                  have hD : va_D A [(h0, .inr (4, [.int 2, .ref ow, .int re, .int (nI w), .int mt, .ref cl, .ref tu, .int (nI k), .ref lk, .ref f1, .ref s2, .ref ms, .ref nx, .ref bs, .int fd])), (ow, .inl (cJ, 3, .inr (.inl (vp_updL fo w x89)))), (cl, .inl (cI, 36, .inl (upd cs k (nI j)))), (tu, .inl (cI, 36, .inl ts)), (lk, .inl (cJ, 3, .inr (.inl lo))), (f1, .inl (cJ, 6, .inr (.inl ff))), (s2, .inl (cJ, 6, .inr (.inl sf))), (ms, .inl (cI, 6, .inl mm)), (nx, .inl (cI, 6, .inl nf)), (bs, .inl (cI, 6, .inl bf))] := hD
                  refine lv_aload_n hx hb dX7_put_101 rfl (lv_at hl 1 rfl) ?_
                  refine va_get (D := D) (ci := 4) (v := .ref tu) (C := RX7) (T := TX7) (N := 15) hx hb hts hinX7 hown hK hP 0 rfl rfl 6 (by decide) hfl21 (fun _ h9 => h9) rfl dX7_put_102 ?_
                  refine lv_aload_n hx hb dX7_put_105 rfl (lv_at hl 1 rfl) ?_
                  refine va_get (D := D) (ci := 4) (v := .int (nI k)) (C := RX7) (T := TX7) (N := 15) hx hb hts hinX7 hown hK hP 0 rfl rfl 7 (by decide) hfl83 (fun _ h9 => h9) rfl dX7_put_106 ?_
                  refine lv_iconst (v := (-1)) hx hb dX7_put_109 (by decide) ?_
                  refine va_iast hx hb hK hP hD hS 3 0 rfl rfl (vp_in_nI (n := k) (N := 36) (by omega) (by decide)) dX7_put_110 (fun H locs hP hD hS => ?_)
                  have hu110 : ((nI k) : Int32).toNatClampNeg = k := pk_cl k
                  rw [hu110] at hP hD
                  have hP : va_P D vwCl [(h0, .inr (4, [.int 2, .ref ow, .int re, .int (nI w), .int mt, .ref cl, .ref tu, .int (nI k), .ref lk, .ref f1, .ref s2, .ref ms, .ref nx, .ref bs, .int fd])), (ow, .inl (cJ, 3, .inr (.inl (vp_updL fo w x89)))), (cl, .inl (cI, 36, .inl (upd cs k (nI j)))), (tu, .inl (cI, 36, .inl (upd ts k (-1)))), (lk, .inl (cJ, 3, .inr (.inl lo))), (f1, .inl (cJ, 6, .inr (.inl ff))), (s2, .inl (cJ, 6, .inr (.inl sf))), (ms, .inl (cI, 6, .inl mm)), (nx, .inl (cI, 6, .inl nf)), (bs, .inl (cI, 6, .inl bf))] H := hP
                  have hD : va_D A [(h0, .inr (4, [.int 2, .ref ow, .int re, .int (nI w), .int mt, .ref cl, .ref tu, .int (nI k), .ref lk, .ref f1, .ref s2, .ref ms, .ref nx, .ref bs, .int fd])), (ow, .inl (cJ, 3, .inr (.inl (vp_updL fo w x89)))), (cl, .inl (cI, 36, .inl (upd cs k (nI j)))), (tu, .inl (cI, 36, .inl (upd ts k (-1)))), (lk, .inl (cJ, 3, .inr (.inl lo))), (f1, .inl (cJ, 6, .inr (.inl ff))), (s2, .inl (cJ, 6, .inr (.inl sf))), (ms, .inl (cI, 6, .inl mm)), (nx, .inl (cI, 6, .inl nf)), (bs, .inl (cI, 6, .inl bf))] := hD
                  refine lv_aload_n hx hb dX7_put_111 rfl (lv_at hl 1 rfl) ?_
                  refine lv_dup hx hb dX7_put_112 rfl ?_
                  refine va_get (D := D) (ci := 4) (v := .int (nI k)) (C := RX7) (T := TX7) (N := 15) hx hb hts hinX7 hown hK hP 0 rfl rfl 7 (by decide) hfl83 (fun _ h9 => h9) rfl dX7_put_113 ?_
                  refine lv_iconst (v := 1) hx hb dX7_put_116 (by decide) ?_
                  refine lv_iadd hx hb dX7_put_117 ?_
                  refine pk_ti (y := nI (k + 1)) (nI_add k 1) ?_
                  refine va_put (D := D) (ci := 4) (v := .int (nI (k + 1))) (ty := .int) (C := RX7) (T := TX7) (N := 15) hx hb hts hinX7 tyX7 tyX7_ok nmX7 hown hK hP hD hS 0 rfl rfl 7 (by decide) hfl83 (fun _ h9 => h9) rfl (by decide +kernel) rfl rfl (Nat.le_of_ble_eq_true rfl) dX7_put_118 (fun H locs hP hD hS => ?_)
                  have hP : va_P D vwCl [(h0, .inr (4, [.int 2, .ref ow, .int re, .int (nI w), .int mt, .ref cl, .ref tu, .int (nI (k + 1)), .ref lk, .ref f1, .ref s2, .ref ms, .ref nx, .ref bs, .int fd])), (ow, .inl (cJ, 3, .inr (.inl (vp_updL fo w x89)))), (cl, .inl (cI, 36, .inl (upd cs k (nI j)))), (tu, .inl (cI, 36, .inl (upd ts k (-1)))), (lk, .inl (cJ, 3, .inr (.inl lo))), (f1, .inl (cJ, 6, .inr (.inl ff))), (s2, .inl (cJ, 6, .inr (.inl sf))), (ms, .inl (cI, 6, .inl mm)), (nx, .inl (cI, 6, .inl nf)), (bs, .inl (cI, 6, .inl bf))] H := hP
                  have hD : va_D A [(h0, .inr (4, [.int 2, .ref ow, .int re, .int (nI w), .int mt, .ref cl, .ref tu, .int (nI (k + 1)), .ref lk, .ref f1, .ref s2, .ref ms, .ref nx, .ref bs, .int fd])), (ow, .inl (cJ, 3, .inr (.inl (vp_updL fo w x89)))), (cl, .inl (cI, 36, .inl (upd cs k (nI j)))), (tu, .inl (cI, 36, .inl (upd ts k (-1)))), (lk, .inl (cJ, 3, .inr (.inl lo))), (f1, .inl (cJ, 6, .inr (.inl ff))), (s2, .inl (cJ, 6, .inr (.inl sf))), (ms, .inl (cI, 6, .inl mm)), (nx, .inl (cI, 6, .inl nf)), (bs, .inl (cI, 6, .inl bf))] := hD
                  refine lv_aload_n hx hb dX7_put_121 rfl (lv_at hl 1 rfl) ?_
                  refine lv_iconst (v := 1) hx hb dX7_put_122 (by decide) ?_
                  refine va_put (D := D) (ci := 4) (v := .int 1) (ty := .boolean) (C := RX7) (T := TX7) (N := 15) hx hb hts hinX7 tyX7 tyX7_ok nmX7 hown hK hP hD hS 0 rfl rfl 4 (by decide) hfl76 (fun _ h9 => h9) rfl (by decide +kernel) rfl rfl (Nat.le_of_ble_eq_true rfl) dX7_put_123 (fun H locs hP hD hS => ?_)
                  have hP : va_P D vwCl [(h0, .inr (4, [.int 2, .ref ow, .int re, .int (nI w), .int 1, .ref cl, .ref tu, .int (nI (k + 1)), .ref lk, .ref f1, .ref s2, .ref ms, .ref nx, .ref bs, .int fd])), (ow, .inl (cJ, 3, .inr (.inl (vp_updL fo w x89)))), (cl, .inl (cI, 36, .inl (upd cs k (nI j)))), (tu, .inl (cI, 36, .inl (upd ts k (-1)))), (lk, .inl (cJ, 3, .inr (.inl lo))), (f1, .inl (cJ, 6, .inr (.inl ff))), (s2, .inl (cJ, 6, .inr (.inl sf))), (ms, .inl (cI, 6, .inl mm)), (nx, .inl (cI, 6, .inl nf)), (bs, .inl (cI, 6, .inl bf))] H := hP
                  have hD : va_D A [(h0, .inr (4, [.int 2, .ref ow, .int re, .int (nI w), .int 1, .ref cl, .ref tu, .int (nI (k + 1)), .ref lk, .ref f1, .ref s2, .ref ms, .ref nx, .ref bs, .int fd])), (ow, .inl (cJ, 3, .inr (.inl (vp_updL fo w x89)))), (cl, .inl (cI, 36, .inl (upd cs k (nI j)))), (tu, .inl (cI, 36, .inl (upd ts k (-1)))), (lk, .inl (cJ, 3, .inr (.inl lo))), (f1, .inl (cJ, 6, .inr (.inl ff))), (s2, .inl (cJ, 6, .inr (.inl sf))), (ms, .inl (cI, 6, .inl mm)), (nx, .inl (cI, 6, .inl nf)), (bs, .inl (cI, 6, .inl bf))] := hD
                  refine lv_aload_n hx hb dX7_put_126 rfl (lv_at hl 1 rfl) ?_
                  refine va_get (D := D) (ci := 4) (v := .ref ow) (C := RX7) (T := TX7) (N := 15) hx hb hts hinX7 hown hK hP 0 rfl rfl 1 (by decide) hfl7 (fun _ h9 => h9) rfl dX7_put_127 ?_
                  refine lv_aload_n hx hb dX7_put_130 rfl (lv_at hl 1 rfl) ?_
                  refine va_get (D := D) (ci := 4) (v := .int (nI w)) (C := RX7) (T := TX7) (N := 15) hx hb hts hinX7 hown hK hP 0 rfl rfl 3 (by decide) hfl13 (fun _ h9 => h9) rfl dX7_put_131 ?_
                  refine va_lald hx hb hK hP 1 1 rfl rfl (vp_in_nI (n := w) (N := 3) (by omega) (by decide)) dX7_put_134 ?_
                  refine pk_tl (y := ((vp_updL fo w x89) w)) (congrArg (vp_updL fo w x89) (pk_cl w)) ?_
                  refine vp_callSi (W.runS (As := [.long ((vp_updL fo w x89) w)]) (rest := []) ⟨hx, hb, hml, hown, hts⟩ (c_X7_hasLine l ((vp_updL fo w x89) w)) (va_cwS 1 hts gX7_put_X7_hasLine rfl rfl rfl (by decide +kernel) ⟨Nat.le_of_ble_eq_true rfl, Nat.le_of_ble_eq_true rfl⟩) ⟨px_blind0, fun U hU hW => ⟨rfl, trivial⟩⟩ rfl rfl hl.1 rfl (lv_room (Nat.le_of_ble_eq_true rfl)) dX7_put_135 ⟨(Nat.le_of_ble_eq_true rfl), (Nat.le_of_ble_eq_true rfl)⟩) (fun r135 er135 => ?_)
                  obtain rfl := er135.symm
                  refine pk_b (P := 0 < msum ((vp_updL fo w x89) w) 0 5 32) (fun b135 => ?_) (fun b135 => ?_)
                  · refine lv_if_eq (tgt := 154) hx hb dX7_put_138 (by decide) (fun c138 => ?_) (fun c138 => ?_)
                    · exact absurd c138 (by decide)
                    · refine lv_aload_n hx hb dX7_put_141 rfl (lv_at hl 1 rfl) ?_
                      refine lv_aload_n hx hb dX7_put_142 rfl (lv_at hl 1 rfl) ?_
                      refine va_get (D := D) (ci := 4) (v := .int (nI w)) (C := RX7) (T := TX7) (N := 15) hx hb hts hinX7 hown hK hP 0 rfl rfl 3 (by decide) hfl13 (fun _ h9 => h9) rfl dX7_put_143 ?_
                      refine va_put (D := D) (ci := 4) (v := .int (nI w)) (ty := .int) (C := RX7) (T := TX7) (N := 15) hx hb hts hinX7 tyX7 tyX7_ok nmX7 hown hK hP hD hS 0 rfl rfl 2 (by decide) hfl73 (fun _ h9 => h9) rfl (by decide +kernel) rfl rfl (Nat.le_of_ble_eq_true rfl) dX7_put_146 (fun H locs hP hD hS => ?_)
                      have hP : va_P D vwCl [(h0, .inr (4, [.int 2, .ref ow, .int (nI w), .int (nI w), .int 1, .ref cl, .ref tu, .int (nI (k + 1)), .ref lk, .ref f1, .ref s2, .ref ms, .ref nx, .ref bs, .int fd])), (ow, .inl (cJ, 3, .inr (.inl (vp_updL fo w x89)))), (cl, .inl (cI, 36, .inl (upd cs k (nI j)))), (tu, .inl (cI, 36, .inl (upd ts k (-1)))), (lk, .inl (cJ, 3, .inr (.inl lo))), (f1, .inl (cJ, 6, .inr (.inl ff))), (s2, .inl (cJ, 6, .inr (.inl sf))), (ms, .inl (cI, 6, .inl mm)), (nx, .inl (cI, 6, .inl nf)), (bs, .inl (cI, 6, .inl bf))] H := hP
                      have hD : va_D A [(h0, .inr (4, [.int 2, .ref ow, .int (nI w), .int (nI w), .int 1, .ref cl, .ref tu, .int (nI (k + 1)), .ref lk, .ref f1, .ref s2, .ref ms, .ref nx, .ref bs, .int fd])), (ow, .inl (cJ, 3, .inr (.inl (vp_updL fo w x89)))), (cl, .inl (cI, 36, .inl (upd cs k (nI j)))), (tu, .inl (cI, 36, .inl (upd ts k (-1)))), (lk, .inl (cJ, 3, .inr (.inl lo))), (f1, .inl (cJ, 6, .inr (.inl ff))), (s2, .inl (cJ, 6, .inr (.inl sf))), (ms, .inl (cI, 6, .inl mm)), (nx, .inl (cI, 6, .inl nf)), (bs, .inl (cI, 6, .inl bf))] := hD
                      refine lv_aload_n hx hb dX7_put_149 rfl (lv_at hl 1 rfl) ?_
                      refine lv_iconst (v := 0) hx hb dX7_put_150 (by decide) ?_
                      refine va_put (D := D) (ci := 4) (v := .int 0) (ty := .boolean) (C := RX7) (T := TX7) (N := 15) hx hb hts hinX7 tyX7 tyX7_ok nmX7 hown hK hP hD hS 0 rfl rfl 4 (by decide) hfl76 (fun _ h9 => h9) rfl (by decide +kernel) rfl rfl (Nat.le_of_ble_eq_true rfl) dX7_put_151 (fun H locs hP hD hS => ?_)
                      have hP : va_P D vwCl [(h0, .inr (4, [.int 2, .ref ow, .int (nI w), .int (nI w), .int 0, .ref cl, .ref tu, .int (nI (k + 1)), .ref lk, .ref f1, .ref s2, .ref ms, .ref nx, .ref bs, .int fd])), (ow, .inl (cJ, 3, .inr (.inl (vp_updL fo w x89)))), (cl, .inl (cI, 36, .inl (upd cs k (nI j)))), (tu, .inl (cI, 36, .inl (upd ts k (-1)))), (lk, .inl (cJ, 3, .inr (.inl lo))), (f1, .inl (cJ, 6, .inr (.inl ff))), (s2, .inl (cJ, 6, .inr (.inl sf))), (ms, .inl (cI, 6, .inl mm)), (nx, .inl (cI, 6, .inl nf)), (bs, .inl (cI, 6, .inl bf))] H := hP
                      have hD : va_D A [(h0, .inr (4, [.int 2, .ref ow, .int (nI w), .int (nI w), .int 0, .ref cl, .ref tu, .int (nI (k + 1)), .ref lk, .ref f1, .ref s2, .ref ms, .ref nx, .ref bs, .int fd])), (ow, .inl (cJ, 3, .inr (.inl (vp_updL fo w x89)))), (cl, .inl (cI, 36, .inl (upd cs k (nI j)))), (tu, .inl (cI, 36, .inl (upd ts k (-1)))), (lk, .inl (cJ, 3, .inr (.inl lo))), (f1, .inl (cJ, 6, .inr (.inl ff))), (s2, .inl (cJ, 6, .inr (.inl sf))), (ms, .inl (cI, 6, .inl mm)), (nx, .inl (cI, 6, .inl nf)), (bs, .inl (cI, 6, .inl bf))] := hD
                      refine lv_aload_n hx hb dX7_put_154 rfl (lv_at hl 1 rfl) ?_
                      refine va_get (D := D) (ci := 4) (v := .int (nI w)) (C := RX7) (T := TX7) (N := 15) hx hb hts hinX7 hown hK hP 0 rfl rfl 2 (by decide) hfl73 (fun _ h9 => h9) rfl dX7_put_155 ?_
                      obtain rfl := ex88.symm; obtain rfl := ex89.symm
                      refine W.iret (v := (nI w)) hx hb hr (fun tt ht hW => ⟨⟨(nI w), (), rfl, ?_, by rw [ht]; exact hP, va_K.moved hW.alike hK, hD⟩, hS.F ht⟩) hS.2.2 dX7_put_158
                      exact rfl
                  · refine lv_if_eq (tgt := 154) hx hb dX7_put_138 (by decide) (fun c138 => ?_) (fun c138 => ?_)
                    · refine lv_aload_n hx hb dX7_put_154 rfl (lv_at hl 1 rfl) ?_
                      refine va_get (D := D) (ci := 4) (v := .int re) (C := RX7) (T := TX7) (N := 15) hx hb hts hinX7 hown hK hP 0 rfl rfl 2 (by decide) hfl73 (fun _ h9 => h9) rfl dX7_put_155 ?_
                      obtain rfl := ex88.symm; obtain rfl := ex89.symm
                      refine W.iret (v := re) hx hb hr (fun tt ht hW => ⟨⟨re, (), rfl, ?_, by rw [ht]; exact hP, va_K.moved hW.alike hK, hD⟩, hS.F ht⟩) hS.2.2 dX7_put_158
                      exact rfl
                    · exact absurd c138 (by decide)
                · exact absurd c71 (by decide)
              · refine lv_if_ne (tgt := 76) hx hb dX7_put_71 (by decide) (fun c71 => ?_) (fun c71 => ?_)
                · exact absurd c71 (by decide)
                · refine lv_iconst (v := 0) hx hb dX7_put_74 (by decide) ?_
                  refine W.iret (v := 0) hx hb hr (fun tt ht hW => ⟨⟨0, (), rfl, ?_, by rw [ht]; exact hP, va_K.moved hW.alike hK, hD⟩, hS.F ht⟩) hS.2.2 dX7_put_75
                  exact rfl
          · exact absurd c52 (by decide)
        · exact absurd (cell_ok hj) b49
      · refine lv_aload_n hx hb dX7_put_14 rfl (lv_at hl 0 rfl) ?_
        refine va_get (D := D) (ci := 4) (v := .int mt) (C := RX7) (T := TX7) (N := 15) hx hb hts hinX7 hown hK hP 0 rfl rfl 4 (by decide) hfl76 (fun _ h9 => h9) rfl dX7_put_15 ?_
        refine lv_if_ne (tgt := 41) hx hb dX7_put_18 (by decide) (fun c18 => ?_) (fun c18 => ?_)
        · refine lv_iconst (v := 1) hx hb dX7_put_41 (by decide) ?_
          refine lv_goto (tgt := 46) hx hb dX7_put_42 (by decide) ?_
          refine lv_istore_n (lv' := [(2, .int 1), (0, .ref h0), (1, .int (nI j))]) hx hb dX7_put_46 rfl hl (by decide) rfl (fun ls hl => ?_)
          refine lv_aload_n hx hb dX7_put_47 rfl (lv_at hl 1 rfl) ?_
          refine lv_iload_n hx hb dX7_put_48 rfl (lv_at hl 2 rfl) ?_
          refine vp_callSi (W.runS (As := [.int (nI j)]) (rest := [.ref h0]) ⟨hx, hb, hml, hown, hts⟩ (c_X7_isCell l (nI j)) (va_cwS 1 hts gX7_put_X7_isCell rfl rfl rfl (by decide +kernel) ⟨Nat.le_of_ble_eq_true rfl, Nat.le_of_ble_eq_true rfl⟩) ⟨px_blind0, fun U hU hW => ⟨rfl, trivial⟩⟩ rfl rfl hl.1 rfl (lv_room (Nat.le_of_ble_eq_true rfl)) dX7_put_49 ⟨(Nat.le_of_ble_eq_true rfl), (Nat.le_of_ble_eq_true rfl)⟩) (fun r49 er49 => ?_)
          obtain rfl := er49.symm
          refine pk_b (P := 0 ≤ (nI j) ∧ (nI j) ≤ 35) (fun b49 => ?_) (fun b49 => ?_)
          · refine lv_if_ne (tgt := 59) hx hb dX7_put_52 (by decide) (fun c52 => ?_) (fun c52 => ?_)
            · refine lv_iload_n hx hb dX7_put_59 rfl (lv_at hl 0 rfl) ?_
              refine lv_if_eq (tgt := 67) hx hb dX7_put_60 (by decide) (fun c60 => ?_) (fun c60 => ?_)
              · exact absurd c60 (by decide)
              · refine lv_iconst (v := 2) hx hb dX7_put_63 (by decide) ?_
                refine lv_goto (tgt := 68) hx hb dX7_put_64 (by decide) ?_
                have hPc := hP.sub (ws' := [(h0, .inr (4, [.int th, .ref ow, .int re, .int (nI w), .int mt, .ref cl, .ref tu, .int (nI k), .ref lk, .ref f1, .ref s2, .ref ms, .ref nx, .ref bs, .int fd])), (ow, .inl (cJ, 3, .inr (.inl fo))), (cl, .inl (cI, 36, .inl cs)), (tu, .inl (cI, 36, .inl ts)), (lk, .inl (cJ, 3, .inr (.inl lo))), (f1, .inl (cJ, 6, .inr (.inl ff))), (s2, .inl (cJ, 6, .inr (.inl sf))), (ms, .inl (cI, 6, .inl mm)), (nx, .inl (cI, 6, .inl nf)), (bs, .inl (cI, 6, .inl bf))]) [0, 1, 2, 3, 4, 5, 6, 7, 8, 9] rfl
                have hDc := hD.sub (ws' := [(h0, .inr (4, [.int th, .ref ow, .int re, .int (nI w), .int mt, .ref cl, .ref tu, .int (nI k), .ref lk, .ref f1, .ref s2, .ref ms, .ref nx, .ref bs, .int fd])), (ow, .inl (cJ, 3, .inr (.inl fo))), (cl, .inl (cI, 36, .inl cs)), (tu, .inl (cI, 36, .inl ts)), (lk, .inl (cJ, 3, .inr (.inl lo))), (f1, .inl (cJ, 6, .inr (.inl ff))), (s2, .inl (cJ, 6, .inr (.inl sf))), (ms, .inl (cI, 6, .inl mm)), (nx, .inl (cI, 6, .inl nf)), (bs, .inl (cI, 6, .inl bf))]) [0, 1, 2, 3, 4, 5, 6, 7, 8, 9] (by decide) rfl
                have hFc := va_free (wc := [(h0, .inr (4, [.int th, .ref ow, .int re, .int (nI w), .int mt, .ref cl, .ref tu, .int (nI k), .ref lk, .ref f1, .ref s2, .ref ms, .ref nx, .ref bs, .int fd])), (ow, .inl (cJ, 3, .inr (.inl fo))), (cl, .inl (cI, 36, .inl cs)), (tu, .inl (cI, 36, .inl ts)), (lk, .inl (cJ, 3, .inr (.inl lo))), (f1, .inl (cJ, 6, .inr (.inl ff))), (s2, .inl (cJ, 6, .inr (.inl sf))), (ms, .inl (cI, 6, .inl mm)), (nx, .inl (cI, 6, .inl nf)), (bs, .inl (cI, 6, .inl bf))]) hD hS hA [0, 1, 2, 3, 4, 5, 6, 7, 8, 9] rfl
                refine va_calli (va_runV (As := [.int 2]) (rest := []) ⟨hx, hb, hml, hown, hts⟩ (c_X7_goesWell l D cI cJ s.heap.size  h0 ow cl tu lk f1 s2 ms nx bs th re mt fd w k fo lo ff sf cs ts mm nf bf 2) (cwV 1 hts gX7_put_X7_goesWell rfl rfl rfl (by decide +kernel) ⟨Nat.le_of_ble_eq_true rfl, Nat.le_of_ble_eq_true rfl⟩) ⟨pv_blind, va_recv hK hPc (ci := 4) (q0 := 0) rfl rfl, fun U hU hW => ⟨rfl, by rw [hU], by rw [hU]; exact hPc, va_K.moved hW.alike hK, hDc.weaken (fun _ _ _ _ => trivial)⟩⟩ rfl rfl hl.1 rfl (lv_room (Nat.le_of_ble_eq_true rfl)) dX7_put_68 ⟨(Nat.le_of_ble_eq_true rfl), (Nat.le_of_ble_eq_true rfl)⟩) hS (fun q _ h => hFc q h) hFc (fun r68 u t9 H1 locs ht9 hvm hw68 hB hz1 hk1 hS => ?_)
                try dsimp only at hw68
                obtain ⟨hP1, hK1, hD1⟩ := hB
                rw [ht9] at hP1
                obtain ⟨hP, hD⟩ := va_join (wr := []) (w1 := [(h0, .inr (4, [.int 2, .ref ow, .int re, .int (nI w), .int mt, .ref cl, .ref tu, .int (nI k), .ref lk, .ref f1, .ref s2, .ref ms, .ref nx, .ref bs, .int fd])), (ow, .inl (cJ, 3, .inr (.inl fo))), (cl, .inl (cI, 36, .inl cs)), (tu, .inl (cI, 36, .inl ts)), (lk, .inl (cJ, 3, .inr (.inl lo))), (f1, .inl (cJ, 6, .inr (.inl ff))), (s2, .inl (cJ, 6, .inr (.inl sf))), (ms, .inl (cI, 6, .inl mm)), (nx, .inl (cI, 6, .inl nf)), (bs, .inl (cI, 6, .inl bf))]) hP hD [0, 1, 2, 3, 4, 5, 6, 7, 8, 9] [] rfl rfl (by decide) (by decide) hk1 hFc hP1 hD1
                generalize H1 = H at hP hS ⊢
                have hP : va_P D vwCl [(h0, .inr (4, [.int 2, .ref ow, .int re, .int (nI w), .int mt, .ref cl, .ref tu, .int (nI k), .ref lk, .ref f1, .ref s2, .ref ms, .ref nx, .ref bs, .int fd])), (ow, .inl (cJ, 3, .inr (.inl fo))), (cl, .inl (cI, 36, .inl cs)), (tu, .inl (cI, 36, .inl ts)), (lk, .inl (cJ, 3, .inr (.inl lo))), (f1, .inl (cJ, 6, .inr (.inl ff))), (s2, .inl (cJ, 6, .inr (.inl sf))), (ms, .inl (cI, 6, .inl mm)), (nx, .inl (cI, 6, .inl nf)), (bs, .inl (cI, 6, .inl bf))] H := hP.sub (ws' := [(h0, .inr (4, [.int 2, .ref ow, .int re, .int (nI w), .int mt, .ref cl, .ref tu, .int (nI k), .ref lk, .ref f1, .ref s2, .ref ms, .ref nx, .ref bs, .int fd])), (ow, .inl (cJ, 3, .inr (.inl fo))), (cl, .inl (cI, 36, .inl cs)), (tu, .inl (cI, 36, .inl ts)), (lk, .inl (cJ, 3, .inr (.inl lo))), (f1, .inl (cJ, 6, .inr (.inl ff))), (s2, .inl (cJ, 6, .inr (.inl sf))), (ms, .inl (cI, 6, .inl mm)), (nx, .inl (cI, 6, .inl nf)), (bs, .inl (cI, 6, .inl bf))]) [0, 1, 2, 3, 4, 5, 6, 7, 8, 9] rfl
                have hD : va_D A [(h0, .inr (4, [.int 2, .ref ow, .int re, .int (nI w), .int mt, .ref cl, .ref tu, .int (nI k), .ref lk, .ref f1, .ref s2, .ref ms, .ref nx, .ref bs, .int fd])), (ow, .inl (cJ, 3, .inr (.inl fo))), (cl, .inl (cI, 36, .inl cs)), (tu, .inl (cI, 36, .inl ts)), (lk, .inl (cJ, 3, .inr (.inl lo))), (f1, .inl (cJ, 6, .inr (.inl ff))), (s2, .inl (cJ, 6, .inr (.inl sf))), (ms, .inl (cI, 6, .inl mm)), (nx, .inl (cI, 6, .inl nf)), (bs, .inl (cI, 6, .inl bf))] := hD.sub (ws' := [(h0, .inr (4, [.int 2, .ref ow, .int re, .int (nI w), .int mt, .ref cl, .ref tu, .int (nI k), .ref lk, .ref f1, .ref s2, .ref ms, .ref nx, .ref bs, .int fd])), (ow, .inl (cJ, 3, .inr (.inl fo))), (cl, .inl (cI, 36, .inl cs)), (tu, .inl (cI, 36, .inl ts)), (lk, .inl (cJ, 3, .inr (.inl lo))), (f1, .inl (cJ, 6, .inr (.inl ff))), (s2, .inl (cJ, 6, .inr (.inl sf))), (ms, .inl (cI, 6, .inl mm)), (nx, .inl (cI, 6, .inl nf)), (bs, .inl (cI, 6, .inl bf))]) [0, 1, 2, 3, 4, 5, 6, 7, 8, 9] (by decide) rfl
                obtain rfl := hw68.symm
                refine pk_b (P := 2 = 0) (fun b68 => ?_) (fun b68 => ?_)
                · refine lv_if_ne (tgt := 76) hx hb dX7_put_71 (by decide) (fun c71 => ?_) (fun c71 => ?_)
                  · refine lv_aload_n hx hb dX7_put_76 rfl (lv_at hl 1 rfl) ?_
                    refine va_get (D := D) (ci := 4) (v := .ref ow) (C := RX7) (T := TX7) (N := 15) hx hb hts hinX7 hown hK hP 0 rfl rfl 1 (by decide) hfl7 (fun _ h9 => h9) rfl dX7_put_77 ?_
                    refine lv_aload_n hx hb dX7_put_80 rfl (lv_at hl 1 rfl) ?_
                    refine va_get (D := D) (ci := 4) (v := .int (nI w)) (C := RX7) (T := TX7) (N := 15) hx hb hts hinX7 hown hK hP 0 rfl rfl 3 (by decide) hfl13 (fun _ h9 => h9) rfl dX7_put_81 ?_
                    refine lv_dup2_11 hx hb dX7_put_84 rfl rfl ?_
                    refine va_lald hx hb hK hP 1 1 rfl rfl (vp_in_nI (n := w) (N := 3) (by omega) (by decide)) dX7_put_85 ?_
                    refine pk_tl (y := (fo w)) (congrArg fo (pk_cl w)) ?_
                    refine lv_lconst (v := 1) hx hb dX7_put_86 (by decide) ?_
                    refine lv_iload_n hx hb dX7_put_87 rfl (lv_at hl 2 rfl) ?_
                    refine lv_lshl (v := jshl 1 (nI j)) hx hb dX7_put_88 rfl ?_
                    refine lv_topl (fun x88 ex88 => ?_)
                    refine lv_lor hx hb dX7_put_89 ?_
                    refine lv_topl (fun x89 ex89 => ?_)
                    refine va_last hx hb hK hP hD hS 1 1 rfl rfl (vp_in_nI (n := w) (N := 3) (by omega) (by decide)) dX7_put_90 (fun H locs hP hD hS => ?_)
                    have hu90 : ((nI w) : Int32).toNatClampNeg = w := pk_cl w
                    rw [hu90] at hP hD
                    have hP : va_P D vwCl [(h0, .inr (4, [.int 2, .ref ow, .int re, .int (nI w), .int mt, .ref cl, .ref tu, .int (nI k), .ref lk, .ref f1, .ref s2, .ref ms, .ref nx, .ref bs, .int fd])), (ow, .inl (cJ, 3, .inr (.inl (vp_updL fo w x89)))), (cl, .inl (cI, 36, .inl cs)), (tu, .inl (cI, 36, .inl ts)), (lk, .inl (cJ, 3, .inr (.inl lo))), (f1, .inl (cJ, 6, .inr (.inl ff))), (s2, .inl (cJ, 6, .inr (.inl sf))), (ms, .inl (cI, 6, .inl mm)), (nx, .inl (cI, 6, .inl nf)), (bs, .inl (cI, 6, .inl bf))] H := hP
                    have hD : va_D A [(h0, .inr (4, [.int 2, .ref ow, .int re, .int (nI w), .int mt, .ref cl, .ref tu, .int (nI k), .ref lk, .ref f1, .ref s2, .ref ms, .ref nx, .ref bs, .int fd])), (ow, .inl (cJ, 3, .inr (.inl (vp_updL fo w x89)))), (cl, .inl (cI, 36, .inl cs)), (tu, .inl (cI, 36, .inl ts)), (lk, .inl (cJ, 3, .inr (.inl lo))), (f1, .inl (cJ, 6, .inr (.inl ff))), (s2, .inl (cJ, 6, .inr (.inl sf))), (ms, .inl (cI, 6, .inl mm)), (nx, .inl (cI, 6, .inl nf)), (bs, .inl (cI, 6, .inl bf))] := hD
                    refine lv_aload_n hx hb dX7_put_91 rfl (lv_at hl 1 rfl) ?_
                    refine va_get (D := D) (ci := 4) (v := .ref cl) (C := RX7) (T := TX7) (N := 15) hx hb hts hinX7 hown hK hP 0 rfl rfl 5 (by decide) hfl17 (fun _ h9 => h9) rfl dX7_put_92 ?_
                    refine lv_aload_n hx hb dX7_put_95 rfl (lv_at hl 1 rfl) ?_
                    refine va_get (D := D) (ci := 4) (v := .int (nI k)) (C := RX7) (T := TX7) (N := 15) hx hb hts hinX7 hown hK hP 0 rfl rfl 7 (by decide) hfl83 (fun _ h9 => h9) rfl dX7_put_96 ?_
                    refine lv_iload_n hx hb dX7_put_99 rfl (lv_at hl 2 rfl) ?_
                    refine va_iast hx hb hK hP hD hS 2 0 rfl rfl (vp_in_nI (n := k) (N := 36) (by omega) (by decide)) dX7_put_100 (fun H locs hP hD hS => ?_)
                    have hu100 : ((nI k) : Int32).toNatClampNeg = k := pk_cl k
                    rw [hu100] at hP hD
                    have hP : va_P D vwCl [(h0, .inr (4, [.int 2, .ref ow, .int re, .int (nI w), .int mt, .ref cl, .ref tu, .int (nI k), .ref lk, .ref f1, .ref s2, .ref ms, .ref nx, .ref bs, .int fd])), (ow, .inl (cJ, 3, .inr (.inl (vp_updL fo w x89)))), (cl, .inl (cI, 36, .inl (upd cs k (nI j)))), (tu, .inl (cI, 36, .inl ts)), (lk, .inl (cJ, 3, .inr (.inl lo))), (f1, .inl (cJ, 6, .inr (.inl ff))), (s2, .inl (cJ, 6, .inr (.inl sf))), (ms, .inl (cI, 6, .inl mm)), (nx, .inl (cI, 6, .inl nf)), (bs, .inl (cI, 6, .inl bf))] H := hP
                    have hD : va_D A [(h0, .inr (4, [.int 2, .ref ow, .int re, .int (nI w), .int mt, .ref cl, .ref tu, .int (nI k), .ref lk, .ref f1, .ref s2, .ref ms, .ref nx, .ref bs, .int fd])), (ow, .inl (cJ, 3, .inr (.inl (vp_updL fo w x89)))), (cl, .inl (cI, 36, .inl (upd cs k (nI j)))), (tu, .inl (cI, 36, .inl ts)), (lk, .inl (cJ, 3, .inr (.inl lo))), (f1, .inl (cJ, 6, .inr (.inl ff))), (s2, .inl (cJ, 6, .inr (.inl sf))), (ms, .inl (cI, 6, .inl mm)), (nx, .inl (cI, 6, .inl nf)), (bs, .inl (cI, 6, .inl bf))] := hD
                    refine lv_aload_n hx hb dX7_put_101 rfl (lv_at hl 1 rfl) ?_
                    refine va_get (D := D) (ci := 4) (v := .ref tu) (C := RX7) (T := TX7) (N := 15) hx hb hts hinX7 hown hK hP 0 rfl rfl 6 (by decide) hfl21 (fun _ h9 => h9) rfl dX7_put_102 ?_
                    refine lv_aload_n hx hb dX7_put_105 rfl (lv_at hl 1 rfl) ?_
                    refine va_get (D := D) (ci := 4) (v := .int (nI k)) (C := RX7) (T := TX7) (N := 15) hx hb hts hinX7 hown hK hP 0 rfl rfl 7 (by decide) hfl83 (fun _ h9 => h9) rfl dX7_put_106 ?_
                    refine lv_iconst (v := (-1)) hx hb dX7_put_109 (by decide) ?_
                    refine va_iast hx hb hK hP hD hS 3 0 rfl rfl (vp_in_nI (n := k) (N := 36) (by omega) (by decide)) dX7_put_110 (fun H locs hP hD hS => ?_)
                    have hu110 : ((nI k) : Int32).toNatClampNeg = k := pk_cl k
                    rw [hu110] at hP hD
                    have hP : va_P D vwCl [(h0, .inr (4, [.int 2, .ref ow, .int re, .int (nI w), .int mt, .ref cl, .ref tu, .int (nI k), .ref lk, .ref f1, .ref s2, .ref ms, .ref nx, .ref bs, .int fd])), (ow, .inl (cJ, 3, .inr (.inl (vp_updL fo w x89)))), (cl, .inl (cI, 36, .inl (upd cs k (nI j)))), (tu, .inl (cI, 36, .inl (upd ts k (-1)))), (lk, .inl (cJ, 3, .inr (.inl lo))), (f1, .inl (cJ, 6, .inr (.inl ff))), (s2, .inl (cJ, 6, .inr (.inl sf))), (ms, .inl (cI, 6, .inl mm)), (nx, .inl (cI, 6, .inl nf)), (bs, .inl (cI, 6, .inl bf))] H := hP
                    have hD : va_D A [(h0, .inr (4, [.int 2, .ref ow, .int re, .int (nI w), .int mt, .ref cl, .ref tu, .int (nI k), .ref lk, .ref f1, .ref s2, .ref ms, .ref nx, .ref bs, .int fd])), (ow, .inl (cJ, 3, .inr (.inl (vp_updL fo w x89)))), (cl, .inl (cI, 36, .inl (upd cs k (nI j)))), (tu, .inl (cI, 36, .inl (upd ts k (-1)))), (lk, .inl (cJ, 3, .inr (.inl lo))), (f1, .inl (cJ, 6, .inr (.inl ff))), (s2, .inl (cJ, 6, .inr (.inl sf))), (ms, .inl (cI, 6, .inl mm)), (nx, .inl (cI, 6, .inl nf)), (bs, .inl (cI, 6, .inl bf))] := hD
                    refine lv_aload_n hx hb dX7_put_111 rfl (lv_at hl 1 rfl) ?_
                    refine lv_dup hx hb dX7_put_112 rfl ?_
                    refine va_get (D := D) (ci := 4) (v := .int (nI k)) (C := RX7) (T := TX7) (N := 15) hx hb hts hinX7 hown hK hP 0 rfl rfl 7 (by decide) hfl83 (fun _ h9 => h9) rfl dX7_put_113 ?_
                    refine lv_iconst (v := 1) hx hb dX7_put_116 (by decide) ?_
                    refine lv_iadd hx hb dX7_put_117 ?_
                    refine pk_ti (y := nI (k + 1)) (nI_add k 1) ?_
                    refine va_put (D := D) (ci := 4) (v := .int (nI (k + 1))) (ty := .int) (C := RX7) (T := TX7) (N := 15) hx hb hts hinX7 tyX7 tyX7_ok nmX7 hown hK hP hD hS 0 rfl rfl 7 (by decide) hfl83 (fun _ h9 => h9) rfl (by decide +kernel) rfl rfl (Nat.le_of_ble_eq_true rfl) dX7_put_118 (fun H locs hP hD hS => ?_)
                    have hP : va_P D vwCl [(h0, .inr (4, [.int 2, .ref ow, .int re, .int (nI w), .int mt, .ref cl, .ref tu, .int (nI (k + 1)), .ref lk, .ref f1, .ref s2, .ref ms, .ref nx, .ref bs, .int fd])), (ow, .inl (cJ, 3, .inr (.inl (vp_updL fo w x89)))), (cl, .inl (cI, 36, .inl (upd cs k (nI j)))), (tu, .inl (cI, 36, .inl (upd ts k (-1)))), (lk, .inl (cJ, 3, .inr (.inl lo))), (f1, .inl (cJ, 6, .inr (.inl ff))), (s2, .inl (cJ, 6, .inr (.inl sf))), (ms, .inl (cI, 6, .inl mm)), (nx, .inl (cI, 6, .inl nf)), (bs, .inl (cI, 6, .inl bf))] H := hP
                    have hD : va_D A [(h0, .inr (4, [.int 2, .ref ow, .int re, .int (nI w), .int mt, .ref cl, .ref tu, .int (nI (k + 1)), .ref lk, .ref f1, .ref s2, .ref ms, .ref nx, .ref bs, .int fd])), (ow, .inl (cJ, 3, .inr (.inl (vp_updL fo w x89)))), (cl, .inl (cI, 36, .inl (upd cs k (nI j)))), (tu, .inl (cI, 36, .inl (upd ts k (-1)))), (lk, .inl (cJ, 3, .inr (.inl lo))), (f1, .inl (cJ, 6, .inr (.inl ff))), (s2, .inl (cJ, 6, .inr (.inl sf))), (ms, .inl (cI, 6, .inl mm)), (nx, .inl (cI, 6, .inl nf)), (bs, .inl (cI, 6, .inl bf))] := hD
                    refine lv_aload_n hx hb dX7_put_121 rfl (lv_at hl 1 rfl) ?_
                    refine lv_iconst (v := 1) hx hb dX7_put_122 (by decide) ?_
                    refine va_put (D := D) (ci := 4) (v := .int 1) (ty := .boolean) (C := RX7) (T := TX7) (N := 15) hx hb hts hinX7 tyX7 tyX7_ok nmX7 hown hK hP hD hS 0 rfl rfl 4 (by decide) hfl76 (fun _ h9 => h9) rfl (by decide +kernel) rfl rfl (Nat.le_of_ble_eq_true rfl) dX7_put_123 (fun H locs hP hD hS => ?_)
                    have hP : va_P D vwCl [(h0, .inr (4, [.int 2, .ref ow, .int re, .int (nI w), .int 1, .ref cl, .ref tu, .int (nI (k + 1)), .ref lk, .ref f1, .ref s2, .ref ms, .ref nx, .ref bs, .int fd])), (ow, .inl (cJ, 3, .inr (.inl (vp_updL fo w x89)))), (cl, .inl (cI, 36, .inl (upd cs k (nI j)))), (tu, .inl (cI, 36, .inl (upd ts k (-1)))), (lk, .inl (cJ, 3, .inr (.inl lo))), (f1, .inl (cJ, 6, .inr (.inl ff))), (s2, .inl (cJ, 6, .inr (.inl sf))), (ms, .inl (cI, 6, .inl mm)), (nx, .inl (cI, 6, .inl nf)), (bs, .inl (cI, 6, .inl bf))] H := hP
                    have hD : va_D A [(h0, .inr (4, [.int 2, .ref ow, .int re, .int (nI w), .int 1, .ref cl, .ref tu, .int (nI (k + 1)), .ref lk, .ref f1, .ref s2, .ref ms, .ref nx, .ref bs, .int fd])), (ow, .inl (cJ, 3, .inr (.inl (vp_updL fo w x89)))), (cl, .inl (cI, 36, .inl (upd cs k (nI j)))), (tu, .inl (cI, 36, .inl (upd ts k (-1)))), (lk, .inl (cJ, 3, .inr (.inl lo))), (f1, .inl (cJ, 6, .inr (.inl ff))), (s2, .inl (cJ, 6, .inr (.inl sf))), (ms, .inl (cI, 6, .inl mm)), (nx, .inl (cI, 6, .inl nf)), (bs, .inl (cI, 6, .inl bf))] := hD
                    refine lv_aload_n hx hb dX7_put_126 rfl (lv_at hl 1 rfl) ?_
                    refine va_get (D := D) (ci := 4) (v := .ref ow) (C := RX7) (T := TX7) (N := 15) hx hb hts hinX7 hown hK hP 0 rfl rfl 1 (by decide) hfl7 (fun _ h9 => h9) rfl dX7_put_127 ?_
                    refine lv_aload_n hx hb dX7_put_130 rfl (lv_at hl 1 rfl) ?_
                    refine va_get (D := D) (ci := 4) (v := .int (nI w)) (C := RX7) (T := TX7) (N := 15) hx hb hts hinX7 hown hK hP 0 rfl rfl 3 (by decide) hfl13 (fun _ h9 => h9) rfl dX7_put_131 ?_
                    refine va_lald hx hb hK hP 1 1 rfl rfl (vp_in_nI (n := w) (N := 3) (by omega) (by decide)) dX7_put_134 ?_
                    refine pk_tl (y := ((vp_updL fo w x89) w)) (congrArg (vp_updL fo w x89) (pk_cl w)) ?_
                    refine vp_callSi (W.runS (As := [.long ((vp_updL fo w x89) w)]) (rest := []) ⟨hx, hb, hml, hown, hts⟩ (c_X7_hasLine l ((vp_updL fo w x89) w)) (va_cwS 1 hts gX7_put_X7_hasLine rfl rfl rfl (by decide +kernel) ⟨Nat.le_of_ble_eq_true rfl, Nat.le_of_ble_eq_true rfl⟩) ⟨px_blind0, fun U hU hW => ⟨rfl, trivial⟩⟩ rfl rfl hl.1 rfl (lv_room (Nat.le_of_ble_eq_true rfl)) dX7_put_135 ⟨(Nat.le_of_ble_eq_true rfl), (Nat.le_of_ble_eq_true rfl)⟩) (fun r135 er135 => ?_)
                    obtain rfl := er135.symm
                    refine pk_b (P := 0 < msum ((vp_updL fo w x89) w) 0 5 32) (fun b135 => ?_) (fun b135 => ?_)
                    · refine lv_if_eq (tgt := 154) hx hb dX7_put_138 (by decide) (fun c138 => ?_) (fun c138 => ?_)
                      · exact absurd c138 (by decide)
                      · refine lv_aload_n hx hb dX7_put_141 rfl (lv_at hl 1 rfl) ?_
                        refine lv_aload_n hx hb dX7_put_142 rfl (lv_at hl 1 rfl) ?_
                        refine va_get (D := D) (ci := 4) (v := .int (nI w)) (C := RX7) (T := TX7) (N := 15) hx hb hts hinX7 hown hK hP 0 rfl rfl 3 (by decide) hfl13 (fun _ h9 => h9) rfl dX7_put_143 ?_
                        refine va_put (D := D) (ci := 4) (v := .int (nI w)) (ty := .int) (C := RX7) (T := TX7) (N := 15) hx hb hts hinX7 tyX7 tyX7_ok nmX7 hown hK hP hD hS 0 rfl rfl 2 (by decide) hfl73 (fun _ h9 => h9) rfl (by decide +kernel) rfl rfl (Nat.le_of_ble_eq_true rfl) dX7_put_146 (fun H locs hP hD hS => ?_)
                        have hP : va_P D vwCl [(h0, .inr (4, [.int 2, .ref ow, .int (nI w), .int (nI w), .int 1, .ref cl, .ref tu, .int (nI (k + 1)), .ref lk, .ref f1, .ref s2, .ref ms, .ref nx, .ref bs, .int fd])), (ow, .inl (cJ, 3, .inr (.inl (vp_updL fo w x89)))), (cl, .inl (cI, 36, .inl (upd cs k (nI j)))), (tu, .inl (cI, 36, .inl (upd ts k (-1)))), (lk, .inl (cJ, 3, .inr (.inl lo))), (f1, .inl (cJ, 6, .inr (.inl ff))), (s2, .inl (cJ, 6, .inr (.inl sf))), (ms, .inl (cI, 6, .inl mm)), (nx, .inl (cI, 6, .inl nf)), (bs, .inl (cI, 6, .inl bf))] H := hP
                        have hD : va_D A [(h0, .inr (4, [.int 2, .ref ow, .int (nI w), .int (nI w), .int 1, .ref cl, .ref tu, .int (nI (k + 1)), .ref lk, .ref f1, .ref s2, .ref ms, .ref nx, .ref bs, .int fd])), (ow, .inl (cJ, 3, .inr (.inl (vp_updL fo w x89)))), (cl, .inl (cI, 36, .inl (upd cs k (nI j)))), (tu, .inl (cI, 36, .inl (upd ts k (-1)))), (lk, .inl (cJ, 3, .inr (.inl lo))), (f1, .inl (cJ, 6, .inr (.inl ff))), (s2, .inl (cJ, 6, .inr (.inl sf))), (ms, .inl (cI, 6, .inl mm)), (nx, .inl (cI, 6, .inl nf)), (bs, .inl (cI, 6, .inl bf))] := hD
                        refine lv_aload_n hx hb dX7_put_149 rfl (lv_at hl 1 rfl) ?_
                        refine lv_iconst (v := 0) hx hb dX7_put_150 (by decide) ?_
                        refine va_put (D := D) (ci := 4) (v := .int 0) (ty := .boolean) (C := RX7) (T := TX7) (N := 15) hx hb hts hinX7 tyX7 tyX7_ok nmX7 hown hK hP hD hS 0 rfl rfl 4 (by decide) hfl76 (fun _ h9 => h9) rfl (by decide +kernel) rfl rfl (Nat.le_of_ble_eq_true rfl) dX7_put_151 (fun H locs hP hD hS => ?_)
                        have hP : va_P D vwCl [(h0, .inr (4, [.int 2, .ref ow, .int (nI w), .int (nI w), .int 0, .ref cl, .ref tu, .int (nI (k + 1)), .ref lk, .ref f1, .ref s2, .ref ms, .ref nx, .ref bs, .int fd])), (ow, .inl (cJ, 3, .inr (.inl (vp_updL fo w x89)))), (cl, .inl (cI, 36, .inl (upd cs k (nI j)))), (tu, .inl (cI, 36, .inl (upd ts k (-1)))), (lk, .inl (cJ, 3, .inr (.inl lo))), (f1, .inl (cJ, 6, .inr (.inl ff))), (s2, .inl (cJ, 6, .inr (.inl sf))), (ms, .inl (cI, 6, .inl mm)), (nx, .inl (cI, 6, .inl nf)), (bs, .inl (cI, 6, .inl bf))] H := hP
                        have hD : va_D A [(h0, .inr (4, [.int 2, .ref ow, .int (nI w), .int (nI w), .int 0, .ref cl, .ref tu, .int (nI (k + 1)), .ref lk, .ref f1, .ref s2, .ref ms, .ref nx, .ref bs, .int fd])), (ow, .inl (cJ, 3, .inr (.inl (vp_updL fo w x89)))), (cl, .inl (cI, 36, .inl (upd cs k (nI j)))), (tu, .inl (cI, 36, .inl (upd ts k (-1)))), (lk, .inl (cJ, 3, .inr (.inl lo))), (f1, .inl (cJ, 6, .inr (.inl ff))), (s2, .inl (cJ, 6, .inr (.inl sf))), (ms, .inl (cI, 6, .inl mm)), (nx, .inl (cI, 6, .inl nf)), (bs, .inl (cI, 6, .inl bf))] := hD
                        refine lv_aload_n hx hb dX7_put_154 rfl (lv_at hl 1 rfl) ?_
                        refine va_get (D := D) (ci := 4) (v := .int (nI w)) (C := RX7) (T := TX7) (N := 15) hx hb hts hinX7 hown hK hP 0 rfl rfl 2 (by decide) hfl73 (fun _ h9 => h9) rfl dX7_put_155 ?_
                        obtain rfl := ex88.symm; obtain rfl := ex89.symm
                        refine W.iret (v := (nI w)) hx hb hr (fun tt ht hW => ⟨⟨(nI w), (), rfl, ?_, by rw [ht]; exact hP, va_K.moved hW.alike hK, hD⟩, hS.F ht⟩) hS.2.2 dX7_put_158
                        exact rfl
                    · refine lv_if_eq (tgt := 154) hx hb dX7_put_138 (by decide) (fun c138 => ?_) (fun c138 => ?_)
                      · refine lv_aload_n hx hb dX7_put_154 rfl (lv_at hl 1 rfl) ?_
                        refine va_get (D := D) (ci := 4) (v := .int re) (C := RX7) (T := TX7) (N := 15) hx hb hts hinX7 hown hK hP 0 rfl rfl 2 (by decide) hfl73 (fun _ h9 => h9) rfl dX7_put_155 ?_
                        obtain rfl := ex88.symm; obtain rfl := ex89.symm
                        refine W.iret (v := re) hx hb hr (fun tt ht hW => ⟨⟨re, (), rfl, ?_, by rw [ht]; exact hP, va_K.moved hW.alike hK, hD⟩, hS.F ht⟩) hS.2.2 dX7_put_158
                        exact rfl
                      · exact absurd c138 (by decide)
                  · exact absurd c71 (by decide)
                · refine lv_if_ne (tgt := 76) hx hb dX7_put_71 (by decide) (fun c71 => ?_) (fun c71 => ?_)
                  · exact absurd c71 (by decide)
                  · refine lv_iconst (v := 0) hx hb dX7_put_74 (by decide) ?_
                    refine W.iret (v := 0) hx hb hr (fun tt ht hW => ⟨⟨0, (), rfl, ?_, by rw [ht]; exact hP, va_K.moved hW.alike hK, hD⟩, hS.F ht⟩) hS.2.2 dX7_put_75
                    exact rfl
            · exact absurd c52 (by decide)
          · exact absurd (cell_ok hj) b49
        · refine lv_aload_n hx hb dX7_put_21 rfl (lv_at hl 0 rfl) ?_
          refine va_get (D := D) (ci := 4) (v := .ref ow) (C := RX7) (T := TX7) (N := 15) hx hb hts hinX7 hown hK hP 0 rfl rfl 1 (by decide) hfl7 (fun _ h9 => h9) rfl dX7_put_22 ?_
          refine lv_iconst (v := 1) hx hb dX7_put_25 (by decide) ?_
          refine va_lald hx hb hK hP 1 1 rfl rfl (vp_in_nI (n := 1) (N := 3) (by omega) (by decide)) dX7_put_26 ?_
          refine pk_tl (y := (fo 1)) (congrArg fo (pk_cl 1)) ?_
          refine lv_aload_n hx hb dX7_put_27 rfl (lv_at hl 0 rfl) ?_
          refine va_get (D := D) (ci := 4) (v := .ref ow) (C := RX7) (T := TX7) (N := 15) hx hb hts hinX7 hown hK hP 0 rfl rfl 1 (by decide) hfl7 (fun _ h9 => h9) rfl dX7_put_28 ?_
          refine lv_iconst (v := 2) hx hb dX7_put_31 (by decide) ?_
          refine va_lald hx hb hK hP 1 1 rfl rfl (vp_in_nI (n := 2) (N := 3) (by omega) (by decide)) dX7_put_32 ?_
          refine pk_tl (y := (fo 2)) (congrArg fo (pk_cl 2)) ?_
          refine lv_lor hx hb dX7_put_33 ?_
          refine lv_topl (fun x33 ex33 => ?_)
          refine lv_iload_n hx hb dX7_put_34 rfl (lv_at hl 1 rfl) ?_
          refine vp_callSi (W.runS (As := [.long x33, .int (nI j)]) (rest := []) ⟨hx, hb, hml, hown, hts⟩ (c_X7_has l x33 j (by omega)) (va_cwS 2 hts gX7_put_X7_has rfl rfl rfl (by decide +kernel) ⟨Nat.le_of_ble_eq_true rfl, Nat.le_of_ble_eq_true rfl⟩) ⟨px_blind0, fun U hU hW => ⟨rfl, trivial⟩⟩ rfl rfl hl.1 rfl (lv_room (Nat.le_of_ble_eq_true rfl)) dX7_put_35 ⟨(Nat.le_of_ble_eq_true rfl), (Nat.le_of_ble_eq_true rfl)⟩) (fun r35 er35 => ?_)
          obtain rfl := er35.symm
          refine pk_b (P := bt x33 j = true) (fun b35 => ?_) (fun b35 => ?_)
          · refine lv_if_eq (tgt := 45) hx hb dX7_put_38 (by decide) (fun c38 => ?_) (fun c38 => ?_)
            · exact absurd c38 (by decide)
            · refine lv_iconst (v := 1) hx hb dX7_put_41 (by decide) ?_
              refine lv_goto (tgt := 46) hx hb dX7_put_42 (by decide) ?_
              refine lv_istore_n (lv' := [(2, .int 1), (0, .ref h0), (1, .int (nI j))]) hx hb dX7_put_46 rfl hl (by decide) rfl (fun ls hl => ?_)
              refine lv_aload_n hx hb dX7_put_47 rfl (lv_at hl 1 rfl) ?_
              refine lv_iload_n hx hb dX7_put_48 rfl (lv_at hl 2 rfl) ?_
              refine vp_callSi (W.runS (As := [.int (nI j)]) (rest := [.ref h0]) ⟨hx, hb, hml, hown, hts⟩ (c_X7_isCell l (nI j)) (va_cwS 1 hts gX7_put_X7_isCell rfl rfl rfl (by decide +kernel) ⟨Nat.le_of_ble_eq_true rfl, Nat.le_of_ble_eq_true rfl⟩) ⟨px_blind0, fun U hU hW => ⟨rfl, trivial⟩⟩ rfl rfl hl.1 rfl (lv_room (Nat.le_of_ble_eq_true rfl)) dX7_put_49 ⟨(Nat.le_of_ble_eq_true rfl), (Nat.le_of_ble_eq_true rfl)⟩) (fun r49 er49 => ?_)
              obtain rfl := er49.symm
              refine pk_b (P := 0 ≤ (nI j) ∧ (nI j) ≤ 35) (fun b49 => ?_) (fun b49 => ?_)
              · refine lv_if_ne (tgt := 59) hx hb dX7_put_52 (by decide) (fun c52 => ?_) (fun c52 => ?_)
                · refine lv_iload_n hx hb dX7_put_59 rfl (lv_at hl 0 rfl) ?_
                  refine lv_if_eq (tgt := 67) hx hb dX7_put_60 (by decide) (fun c60 => ?_) (fun c60 => ?_)
                  · exact absurd c60 (by decide)
                  · refine lv_iconst (v := 2) hx hb dX7_put_63 (by decide) ?_
                    refine lv_goto (tgt := 68) hx hb dX7_put_64 (by decide) ?_
                    have hPc := hP.sub (ws' := [(h0, .inr (4, [.int th, .ref ow, .int re, .int (nI w), .int mt, .ref cl, .ref tu, .int (nI k), .ref lk, .ref f1, .ref s2, .ref ms, .ref nx, .ref bs, .int fd])), (ow, .inl (cJ, 3, .inr (.inl fo))), (cl, .inl (cI, 36, .inl cs)), (tu, .inl (cI, 36, .inl ts)), (lk, .inl (cJ, 3, .inr (.inl lo))), (f1, .inl (cJ, 6, .inr (.inl ff))), (s2, .inl (cJ, 6, .inr (.inl sf))), (ms, .inl (cI, 6, .inl mm)), (nx, .inl (cI, 6, .inl nf)), (bs, .inl (cI, 6, .inl bf))]) [0, 1, 2, 3, 4, 5, 6, 7, 8, 9] rfl
                    have hDc := hD.sub (ws' := [(h0, .inr (4, [.int th, .ref ow, .int re, .int (nI w), .int mt, .ref cl, .ref tu, .int (nI k), .ref lk, .ref f1, .ref s2, .ref ms, .ref nx, .ref bs, .int fd])), (ow, .inl (cJ, 3, .inr (.inl fo))), (cl, .inl (cI, 36, .inl cs)), (tu, .inl (cI, 36, .inl ts)), (lk, .inl (cJ, 3, .inr (.inl lo))), (f1, .inl (cJ, 6, .inr (.inl ff))), (s2, .inl (cJ, 6, .inr (.inl sf))), (ms, .inl (cI, 6, .inl mm)), (nx, .inl (cI, 6, .inl nf)), (bs, .inl (cI, 6, .inl bf))]) [0, 1, 2, 3, 4, 5, 6, 7, 8, 9] (by decide) rfl
                    have hFc := va_free (wc := [(h0, .inr (4, [.int th, .ref ow, .int re, .int (nI w), .int mt, .ref cl, .ref tu, .int (nI k), .ref lk, .ref f1, .ref s2, .ref ms, .ref nx, .ref bs, .int fd])), (ow, .inl (cJ, 3, .inr (.inl fo))), (cl, .inl (cI, 36, .inl cs)), (tu, .inl (cI, 36, .inl ts)), (lk, .inl (cJ, 3, .inr (.inl lo))), (f1, .inl (cJ, 6, .inr (.inl ff))), (s2, .inl (cJ, 6, .inr (.inl sf))), (ms, .inl (cI, 6, .inl mm)), (nx, .inl (cI, 6, .inl nf)), (bs, .inl (cI, 6, .inl bf))]) hD hS hA [0, 1, 2, 3, 4, 5, 6, 7, 8, 9] rfl
                    refine va_calli (va_runV (As := [.int 2]) (rest := []) ⟨hx, hb, hml, hown, hts⟩ (c_X7_goesWell l D cI cJ s.heap.size  h0 ow cl tu lk f1 s2 ms nx bs th re mt fd w k fo lo ff sf cs ts mm nf bf 2) (cwV 1 hts gX7_put_X7_goesWell rfl rfl rfl (by decide +kernel) ⟨Nat.le_of_ble_eq_true rfl, Nat.le_of_ble_eq_true rfl⟩) ⟨pv_blind, va_recv hK hPc (ci := 4) (q0 := 0) rfl rfl, fun U hU hW => ⟨rfl, by rw [hU], by rw [hU]; exact hPc, va_K.moved hW.alike hK, hDc.weaken (fun _ _ _ _ => trivial)⟩⟩ rfl rfl hl.1 rfl (lv_room (Nat.le_of_ble_eq_true rfl)) dX7_put_68 ⟨(Nat.le_of_ble_eq_true rfl), (Nat.le_of_ble_eq_true rfl)⟩) hS (fun q _ h => hFc q h) hFc (fun r68 u t9 H1 locs ht9 hvm hw68 hB hz1 hk1 hS => ?_)
                    try dsimp only at hw68
                    obtain ⟨hP1, hK1, hD1⟩ := hB
                    rw [ht9] at hP1
                    obtain ⟨hP, hD⟩ := va_join (wr := []) (w1 := [(h0, .inr (4, [.int 2, .ref ow, .int re, .int (nI w), .int mt, .ref cl, .ref tu, .int (nI k), .ref lk, .ref f1, .ref s2, .ref ms, .ref nx, .ref bs, .int fd])), (ow, .inl (cJ, 3, .inr (.inl fo))), (cl, .inl (cI, 36, .inl cs)), (tu, .inl (cI, 36, .inl ts)), (lk, .inl (cJ, 3, .inr (.inl lo))), (f1, .inl (cJ, 6, .inr (.inl ff))), (s2, .inl (cJ, 6, .inr (.inl sf))), (ms, .inl (cI, 6, .inl mm)), (nx, .inl (cI, 6, .inl nf)), (bs, .inl (cI, 6, .inl bf))]) hP hD [0, 1, 2, 3, 4, 5, 6, 7, 8, 9] [] rfl rfl (by decide) (by decide) hk1 hFc hP1 hD1
                    generalize H1 = H at hP hS ⊢
                    have hP : va_P D vwCl [(h0, .inr (4, [.int 2, .ref ow, .int re, .int (nI w), .int mt, .ref cl, .ref tu, .int (nI k), .ref lk, .ref f1, .ref s2, .ref ms, .ref nx, .ref bs, .int fd])), (ow, .inl (cJ, 3, .inr (.inl fo))), (cl, .inl (cI, 36, .inl cs)), (tu, .inl (cI, 36, .inl ts)), (lk, .inl (cJ, 3, .inr (.inl lo))), (f1, .inl (cJ, 6, .inr (.inl ff))), (s2, .inl (cJ, 6, .inr (.inl sf))), (ms, .inl (cI, 6, .inl mm)), (nx, .inl (cI, 6, .inl nf)), (bs, .inl (cI, 6, .inl bf))] H := hP.sub (ws' := [(h0, .inr (4, [.int 2, .ref ow, .int re, .int (nI w), .int mt, .ref cl, .ref tu, .int (nI k), .ref lk, .ref f1, .ref s2, .ref ms, .ref nx, .ref bs, .int fd])), (ow, .inl (cJ, 3, .inr (.inl fo))), (cl, .inl (cI, 36, .inl cs)), (tu, .inl (cI, 36, .inl ts)), (lk, .inl (cJ, 3, .inr (.inl lo))), (f1, .inl (cJ, 6, .inr (.inl ff))), (s2, .inl (cJ, 6, .inr (.inl sf))), (ms, .inl (cI, 6, .inl mm)), (nx, .inl (cI, 6, .inl nf)), (bs, .inl (cI, 6, .inl bf))]) [0, 1, 2, 3, 4, 5, 6, 7, 8, 9] rfl
                    have hD : va_D A [(h0, .inr (4, [.int 2, .ref ow, .int re, .int (nI w), .int mt, .ref cl, .ref tu, .int (nI k), .ref lk, .ref f1, .ref s2, .ref ms, .ref nx, .ref bs, .int fd])), (ow, .inl (cJ, 3, .inr (.inl fo))), (cl, .inl (cI, 36, .inl cs)), (tu, .inl (cI, 36, .inl ts)), (lk, .inl (cJ, 3, .inr (.inl lo))), (f1, .inl (cJ, 6, .inr (.inl ff))), (s2, .inl (cJ, 6, .inr (.inl sf))), (ms, .inl (cI, 6, .inl mm)), (nx, .inl (cI, 6, .inl nf)), (bs, .inl (cI, 6, .inl bf))] := hD.sub (ws' := [(h0, .inr (4, [.int 2, .ref ow, .int re, .int (nI w), .int mt, .ref cl, .ref tu, .int (nI k), .ref lk, .ref f1, .ref s2, .ref ms, .ref nx, .ref bs, .int fd])), (ow, .inl (cJ, 3, .inr (.inl fo))), (cl, .inl (cI, 36, .inl cs)), (tu, .inl (cI, 36, .inl ts)), (lk, .inl (cJ, 3, .inr (.inl lo))), (f1, .inl (cJ, 6, .inr (.inl ff))), (s2, .inl (cJ, 6, .inr (.inl sf))), (ms, .inl (cI, 6, .inl mm)), (nx, .inl (cI, 6, .inl nf)), (bs, .inl (cI, 6, .inl bf))]) [0, 1, 2, 3, 4, 5, 6, 7, 8, 9] (by decide) rfl
                    obtain rfl := hw68.symm
                    refine pk_b (P := 2 = 0) (fun b68 => ?_) (fun b68 => ?_)
                    · refine lv_if_ne (tgt := 76) hx hb dX7_put_71 (by decide) (fun c71 => ?_) (fun c71 => ?_)
                      · refine lv_aload_n hx hb dX7_put_76 rfl (lv_at hl 1 rfl) ?_
                        refine va_get (D := D) (ci := 4) (v := .ref ow) (C := RX7) (T := TX7) (N := 15) hx hb hts hinX7 hown hK hP 0 rfl rfl 1 (by decide) hfl7 (fun _ h9 => h9) rfl dX7_put_77 ?_
                        refine lv_aload_n hx hb dX7_put_80 rfl (lv_at hl 1 rfl) ?_
                        refine va_get (D := D) (ci := 4) (v := .int (nI w)) (C := RX7) (T := TX7) (N := 15) hx hb hts hinX7 hown hK hP 0 rfl rfl 3 (by decide) hfl13 (fun _ h9 => h9) rfl dX7_put_81 ?_
                        refine lv_dup2_11 hx hb dX7_put_84 rfl rfl ?_
                        refine va_lald hx hb hK hP 1 1 rfl rfl (vp_in_nI (n := w) (N := 3) (by omega) (by decide)) dX7_put_85 ?_
                        refine pk_tl (y := (fo w)) (congrArg fo (pk_cl w)) ?_
                        refine lv_lconst (v := 1) hx hb dX7_put_86 (by decide) ?_
                        refine lv_iload_n hx hb dX7_put_87 rfl (lv_at hl 2 rfl) ?_
                        refine lv_lshl (v := jshl 1 (nI j)) hx hb dX7_put_88 rfl ?_
                        refine lv_topl (fun x88 ex88 => ?_)
                        refine lv_lor hx hb dX7_put_89 ?_
                        refine lv_topl (fun x89 ex89 => ?_)
                        refine va_last hx hb hK hP hD hS 1 1 rfl rfl (vp_in_nI (n := w) (N := 3) (by omega) (by decide)) dX7_put_90 (fun H locs hP hD hS => ?_)
                        have hu90 : ((nI w) : Int32).toNatClampNeg = w := pk_cl w
                        rw [hu90] at hP hD
                        have hP : va_P D vwCl [(h0, .inr (4, [.int 2, .ref ow, .int re, .int (nI w), .int mt, .ref cl, .ref tu, .int (nI k), .ref lk, .ref f1, .ref s2, .ref ms, .ref nx, .ref bs, .int fd])), (ow, .inl (cJ, 3, .inr (.inl (vp_updL fo w x89)))), (cl, .inl (cI, 36, .inl cs)), (tu, .inl (cI, 36, .inl ts)), (lk, .inl (cJ, 3, .inr (.inl lo))), (f1, .inl (cJ, 6, .inr (.inl ff))), (s2, .inl (cJ, 6, .inr (.inl sf))), (ms, .inl (cI, 6, .inl mm)), (nx, .inl (cI, 6, .inl nf)), (bs, .inl (cI, 6, .inl bf))] H := hP
                        have hD : va_D A [(h0, .inr (4, [.int 2, .ref ow, .int re, .int (nI w), .int mt, .ref cl, .ref tu, .int (nI k), .ref lk, .ref f1, .ref s2, .ref ms, .ref nx, .ref bs, .int fd])), (ow, .inl (cJ, 3, .inr (.inl (vp_updL fo w x89)))), (cl, .inl (cI, 36, .inl cs)), (tu, .inl (cI, 36, .inl ts)), (lk, .inl (cJ, 3, .inr (.inl lo))), (f1, .inl (cJ, 6, .inr (.inl ff))), (s2, .inl (cJ, 6, .inr (.inl sf))), (ms, .inl (cI, 6, .inl mm)), (nx, .inl (cI, 6, .inl nf)), (bs, .inl (cI, 6, .inl bf))] := hD
                        refine lv_aload_n hx hb dX7_put_91 rfl (lv_at hl 1 rfl) ?_
                        refine va_get (D := D) (ci := 4) (v := .ref cl) (C := RX7) (T := TX7) (N := 15) hx hb hts hinX7 hown hK hP 0 rfl rfl 5 (by decide) hfl17 (fun _ h9 => h9) rfl dX7_put_92 ?_
                        refine lv_aload_n hx hb dX7_put_95 rfl (lv_at hl 1 rfl) ?_
                        refine va_get (D := D) (ci := 4) (v := .int (nI k)) (C := RX7) (T := TX7) (N := 15) hx hb hts hinX7 hown hK hP 0 rfl rfl 7 (by decide) hfl83 (fun _ h9 => h9) rfl dX7_put_96 ?_
                        refine lv_iload_n hx hb dX7_put_99 rfl (lv_at hl 2 rfl) ?_
                        refine va_iast hx hb hK hP hD hS 2 0 rfl rfl (vp_in_nI (n := k) (N := 36) (by omega) (by decide)) dX7_put_100 (fun H locs hP hD hS => ?_)
                        have hu100 : ((nI k) : Int32).toNatClampNeg = k := pk_cl k
                        rw [hu100] at hP hD
                        have hP : va_P D vwCl [(h0, .inr (4, [.int 2, .ref ow, .int re, .int (nI w), .int mt, .ref cl, .ref tu, .int (nI k), .ref lk, .ref f1, .ref s2, .ref ms, .ref nx, .ref bs, .int fd])), (ow, .inl (cJ, 3, .inr (.inl (vp_updL fo w x89)))), (cl, .inl (cI, 36, .inl (upd cs k (nI j)))), (tu, .inl (cI, 36, .inl ts)), (lk, .inl (cJ, 3, .inr (.inl lo))), (f1, .inl (cJ, 6, .inr (.inl ff))), (s2, .inl (cJ, 6, .inr (.inl sf))), (ms, .inl (cI, 6, .inl mm)), (nx, .inl (cI, 6, .inl nf)), (bs, .inl (cI, 6, .inl bf))] H := hP
                        have hD : va_D A [(h0, .inr (4, [.int 2, .ref ow, .int re, .int (nI w), .int mt, .ref cl, .ref tu, .int (nI k), .ref lk, .ref f1, .ref s2, .ref ms, .ref nx, .ref bs, .int fd])), (ow, .inl (cJ, 3, .inr (.inl (vp_updL fo w x89)))), (cl, .inl (cI, 36, .inl (upd cs k (nI j)))), (tu, .inl (cI, 36, .inl ts)), (lk, .inl (cJ, 3, .inr (.inl lo))), (f1, .inl (cJ, 6, .inr (.inl ff))), (s2, .inl (cJ, 6, .inr (.inl sf))), (ms, .inl (cI, 6, .inl mm)), (nx, .inl (cI, 6, .inl nf)), (bs, .inl (cI, 6, .inl bf))] := hD
                        refine lv_aload_n hx hb dX7_put_101 rfl (lv_at hl 1 rfl) ?_
                        refine va_get (D := D) (ci := 4) (v := .ref tu) (C := RX7) (T := TX7) (N := 15) hx hb hts hinX7 hown hK hP 0 rfl rfl 6 (by decide) hfl21 (fun _ h9 => h9) rfl dX7_put_102 ?_
                        refine lv_aload_n hx hb dX7_put_105 rfl (lv_at hl 1 rfl) ?_
                        refine va_get (D := D) (ci := 4) (v := .int (nI k)) (C := RX7) (T := TX7) (N := 15) hx hb hts hinX7 hown hK hP 0 rfl rfl 7 (by decide) hfl83 (fun _ h9 => h9) rfl dX7_put_106 ?_
                        refine lv_iconst (v := (-1)) hx hb dX7_put_109 (by decide) ?_
                        refine va_iast hx hb hK hP hD hS 3 0 rfl rfl (vp_in_nI (n := k) (N := 36) (by omega) (by decide)) dX7_put_110 (fun H locs hP hD hS => ?_)
                        have hu110 : ((nI k) : Int32).toNatClampNeg = k := pk_cl k
                        rw [hu110] at hP hD
                        have hP : va_P D vwCl [(h0, .inr (4, [.int 2, .ref ow, .int re, .int (nI w), .int mt, .ref cl, .ref tu, .int (nI k), .ref lk, .ref f1, .ref s2, .ref ms, .ref nx, .ref bs, .int fd])), (ow, .inl (cJ, 3, .inr (.inl (vp_updL fo w x89)))), (cl, .inl (cI, 36, .inl (upd cs k (nI j)))), (tu, .inl (cI, 36, .inl (upd ts k (-1)))), (lk, .inl (cJ, 3, .inr (.inl lo))), (f1, .inl (cJ, 6, .inr (.inl ff))), (s2, .inl (cJ, 6, .inr (.inl sf))), (ms, .inl (cI, 6, .inl mm)), (nx, .inl (cI, 6, .inl nf)), (bs, .inl (cI, 6, .inl bf))] H := hP
                        have hD : va_D A [(h0, .inr (4, [.int 2, .ref ow, .int re, .int (nI w), .int mt, .ref cl, .ref tu, .int (nI k), .ref lk, .ref f1, .ref s2, .ref ms, .ref nx, .ref bs, .int fd])), (ow, .inl (cJ, 3, .inr (.inl (vp_updL fo w x89)))), (cl, .inl (cI, 36, .inl (upd cs k (nI j)))), (tu, .inl (cI, 36, .inl (upd ts k (-1)))), (lk, .inl (cJ, 3, .inr (.inl lo))), (f1, .inl (cJ, 6, .inr (.inl ff))), (s2, .inl (cJ, 6, .inr (.inl sf))), (ms, .inl (cI, 6, .inl mm)), (nx, .inl (cI, 6, .inl nf)), (bs, .inl (cI, 6, .inl bf))] := hD
                        refine lv_aload_n hx hb dX7_put_111 rfl (lv_at hl 1 rfl) ?_
                        refine lv_dup hx hb dX7_put_112 rfl ?_
                        refine va_get (D := D) (ci := 4) (v := .int (nI k)) (C := RX7) (T := TX7) (N := 15) hx hb hts hinX7 hown hK hP 0 rfl rfl 7 (by decide) hfl83 (fun _ h9 => h9) rfl dX7_put_113 ?_
                        refine lv_iconst (v := 1) hx hb dX7_put_116 (by decide) ?_
                        refine lv_iadd hx hb dX7_put_117 ?_
                        refine pk_ti (y := nI (k + 1)) (nI_add k 1) ?_
                        refine va_put (D := D) (ci := 4) (v := .int (nI (k + 1))) (ty := .int) (C := RX7) (T := TX7) (N := 15) hx hb hts hinX7 tyX7 tyX7_ok nmX7 hown hK hP hD hS 0 rfl rfl 7 (by decide) hfl83 (fun _ h9 => h9) rfl (by decide +kernel) rfl rfl (Nat.le_of_ble_eq_true rfl) dX7_put_118 (fun H locs hP hD hS => ?_)
                        have hP : va_P D vwCl [(h0, .inr (4, [.int 2, .ref ow, .int re, .int (nI w), .int mt, .ref cl, .ref tu, .int (nI (k + 1)), .ref lk, .ref f1, .ref s2, .ref ms, .ref nx, .ref bs, .int fd])), (ow, .inl (cJ, 3, .inr (.inl (vp_updL fo w x89)))), (cl, .inl (cI, 36, .inl (upd cs k (nI j)))), (tu, .inl (cI, 36, .inl (upd ts k (-1)))), (lk, .inl (cJ, 3, .inr (.inl lo))), (f1, .inl (cJ, 6, .inr (.inl ff))), (s2, .inl (cJ, 6, .inr (.inl sf))), (ms, .inl (cI, 6, .inl mm)), (nx, .inl (cI, 6, .inl nf)), (bs, .inl (cI, 6, .inl bf))] H := hP
                        have hD : va_D A [(h0, .inr (4, [.int 2, .ref ow, .int re, .int (nI w), .int mt, .ref cl, .ref tu, .int (nI (k + 1)), .ref lk, .ref f1, .ref s2, .ref ms, .ref nx, .ref bs, .int fd])), (ow, .inl (cJ, 3, .inr (.inl (vp_updL fo w x89)))), (cl, .inl (cI, 36, .inl (upd cs k (nI j)))), (tu, .inl (cI, 36, .inl (upd ts k (-1)))), (lk, .inl (cJ, 3, .inr (.inl lo))), (f1, .inl (cJ, 6, .inr (.inl ff))), (s2, .inl (cJ, 6, .inr (.inl sf))), (ms, .inl (cI, 6, .inl mm)), (nx, .inl (cI, 6, .inl nf)), (bs, .inl (cI, 6, .inl bf))] := hD
                        refine lv_aload_n hx hb dX7_put_121 rfl (lv_at hl 1 rfl) ?_
                        refine lv_iconst (v := 1) hx hb dX7_put_122 (by decide) ?_
                        refine va_put (D := D) (ci := 4) (v := .int 1) (ty := .boolean) (C := RX7) (T := TX7) (N := 15) hx hb hts hinX7 tyX7 tyX7_ok nmX7 hown hK hP hD hS 0 rfl rfl 4 (by decide) hfl76 (fun _ h9 => h9) rfl (by decide +kernel) rfl rfl (Nat.le_of_ble_eq_true rfl) dX7_put_123 (fun H locs hP hD hS => ?_)
                        have hP : va_P D vwCl [(h0, .inr (4, [.int 2, .ref ow, .int re, .int (nI w), .int 1, .ref cl, .ref tu, .int (nI (k + 1)), .ref lk, .ref f1, .ref s2, .ref ms, .ref nx, .ref bs, .int fd])), (ow, .inl (cJ, 3, .inr (.inl (vp_updL fo w x89)))), (cl, .inl (cI, 36, .inl (upd cs k (nI j)))), (tu, .inl (cI, 36, .inl (upd ts k (-1)))), (lk, .inl (cJ, 3, .inr (.inl lo))), (f1, .inl (cJ, 6, .inr (.inl ff))), (s2, .inl (cJ, 6, .inr (.inl sf))), (ms, .inl (cI, 6, .inl mm)), (nx, .inl (cI, 6, .inl nf)), (bs, .inl (cI, 6, .inl bf))] H := hP
                        have hD : va_D A [(h0, .inr (4, [.int 2, .ref ow, .int re, .int (nI w), .int 1, .ref cl, .ref tu, .int (nI (k + 1)), .ref lk, .ref f1, .ref s2, .ref ms, .ref nx, .ref bs, .int fd])), (ow, .inl (cJ, 3, .inr (.inl (vp_updL fo w x89)))), (cl, .inl (cI, 36, .inl (upd cs k (nI j)))), (tu, .inl (cI, 36, .inl (upd ts k (-1)))), (lk, .inl (cJ, 3, .inr (.inl lo))), (f1, .inl (cJ, 6, .inr (.inl ff))), (s2, .inl (cJ, 6, .inr (.inl sf))), (ms, .inl (cI, 6, .inl mm)), (nx, .inl (cI, 6, .inl nf)), (bs, .inl (cI, 6, .inl bf))] := hD
                        refine lv_aload_n hx hb dX7_put_126 rfl (lv_at hl 1 rfl) ?_
                        refine va_get (D := D) (ci := 4) (v := .ref ow) (C := RX7) (T := TX7) (N := 15) hx hb hts hinX7 hown hK hP 0 rfl rfl 1 (by decide) hfl7 (fun _ h9 => h9) rfl dX7_put_127 ?_
                        refine lv_aload_n hx hb dX7_put_130 rfl (lv_at hl 1 rfl) ?_
                        refine va_get (D := D) (ci := 4) (v := .int (nI w)) (C := RX7) (T := TX7) (N := 15) hx hb hts hinX7 hown hK hP 0 rfl rfl 3 (by decide) hfl13 (fun _ h9 => h9) rfl dX7_put_131 ?_
                        refine va_lald hx hb hK hP 1 1 rfl rfl (vp_in_nI (n := w) (N := 3) (by omega) (by decide)) dX7_put_134 ?_
                        refine pk_tl (y := ((vp_updL fo w x89) w)) (congrArg (vp_updL fo w x89) (pk_cl w)) ?_
                        refine vp_callSi (W.runS (As := [.long ((vp_updL fo w x89) w)]) (rest := []) ⟨hx, hb, hml, hown, hts⟩ (c_X7_hasLine l ((vp_updL fo w x89) w)) (va_cwS 1 hts gX7_put_X7_hasLine rfl rfl rfl (by decide +kernel) ⟨Nat.le_of_ble_eq_true rfl, Nat.le_of_ble_eq_true rfl⟩) ⟨px_blind0, fun U hU hW => ⟨rfl, trivial⟩⟩ rfl rfl hl.1 rfl (lv_room (Nat.le_of_ble_eq_true rfl)) dX7_put_135 ⟨(Nat.le_of_ble_eq_true rfl), (Nat.le_of_ble_eq_true rfl)⟩) (fun r135 er135 => ?_)
                        obtain rfl := er135.symm
                        refine pk_b (P := 0 < msum ((vp_updL fo w x89) w) 0 5 32) (fun b135 => ?_) (fun b135 => ?_)
                        · refine lv_if_eq (tgt := 154) hx hb dX7_put_138 (by decide) (fun c138 => ?_) (fun c138 => ?_)
                          · exact absurd c138 (by decide)
                          · refine lv_aload_n hx hb dX7_put_141 rfl (lv_at hl 1 rfl) ?_
                            refine lv_aload_n hx hb dX7_put_142 rfl (lv_at hl 1 rfl) ?_
                            refine va_get (D := D) (ci := 4) (v := .int (nI w)) (C := RX7) (T := TX7) (N := 15) hx hb hts hinX7 hown hK hP 0 rfl rfl 3 (by decide) hfl13 (fun _ h9 => h9) rfl dX7_put_143 ?_
                            refine va_put (D := D) (ci := 4) (v := .int (nI w)) (ty := .int) (C := RX7) (T := TX7) (N := 15) hx hb hts hinX7 tyX7 tyX7_ok nmX7 hown hK hP hD hS 0 rfl rfl 2 (by decide) hfl73 (fun _ h9 => h9) rfl (by decide +kernel) rfl rfl (Nat.le_of_ble_eq_true rfl) dX7_put_146 (fun H locs hP hD hS => ?_)
                            have hP : va_P D vwCl [(h0, .inr (4, [.int 2, .ref ow, .int (nI w), .int (nI w), .int 1, .ref cl, .ref tu, .int (nI (k + 1)), .ref lk, .ref f1, .ref s2, .ref ms, .ref nx, .ref bs, .int fd])), (ow, .inl (cJ, 3, .inr (.inl (vp_updL fo w x89)))), (cl, .inl (cI, 36, .inl (upd cs k (nI j)))), (tu, .inl (cI, 36, .inl (upd ts k (-1)))), (lk, .inl (cJ, 3, .inr (.inl lo))), (f1, .inl (cJ, 6, .inr (.inl ff))), (s2, .inl (cJ, 6, .inr (.inl sf))), (ms, .inl (cI, 6, .inl mm)), (nx, .inl (cI, 6, .inl nf)), (bs, .inl (cI, 6, .inl bf))] H := hP
                            have hD : va_D A [(h0, .inr (4, [.int 2, .ref ow, .int (nI w), .int (nI w), .int 1, .ref cl, .ref tu, .int (nI (k + 1)), .ref lk, .ref f1, .ref s2, .ref ms, .ref nx, .ref bs, .int fd])), (ow, .inl (cJ, 3, .inr (.inl (vp_updL fo w x89)))), (cl, .inl (cI, 36, .inl (upd cs k (nI j)))), (tu, .inl (cI, 36, .inl (upd ts k (-1)))), (lk, .inl (cJ, 3, .inr (.inl lo))), (f1, .inl (cJ, 6, .inr (.inl ff))), (s2, .inl (cJ, 6, .inr (.inl sf))), (ms, .inl (cI, 6, .inl mm)), (nx, .inl (cI, 6, .inl nf)), (bs, .inl (cI, 6, .inl bf))] := hD
                            refine lv_aload_n hx hb dX7_put_149 rfl (lv_at hl 1 rfl) ?_
                            refine lv_iconst (v := 0) hx hb dX7_put_150 (by decide) ?_
                            refine va_put (D := D) (ci := 4) (v := .int 0) (ty := .boolean) (C := RX7) (T := TX7) (N := 15) hx hb hts hinX7 tyX7 tyX7_ok nmX7 hown hK hP hD hS 0 rfl rfl 4 (by decide) hfl76 (fun _ h9 => h9) rfl (by decide +kernel) rfl rfl (Nat.le_of_ble_eq_true rfl) dX7_put_151 (fun H locs hP hD hS => ?_)
                            have hP : va_P D vwCl [(h0, .inr (4, [.int 2, .ref ow, .int (nI w), .int (nI w), .int 0, .ref cl, .ref tu, .int (nI (k + 1)), .ref lk, .ref f1, .ref s2, .ref ms, .ref nx, .ref bs, .int fd])), (ow, .inl (cJ, 3, .inr (.inl (vp_updL fo w x89)))), (cl, .inl (cI, 36, .inl (upd cs k (nI j)))), (tu, .inl (cI, 36, .inl (upd ts k (-1)))), (lk, .inl (cJ, 3, .inr (.inl lo))), (f1, .inl (cJ, 6, .inr (.inl ff))), (s2, .inl (cJ, 6, .inr (.inl sf))), (ms, .inl (cI, 6, .inl mm)), (nx, .inl (cI, 6, .inl nf)), (bs, .inl (cI, 6, .inl bf))] H := hP
                            have hD : va_D A [(h0, .inr (4, [.int 2, .ref ow, .int (nI w), .int (nI w), .int 0, .ref cl, .ref tu, .int (nI (k + 1)), .ref lk, .ref f1, .ref s2, .ref ms, .ref nx, .ref bs, .int fd])), (ow, .inl (cJ, 3, .inr (.inl (vp_updL fo w x89)))), (cl, .inl (cI, 36, .inl (upd cs k (nI j)))), (tu, .inl (cI, 36, .inl (upd ts k (-1)))), (lk, .inl (cJ, 3, .inr (.inl lo))), (f1, .inl (cJ, 6, .inr (.inl ff))), (s2, .inl (cJ, 6, .inr (.inl sf))), (ms, .inl (cI, 6, .inl mm)), (nx, .inl (cI, 6, .inl nf)), (bs, .inl (cI, 6, .inl bf))] := hD
                            refine lv_aload_n hx hb dX7_put_154 rfl (lv_at hl 1 rfl) ?_
                            refine va_get (D := D) (ci := 4) (v := .int (nI w)) (C := RX7) (T := TX7) (N := 15) hx hb hts hinX7 hown hK hP 0 rfl rfl 2 (by decide) hfl73 (fun _ h9 => h9) rfl dX7_put_155 ?_
                            obtain rfl := ex33.symm; obtain rfl := ex88.symm; obtain rfl := ex89.symm
                            refine W.iret (v := (nI w)) hx hb hr (fun tt ht hW => ⟨⟨(nI w), (), rfl, ?_, by rw [ht]; exact hP, va_K.moved hW.alike hK, hD⟩, hS.F ht⟩) hS.2.2 dX7_put_158
                            exact rfl
                        · refine lv_if_eq (tgt := 154) hx hb dX7_put_138 (by decide) (fun c138 => ?_) (fun c138 => ?_)
                          · refine lv_aload_n hx hb dX7_put_154 rfl (lv_at hl 1 rfl) ?_
                            refine va_get (D := D) (ci := 4) (v := .int re) (C := RX7) (T := TX7) (N := 15) hx hb hts hinX7 hown hK hP 0 rfl rfl 2 (by decide) hfl73 (fun _ h9 => h9) rfl dX7_put_155 ?_
                            obtain rfl := ex33.symm; obtain rfl := ex88.symm; obtain rfl := ex89.symm
                            refine W.iret (v := re) hx hb hr (fun tt ht hW => ⟨⟨re, (), rfl, ?_, by rw [ht]; exact hP, va_K.moved hW.alike hK, hD⟩, hS.F ht⟩) hS.2.2 dX7_put_158
                            exact rfl
                          · exact absurd c138 (by decide)
                      · exact absurd c71 (by decide)
                    · refine lv_if_ne (tgt := 76) hx hb dX7_put_71 (by decide) (fun c71 => ?_) (fun c71 => ?_)
                      · exact absurd c71 (by decide)
                      · refine lv_iconst (v := 0) hx hb dX7_put_74 (by decide) ?_
                        obtain rfl := ex33.symm
                        refine W.iret (v := 0) hx hb hr (fun tt ht hW => ⟨⟨0, (), rfl, ?_, by rw [ht]; exact hP, va_K.moved hW.alike hK, hD⟩, hS.F ht⟩) hS.2.2 dX7_put_75
                        exact rfl
                · exact absurd c52 (by decide)
              · exact absurd (cell_ok hj) b49
          · exact absurd ⟨c11, c18, by skip; exact b35⟩ hbad
  · exact absurd (cell_ok hj) b1

set_option maxHeartbeats 400000 in
set_option maxRecDepth 100000 in
theorem c_X7_put_ok (l : Launch) (D : va_G) (cI cJ : ClassId) (sz : Nat) (h0 ow cl tu lk f1 s2 ms nx bs : Nat) (th fd : Int32) (w k : Nat) (fo lo ff sf : Nat → Int64) (cs ts mm nf bf : Nat → Int32) (j : Nat) (hj : j < 36) (hw : w = 1 ∨ w = 2) (hk : k < 36) (hf : ¬ bt (fo 1 ||| fo 2) j = true) : Met l yX7_put wsX7_put ({ frames := 3, cells := 0, slots := 0, locals := 72 } : Room) (va_Pc [.ref h0, .int (nI j)] (pv_C D cI cJ [(h0, .inr (4, [.int th, .ref ow, .int 0, .int (nI w), .int 0, .ref cl, .ref tu, .int (nI k), .ref lk, .ref f1, .ref s2, .ref ms, .ref nx, .ref bs, .int fd])), (ow, .inl (cJ, 3, .inr (.inl fo))), (cl, .inl (cI, 36, .inl cs)), (tu, .inl (cI, 36, .inl ts)), (lk, .inl (cJ, 3, .inr (.inl lo))), (f1, .inl (cJ, 6, .inr (.inl ff))), (s2, .inl (cJ, 6, .inr (.inl sf))), (ms, .inl (cI, 6, .inl mm)), (nx, .inl (cI, 6, .inl nf)), (bs, .inl (cI, 6, .inl bf))] sz)) (va_Qi (fun (r : Int32) (u : (Int32) × (Int32)) => r = u.2 ∧ u.1 = (if 0 < msum (fo w ||| jshl 1 (nI j)) 0 5 32 then 0 else 1) ∧ u.2 = (if 0 < msum (fo w ||| jshl 1 (nI j)) 0 5 32 then nI w else 0)) (fun (u : (Int32) × (Int32)) => pv_B D cI cJ (va_A [(h0, .inr (4, [.int th, .ref ow, .int 0, .int (nI w), .int 0, .ref cl, .ref tu, .int (nI k), .ref lk, .ref f1, .ref s2, .ref ms, .ref nx, .ref bs, .int fd])), (ow, .inl (cJ, 3, .inr (.inl fo))), (cl, .inl (cI, 36, .inl cs)), (tu, .inl (cI, 36, .inl ts)), (lk, .inl (cJ, 3, .inr (.inl lo))), (f1, .inl (cJ, 6, .inr (.inl ff))), (s2, .inl (cJ, 6, .inr (.inl sf))), (ms, .inl (cI, 6, .inl mm)), (nx, .inl (cI, 6, .inl nf)), (bs, .inl (cI, 6, .inl bf))] sz) [(h0, .inr (4, [.int 0, .ref ow, .int 0, .int (nI w), .int 0, .ref cl, .ref tu, .int (nI (k + 1)), .ref lk, .ref f1, .ref s2, .ref ms, .ref nx, .ref bs, .int fd])), (ow, .inl (cJ, 3, .inr (.inl (vp_updL fo w (fo w ||| jshl 1 (nI j)))))), (cl, .inl (cI, 36, .inl (upd cs k (nI j)))), (tu, .inl (cI, 36, .inl (upd ts k (-1)))), (lk, .inl (cJ, 3, .inr (.inl lo))), (f1, .inl (cJ, 6, .inr (.inl ff))), (s2, .inl (cJ, 6, .inr (.inl sf))), (ms, .inl (cI, 6, .inl mm)), (nx, .inl (cI, 6, .inl nf)), (bs, .inl (cI, 6, .inl bf))]) (va_A [(h0, .inr (4, [.int th, .ref ow, .int 0, .int (nI w), .int 0, .ref cl, .ref tu, .int (nI k), .ref lk, .ref f1, .ref s2, .ref ms, .ref nx, .ref bs, .int fd])), (ow, .inl (cJ, 3, .inr (.inl fo))), (cl, .inl (cI, 36, .inl cs)), (tu, .inl (cI, 36, .inl ts)), (lk, .inl (cJ, 3, .inr (.inl lo))), (f1, .inl (cJ, 6, .inr (.inl ff))), (s2, .inl (cJ, 6, .inr (.inl sf))), (ms, .inl (cI, 6, .inl mm)), (nx, .inl (cI, 6, .inl nf)), (bs, .inl (cI, 6, .inl bf))] sz)) 0 0 (va_A [(h0, .inr (4, [.int th, .ref ow, .int 0, .int (nI w), .int 0, .ref cl, .ref tu, .int (nI k), .ref lk, .ref f1, .ref s2, .ref ms, .ref nx, .ref bs, .int fd])), (ow, .inl (cJ, 3, .inr (.inl fo))), (cl, .inl (cI, 36, .inl cs)), (tu, .inl (cI, 36, .inl ts)), (lk, .inl (cJ, 3, .inr (.inl lo))), (f1, .inl (cJ, 6, .inr (.inl ff))), (s2, .inl (cJ, 6, .inr (.inl sf))), (ms, .inl (cI, 6, .inl mm)), (nx, .inl (cI, 6, .inl nf)), (bs, .inl (cI, 6, .inl bf))] sz) := by
  refine Met.ofW (cc := cX7_put) (maxL := 3) (ret := (some .int)) (by decide) rfl ?_
  intro p e s m args below meth c s₁ B hml hv
  obtain ⟨rfl, rfl, hP, hK, hD0⟩ := hv
  have hx := B.exec
  have hb := B.bytes
  have hr := B.returns
  have hts := atoms_spec (ws := wsX7_put) B.pre
  have hown : s.vm.findClass RX7 = some m.cls := findClass_of_methodNamed B.named
  have hlocks := B.notSynchronized
  have hD := hD0.self (sz := s.heap.size)
  generalize hAe : va_A [(h0, .inr (4, [.int th, .ref ow, .int 0, .int (nI w), .int 0, .ref cl, .ref tu, .int (nI k), .ref lk, .ref f1, .ref s2, .ref ms, .ref nx, .ref bs, .int fd])), (ow, .inl (cJ, 3, .inr (.inl fo))), (cl, .inl (cI, 36, .inl cs)), (tu, .inl (cI, 36, .inl ts)), (lk, .inl (cJ, 3, .inr (.inl lo))), (f1, .inl (cJ, 6, .inr (.inl ff))), (s2, .inl (cJ, 6, .inr (.inl sf))), (ms, .inl (cI, 6, .inl mm)), (nx, .inl (cI, 6, .inl nf)), (bs, .inl (cI, 6, .inl bf))] s.heap.size = A at hD ⊢
  have hA : ∀ q : Nat, s.heap.size ≤ q → A q := fun q h => by rw [← hAe]; exact Or.inr h
  have hS : va_S A s.heap s.heap [] := va_S.rf
  have hinX7 : ∀ w ∈ wsX70, w ∈ wsX7_put := by decide +kernel
  have hfl73 : (Cond.fieldLink RX7 73 "TwistquadModel" "result" "I").before ([.ref h0, .int (nI j)] : List Value).toArray s = true := hts _ (by decide +kernel)
  have hfl76 : (Cond.fieldLink RX7 76 "TwistquadModel" "mustTurn" "Z").before ([.ref h0, .int (nI j)] : List Value).toArray s = true := hts _ (by decide +kernel)
  have hfl7 : (Cond.fieldLink RX7 7 "TwistquadModel" "own" "[J").before ([.ref h0, .int (nI j)] : List Value).toArray s = true := hts _ (by decide +kernel)
  have hfl13 : (Cond.fieldLink RX7 13 "TwistquadModel" "mover" "I").before ([.ref h0, .int (nI j)] : List Value).toArray s = true := hts _ (by decide +kernel)
  have hfl17 : (Cond.fieldLink RX7 17 "TwistquadModel" "cells" "[I").before ([.ref h0, .int (nI j)] : List Value).toArray s = true := hts _ (by decide +kernel)
  have hfl83 : (Cond.fieldLink RX7 83 "TwistquadModel" "moves" "I").before ([.ref h0, .int (nI j)] : List Value).toArray s = true := hts _ (by decide +kernel)
  have hfl21 : (Cond.fieldLink RX7 21 "TwistquadModel" "turns" "[I").before ([.ref h0, .int (nI j)] : List Value).toArray s = true := hts _ (by decide +kernel)
  have hl := lv_entry ([.ref h0, .int (nI j)]) (n := 3) (Nat.le_of_ble_eq_true rfl)
  rw [lg_entry_eq]
  generalize (lg_sl ([.ref h0, .int (nI j)]) ++ List.replicate (3 - (lg_sl ([.ref h0, .int (nI j)])).length) Slot.unset).toArray = ls at hl ⊢
  have hl : lv_has ls 3 [(0, .ref h0), (1, .int (nI j))] := hl
  refine lv_iload_n hx hb dX7_put_0 rfl (lv_at hl 1 rfl) ?_
  refine vp_callSi (W.runS (As := [.int (nI j)]) (rest := []) ⟨hx, hb, hml, hown, hts⟩ (c_X7_isCell l (nI j)) (va_cwS 1 hts gX7_put_X7_isCell rfl rfl rfl (by decide +kernel) ⟨Nat.le_of_ble_eq_true rfl, Nat.le_of_ble_eq_true rfl⟩) ⟨px_blind0, fun U hU hW => ⟨rfl, trivial⟩⟩ rfl rfl hl.1 rfl (lv_room (Nat.le_of_ble_eq_true rfl)) dX7_put_1 ⟨(Nat.le_of_ble_eq_true rfl), (Nat.le_of_ble_eq_true rfl)⟩) (fun r1 er1 => ?_)
  obtain rfl := er1.symm
  refine pk_b (P := 0 ≤ (nI j) ∧ (nI j) ≤ 35) (fun b1 => ?_) (fun b1 => ?_)
  · refine lv_if_eq (tgt := 45) hx hb dX7_put_4 (by decide) (fun c4 => ?_) (fun c4 => ?_)
    · exact absurd c4 (by decide)
    · refine lv_aload_n hx hb dX7_put_7 rfl (lv_at hl 0 rfl) ?_
      refine va_get (D := D) (ci := 4) (v := .int 0) (C := RX7) (T := TX7) (N := 15) hx hb hts hinX7 hown hK hP 0 rfl rfl 2 (by decide) hfl73 (fun _ h9 => h9) rfl dX7_put_8 ?_
      refine lv_if_ne (tgt := 41) hx hb dX7_put_11 (by decide) (fun c11 => ?_) (fun c11 => ?_)
      · exact absurd c11 (by decide)
      · refine lv_aload_n hx hb dX7_put_14 rfl (lv_at hl 0 rfl) ?_
        refine va_get (D := D) (ci := 4) (v := .int 0) (C := RX7) (T := TX7) (N := 15) hx hb hts hinX7 hown hK hP 0 rfl rfl 4 (by decide) hfl76 (fun _ h9 => h9) rfl dX7_put_15 ?_
        refine lv_if_ne (tgt := 41) hx hb dX7_put_18 (by decide) (fun c18 => ?_) (fun c18 => ?_)
        · exact absurd c18 (by decide)
        · refine lv_aload_n hx hb dX7_put_21 rfl (lv_at hl 0 rfl) ?_
          refine va_get (D := D) (ci := 4) (v := .ref ow) (C := RX7) (T := TX7) (N := 15) hx hb hts hinX7 hown hK hP 0 rfl rfl 1 (by decide) hfl7 (fun _ h9 => h9) rfl dX7_put_22 ?_
          refine lv_iconst (v := 1) hx hb dX7_put_25 (by decide) ?_
          refine va_lald hx hb hK hP 1 1 rfl rfl (vp_in_nI (n := 1) (N := 3) (by omega) (by decide)) dX7_put_26 ?_
          refine pk_tl (y := (fo 1)) (congrArg fo (pk_cl 1)) ?_
          refine lv_aload_n hx hb dX7_put_27 rfl (lv_at hl 0 rfl) ?_
          refine va_get (D := D) (ci := 4) (v := .ref ow) (C := RX7) (T := TX7) (N := 15) hx hb hts hinX7 hown hK hP 0 rfl rfl 1 (by decide) hfl7 (fun _ h9 => h9) rfl dX7_put_28 ?_
          refine lv_iconst (v := 2) hx hb dX7_put_31 (by decide) ?_
          refine va_lald hx hb hK hP 1 1 rfl rfl (vp_in_nI (n := 2) (N := 3) (by omega) (by decide)) dX7_put_32 ?_
          refine pk_tl (y := (fo 2)) (congrArg fo (pk_cl 2)) ?_
          refine lv_lor hx hb dX7_put_33 ?_
          refine lv_topl (fun x33 ex33 => ?_)
          refine lv_iload_n hx hb dX7_put_34 rfl (lv_at hl 1 rfl) ?_
          refine vp_callSi (W.runS (As := [.long x33, .int (nI j)]) (rest := []) ⟨hx, hb, hml, hown, hts⟩ (c_X7_has l x33 j (by omega)) (va_cwS 2 hts gX7_put_X7_has rfl rfl rfl (by decide +kernel) ⟨Nat.le_of_ble_eq_true rfl, Nat.le_of_ble_eq_true rfl⟩) ⟨px_blind0, fun U hU hW => ⟨rfl, trivial⟩⟩ rfl rfl hl.1 rfl (lv_room (Nat.le_of_ble_eq_true rfl)) dX7_put_35 ⟨(Nat.le_of_ble_eq_true rfl), (Nat.le_of_ble_eq_true rfl)⟩) (fun r35 er35 => ?_)
          obtain rfl := er35.symm
          refine pk_b (P := bt x33 j = true) (fun b35 => ?_) (fun b35 => ?_)
          · exact absurd (by obtain rfl := ex33.symm; exact b35) hf
          · refine lv_if_eq (tgt := 45) hx hb dX7_put_38 (by decide) (fun c38 => ?_) (fun c38 => ?_)
            · refine lv_iconst (v := 0) hx hb dX7_put_45 (by decide) ?_
              refine lv_istore_n (lv' := [(2, .int 0), (0, .ref h0), (1, .int (nI j))]) hx hb dX7_put_46 rfl hl (by decide) rfl (fun ls hl => ?_)
              refine lv_aload_n hx hb dX7_put_47 rfl (lv_at hl 1 rfl) ?_
              refine lv_iload_n hx hb dX7_put_48 rfl (lv_at hl 2 rfl) ?_
              refine vp_callSi (W.runS (As := [.int (nI j)]) (rest := [.ref h0]) ⟨hx, hb, hml, hown, hts⟩ (c_X7_isCell l (nI j)) (va_cwS 1 hts gX7_put_X7_isCell rfl rfl rfl (by decide +kernel) ⟨Nat.le_of_ble_eq_true rfl, Nat.le_of_ble_eq_true rfl⟩) ⟨px_blind0, fun U hU hW => ⟨rfl, trivial⟩⟩ rfl rfl hl.1 rfl (lv_room (Nat.le_of_ble_eq_true rfl)) dX7_put_49 ⟨(Nat.le_of_ble_eq_true rfl), (Nat.le_of_ble_eq_true rfl)⟩) (fun r49 er49 => ?_)
              obtain rfl := er49.symm
              refine pk_b (P := 0 ≤ (nI j) ∧ (nI j) ≤ 35) (fun b49 => ?_) (fun b49 => ?_)
              · refine lv_if_ne (tgt := 59) hx hb dX7_put_52 (by decide) (fun c52 => ?_) (fun c52 => ?_)
                · refine lv_iload_n hx hb dX7_put_59 rfl (lv_at hl 0 rfl) ?_
                  refine lv_if_eq (tgt := 67) hx hb dX7_put_60 (by decide) (fun c60 => ?_) (fun c60 => ?_)
                  · refine lv_iconst (v := 0) hx hb dX7_put_67 (by decide) ?_
                    have hPc := hP.sub (ws' := [(h0, .inr (4, [.int th, .ref ow, .int 0, .int (nI w), .int 0, .ref cl, .ref tu, .int (nI k), .ref lk, .ref f1, .ref s2, .ref ms, .ref nx, .ref bs, .int fd])), (ow, .inl (cJ, 3, .inr (.inl fo))), (cl, .inl (cI, 36, .inl cs)), (tu, .inl (cI, 36, .inl ts)), (lk, .inl (cJ, 3, .inr (.inl lo))), (f1, .inl (cJ, 6, .inr (.inl ff))), (s2, .inl (cJ, 6, .inr (.inl sf))), (ms, .inl (cI, 6, .inl mm)), (nx, .inl (cI, 6, .inl nf)), (bs, .inl (cI, 6, .inl bf))]) [0, 1, 2, 3, 4, 5, 6, 7, 8, 9] rfl
                    have hDc := hD.sub (ws' := [(h0, .inr (4, [.int th, .ref ow, .int 0, .int (nI w), .int 0, .ref cl, .ref tu, .int (nI k), .ref lk, .ref f1, .ref s2, .ref ms, .ref nx, .ref bs, .int fd])), (ow, .inl (cJ, 3, .inr (.inl fo))), (cl, .inl (cI, 36, .inl cs)), (tu, .inl (cI, 36, .inl ts)), (lk, .inl (cJ, 3, .inr (.inl lo))), (f1, .inl (cJ, 6, .inr (.inl ff))), (s2, .inl (cJ, 6, .inr (.inl sf))), (ms, .inl (cI, 6, .inl mm)), (nx, .inl (cI, 6, .inl nf)), (bs, .inl (cI, 6, .inl bf))]) [0, 1, 2, 3, 4, 5, 6, 7, 8, 9] (by decide) rfl
                    have hFc := va_free (wc := [(h0, .inr (4, [.int th, .ref ow, .int 0, .int (nI w), .int 0, .ref cl, .ref tu, .int (nI k), .ref lk, .ref f1, .ref s2, .ref ms, .ref nx, .ref bs, .int fd])), (ow, .inl (cJ, 3, .inr (.inl fo))), (cl, .inl (cI, 36, .inl cs)), (tu, .inl (cI, 36, .inl ts)), (lk, .inl (cJ, 3, .inr (.inl lo))), (f1, .inl (cJ, 6, .inr (.inl ff))), (s2, .inl (cJ, 6, .inr (.inl sf))), (ms, .inl (cI, 6, .inl mm)), (nx, .inl (cI, 6, .inl nf)), (bs, .inl (cI, 6, .inl bf))]) hD hS hA [0, 1, 2, 3, 4, 5, 6, 7, 8, 9] rfl
                    refine va_calli (va_runV (As := [.int 0]) (rest := []) ⟨hx, hb, hml, hown, hts⟩ (c_X7_goesWell l D cI cJ s.heap.size  h0 ow cl tu lk f1 s2 ms nx bs th 0 0 fd w k fo lo ff sf cs ts mm nf bf 0) (cwV 1 hts gX7_put_X7_goesWell rfl rfl rfl (by decide +kernel) ⟨Nat.le_of_ble_eq_true rfl, Nat.le_of_ble_eq_true rfl⟩) ⟨pv_blind, va_recv hK hPc (ci := 4) (q0 := 0) rfl rfl, fun U hU hW => ⟨rfl, by rw [hU], by rw [hU]; exact hPc, va_K.moved hW.alike hK, hDc.weaken (fun _ _ _ _ => trivial)⟩⟩ rfl rfl hl.1 rfl (lv_room (Nat.le_of_ble_eq_true rfl)) dX7_put_68 ⟨(Nat.le_of_ble_eq_true rfl), (Nat.le_of_ble_eq_true rfl)⟩) hS (fun q _ h => hFc q h) hFc (fun r68 u t9 H1 locs ht9 hvm hw68 hB hz1 hk1 hS => ?_)
                    try dsimp only at hw68
                    obtain ⟨hP1, hK1, hD1⟩ := hB
                    rw [ht9] at hP1
                    obtain ⟨hP, hD⟩ := va_join (wr := []) (w1 := [(h0, .inr (4, [.int 0, .ref ow, .int 0, .int (nI w), .int 0, .ref cl, .ref tu, .int (nI k), .ref lk, .ref f1, .ref s2, .ref ms, .ref nx, .ref bs, .int fd])), (ow, .inl (cJ, 3, .inr (.inl fo))), (cl, .inl (cI, 36, .inl cs)), (tu, .inl (cI, 36, .inl ts)), (lk, .inl (cJ, 3, .inr (.inl lo))), (f1, .inl (cJ, 6, .inr (.inl ff))), (s2, .inl (cJ, 6, .inr (.inl sf))), (ms, .inl (cI, 6, .inl mm)), (nx, .inl (cI, 6, .inl nf)), (bs, .inl (cI, 6, .inl bf))]) hP hD [0, 1, 2, 3, 4, 5, 6, 7, 8, 9] [] rfl rfl (by decide) (by decide) hk1 hFc hP1 hD1
                    generalize H1 = H at hP hS ⊢
                    have hP : va_P D vwCl [(h0, .inr (4, [.int 0, .ref ow, .int 0, .int (nI w), .int 0, .ref cl, .ref tu, .int (nI k), .ref lk, .ref f1, .ref s2, .ref ms, .ref nx, .ref bs, .int fd])), (ow, .inl (cJ, 3, .inr (.inl fo))), (cl, .inl (cI, 36, .inl cs)), (tu, .inl (cI, 36, .inl ts)), (lk, .inl (cJ, 3, .inr (.inl lo))), (f1, .inl (cJ, 6, .inr (.inl ff))), (s2, .inl (cJ, 6, .inr (.inl sf))), (ms, .inl (cI, 6, .inl mm)), (nx, .inl (cI, 6, .inl nf)), (bs, .inl (cI, 6, .inl bf))] H := hP.sub (ws' := [(h0, .inr (4, [.int 0, .ref ow, .int 0, .int (nI w), .int 0, .ref cl, .ref tu, .int (nI k), .ref lk, .ref f1, .ref s2, .ref ms, .ref nx, .ref bs, .int fd])), (ow, .inl (cJ, 3, .inr (.inl fo))), (cl, .inl (cI, 36, .inl cs)), (tu, .inl (cI, 36, .inl ts)), (lk, .inl (cJ, 3, .inr (.inl lo))), (f1, .inl (cJ, 6, .inr (.inl ff))), (s2, .inl (cJ, 6, .inr (.inl sf))), (ms, .inl (cI, 6, .inl mm)), (nx, .inl (cI, 6, .inl nf)), (bs, .inl (cI, 6, .inl bf))]) [0, 1, 2, 3, 4, 5, 6, 7, 8, 9] rfl
                    have hD : va_D A [(h0, .inr (4, [.int 0, .ref ow, .int 0, .int (nI w), .int 0, .ref cl, .ref tu, .int (nI k), .ref lk, .ref f1, .ref s2, .ref ms, .ref nx, .ref bs, .int fd])), (ow, .inl (cJ, 3, .inr (.inl fo))), (cl, .inl (cI, 36, .inl cs)), (tu, .inl (cI, 36, .inl ts)), (lk, .inl (cJ, 3, .inr (.inl lo))), (f1, .inl (cJ, 6, .inr (.inl ff))), (s2, .inl (cJ, 6, .inr (.inl sf))), (ms, .inl (cI, 6, .inl mm)), (nx, .inl (cI, 6, .inl nf)), (bs, .inl (cI, 6, .inl bf))] := hD.sub (ws' := [(h0, .inr (4, [.int 0, .ref ow, .int 0, .int (nI w), .int 0, .ref cl, .ref tu, .int (nI k), .ref lk, .ref f1, .ref s2, .ref ms, .ref nx, .ref bs, .int fd])), (ow, .inl (cJ, 3, .inr (.inl fo))), (cl, .inl (cI, 36, .inl cs)), (tu, .inl (cI, 36, .inl ts)), (lk, .inl (cJ, 3, .inr (.inl lo))), (f1, .inl (cJ, 6, .inr (.inl ff))), (s2, .inl (cJ, 6, .inr (.inl sf))), (ms, .inl (cI, 6, .inl mm)), (nx, .inl (cI, 6, .inl nf)), (bs, .inl (cI, 6, .inl bf))]) [0, 1, 2, 3, 4, 5, 6, 7, 8, 9] (by decide) rfl
                    obtain rfl := hw68.symm
                    refine pk_b (P := 0 = 0) (fun b68 => ?_) (fun b68 => ?_)
                    · refine lv_if_ne (tgt := 76) hx hb dX7_put_71 (by decide) (fun c71 => ?_) (fun c71 => ?_)
                      · refine lv_aload_n hx hb dX7_put_76 rfl (lv_at hl 1 rfl) ?_
                        refine va_get (D := D) (ci := 4) (v := .ref ow) (C := RX7) (T := TX7) (N := 15) hx hb hts hinX7 hown hK hP 0 rfl rfl 1 (by decide) hfl7 (fun _ h9 => h9) rfl dX7_put_77 ?_
                        refine lv_aload_n hx hb dX7_put_80 rfl (lv_at hl 1 rfl) ?_
                        refine va_get (D := D) (ci := 4) (v := .int (nI w)) (C := RX7) (T := TX7) (N := 15) hx hb hts hinX7 hown hK hP 0 rfl rfl 3 (by decide) hfl13 (fun _ h9 => h9) rfl dX7_put_81 ?_
                        refine lv_dup2_11 hx hb dX7_put_84 rfl rfl ?_
                        refine va_lald hx hb hK hP 1 1 rfl rfl (vp_in_nI (n := w) (N := 3) (by omega) (by decide)) dX7_put_85 ?_
                        refine pk_tl (y := (fo w)) (congrArg fo (pk_cl w)) ?_
                        refine lv_lconst (v := 1) hx hb dX7_put_86 (by decide) ?_
                        refine lv_iload_n hx hb dX7_put_87 rfl (lv_at hl 2 rfl) ?_
                        refine lv_lshl (v := jshl 1 (nI j)) hx hb dX7_put_88 rfl ?_
                        refine lv_topl (fun x88 ex88 => ?_)
                        refine lv_lor hx hb dX7_put_89 ?_
                        refine lv_topl (fun x89 ex89 => ?_)
                        refine va_last hx hb hK hP hD hS 1 1 rfl rfl (vp_in_nI (n := w) (N := 3) (by omega) (by decide)) dX7_put_90 (fun H locs hP hD hS => ?_)
                        have hu90 : ((nI w) : Int32).toNatClampNeg = w := pk_cl w
                        rw [hu90] at hP hD
                        have hP : va_P D vwCl [(h0, .inr (4, [.int 0, .ref ow, .int 0, .int (nI w), .int 0, .ref cl, .ref tu, .int (nI k), .ref lk, .ref f1, .ref s2, .ref ms, .ref nx, .ref bs, .int fd])), (ow, .inl (cJ, 3, .inr (.inl (vp_updL fo w x89)))), (cl, .inl (cI, 36, .inl cs)), (tu, .inl (cI, 36, .inl ts)), (lk, .inl (cJ, 3, .inr (.inl lo))), (f1, .inl (cJ, 6, .inr (.inl ff))), (s2, .inl (cJ, 6, .inr (.inl sf))), (ms, .inl (cI, 6, .inl mm)), (nx, .inl (cI, 6, .inl nf)), (bs, .inl (cI, 6, .inl bf))] H := hP
                        have hD : va_D A [(h0, .inr (4, [.int 0, .ref ow, .int 0, .int (nI w), .int 0, .ref cl, .ref tu, .int (nI k), .ref lk, .ref f1, .ref s2, .ref ms, .ref nx, .ref bs, .int fd])), (ow, .inl (cJ, 3, .inr (.inl (vp_updL fo w x89)))), (cl, .inl (cI, 36, .inl cs)), (tu, .inl (cI, 36, .inl ts)), (lk, .inl (cJ, 3, .inr (.inl lo))), (f1, .inl (cJ, 6, .inr (.inl ff))), (s2, .inl (cJ, 6, .inr (.inl sf))), (ms, .inl (cI, 6, .inl mm)), (nx, .inl (cI, 6, .inl nf)), (bs, .inl (cI, 6, .inl bf))] := hD
                        refine lv_aload_n hx hb dX7_put_91 rfl (lv_at hl 1 rfl) ?_
                        refine va_get (D := D) (ci := 4) (v := .ref cl) (C := RX7) (T := TX7) (N := 15) hx hb hts hinX7 hown hK hP 0 rfl rfl 5 (by decide) hfl17 (fun _ h9 => h9) rfl dX7_put_92 ?_
                        refine lv_aload_n hx hb dX7_put_95 rfl (lv_at hl 1 rfl) ?_
                        refine va_get (D := D) (ci := 4) (v := .int (nI k)) (C := RX7) (T := TX7) (N := 15) hx hb hts hinX7 hown hK hP 0 rfl rfl 7 (by decide) hfl83 (fun _ h9 => h9) rfl dX7_put_96 ?_
                        refine lv_iload_n hx hb dX7_put_99 rfl (lv_at hl 2 rfl) ?_
                        refine va_iast hx hb hK hP hD hS 2 0 rfl rfl (vp_in_nI (n := k) (N := 36) (by omega) (by decide)) dX7_put_100 (fun H locs hP hD hS => ?_)
                        have hu100 : ((nI k) : Int32).toNatClampNeg = k := pk_cl k
                        rw [hu100] at hP hD
                        have hP : va_P D vwCl [(h0, .inr (4, [.int 0, .ref ow, .int 0, .int (nI w), .int 0, .ref cl, .ref tu, .int (nI k), .ref lk, .ref f1, .ref s2, .ref ms, .ref nx, .ref bs, .int fd])), (ow, .inl (cJ, 3, .inr (.inl (vp_updL fo w x89)))), (cl, .inl (cI, 36, .inl (upd cs k (nI j)))), (tu, .inl (cI, 36, .inl ts)), (lk, .inl (cJ, 3, .inr (.inl lo))), (f1, .inl (cJ, 6, .inr (.inl ff))), (s2, .inl (cJ, 6, .inr (.inl sf))), (ms, .inl (cI, 6, .inl mm)), (nx, .inl (cI, 6, .inl nf)), (bs, .inl (cI, 6, .inl bf))] H := hP
                        have hD : va_D A [(h0, .inr (4, [.int 0, .ref ow, .int 0, .int (nI w), .int 0, .ref cl, .ref tu, .int (nI k), .ref lk, .ref f1, .ref s2, .ref ms, .ref nx, .ref bs, .int fd])), (ow, .inl (cJ, 3, .inr (.inl (vp_updL fo w x89)))), (cl, .inl (cI, 36, .inl (upd cs k (nI j)))), (tu, .inl (cI, 36, .inl ts)), (lk, .inl (cJ, 3, .inr (.inl lo))), (f1, .inl (cJ, 6, .inr (.inl ff))), (s2, .inl (cJ, 6, .inr (.inl sf))), (ms, .inl (cI, 6, .inl mm)), (nx, .inl (cI, 6, .inl nf)), (bs, .inl (cI, 6, .inl bf))] := hD
                        refine lv_aload_n hx hb dX7_put_101 rfl (lv_at hl 1 rfl) ?_
                        refine va_get (D := D) (ci := 4) (v := .ref tu) (C := RX7) (T := TX7) (N := 15) hx hb hts hinX7 hown hK hP 0 rfl rfl 6 (by decide) hfl21 (fun _ h9 => h9) rfl dX7_put_102 ?_
                        refine lv_aload_n hx hb dX7_put_105 rfl (lv_at hl 1 rfl) ?_
                        refine va_get (D := D) (ci := 4) (v := .int (nI k)) (C := RX7) (T := TX7) (N := 15) hx hb hts hinX7 hown hK hP 0 rfl rfl 7 (by decide) hfl83 (fun _ h9 => h9) rfl dX7_put_106 ?_
                        refine lv_iconst (v := (-1)) hx hb dX7_put_109 (by decide) ?_
                        refine va_iast hx hb hK hP hD hS 3 0 rfl rfl (vp_in_nI (n := k) (N := 36) (by omega) (by decide)) dX7_put_110 (fun H locs hP hD hS => ?_)
                        have hu110 : ((nI k) : Int32).toNatClampNeg = k := pk_cl k
                        rw [hu110] at hP hD
                        have hP : va_P D vwCl [(h0, .inr (4, [.int 0, .ref ow, .int 0, .int (nI w), .int 0, .ref cl, .ref tu, .int (nI k), .ref lk, .ref f1, .ref s2, .ref ms, .ref nx, .ref bs, .int fd])), (ow, .inl (cJ, 3, .inr (.inl (vp_updL fo w x89)))), (cl, .inl (cI, 36, .inl (upd cs k (nI j)))), (tu, .inl (cI, 36, .inl (upd ts k (-1)))), (lk, .inl (cJ, 3, .inr (.inl lo))), (f1, .inl (cJ, 6, .inr (.inl ff))), (s2, .inl (cJ, 6, .inr (.inl sf))), (ms, .inl (cI, 6, .inl mm)), (nx, .inl (cI, 6, .inl nf)), (bs, .inl (cI, 6, .inl bf))] H := hP
                        have hD : va_D A [(h0, .inr (4, [.int 0, .ref ow, .int 0, .int (nI w), .int 0, .ref cl, .ref tu, .int (nI k), .ref lk, .ref f1, .ref s2, .ref ms, .ref nx, .ref bs, .int fd])), (ow, .inl (cJ, 3, .inr (.inl (vp_updL fo w x89)))), (cl, .inl (cI, 36, .inl (upd cs k (nI j)))), (tu, .inl (cI, 36, .inl (upd ts k (-1)))), (lk, .inl (cJ, 3, .inr (.inl lo))), (f1, .inl (cJ, 6, .inr (.inl ff))), (s2, .inl (cJ, 6, .inr (.inl sf))), (ms, .inl (cI, 6, .inl mm)), (nx, .inl (cI, 6, .inl nf)), (bs, .inl (cI, 6, .inl bf))] := hD
                        refine lv_aload_n hx hb dX7_put_111 rfl (lv_at hl 1 rfl) ?_
                        refine lv_dup hx hb dX7_put_112 rfl ?_
                        refine va_get (D := D) (ci := 4) (v := .int (nI k)) (C := RX7) (T := TX7) (N := 15) hx hb hts hinX7 hown hK hP 0 rfl rfl 7 (by decide) hfl83 (fun _ h9 => h9) rfl dX7_put_113 ?_
                        refine lv_iconst (v := 1) hx hb dX7_put_116 (by decide) ?_
                        refine lv_iadd hx hb dX7_put_117 ?_
                        refine pk_ti (y := nI (k + 1)) (nI_add k 1) ?_
                        refine va_put (D := D) (ci := 4) (v := .int (nI (k + 1))) (ty := .int) (C := RX7) (T := TX7) (N := 15) hx hb hts hinX7 tyX7 tyX7_ok nmX7 hown hK hP hD hS 0 rfl rfl 7 (by decide) hfl83 (fun _ h9 => h9) rfl (by decide +kernel) rfl rfl (Nat.le_of_ble_eq_true rfl) dX7_put_118 (fun H locs hP hD hS => ?_)
                        have hP : va_P D vwCl [(h0, .inr (4, [.int 0, .ref ow, .int 0, .int (nI w), .int 0, .ref cl, .ref tu, .int (nI (k + 1)), .ref lk, .ref f1, .ref s2, .ref ms, .ref nx, .ref bs, .int fd])), (ow, .inl (cJ, 3, .inr (.inl (vp_updL fo w x89)))), (cl, .inl (cI, 36, .inl (upd cs k (nI j)))), (tu, .inl (cI, 36, .inl (upd ts k (-1)))), (lk, .inl (cJ, 3, .inr (.inl lo))), (f1, .inl (cJ, 6, .inr (.inl ff))), (s2, .inl (cJ, 6, .inr (.inl sf))), (ms, .inl (cI, 6, .inl mm)), (nx, .inl (cI, 6, .inl nf)), (bs, .inl (cI, 6, .inl bf))] H := hP
                        have hD : va_D A [(h0, .inr (4, [.int 0, .ref ow, .int 0, .int (nI w), .int 0, .ref cl, .ref tu, .int (nI (k + 1)), .ref lk, .ref f1, .ref s2, .ref ms, .ref nx, .ref bs, .int fd])), (ow, .inl (cJ, 3, .inr (.inl (vp_updL fo w x89)))), (cl, .inl (cI, 36, .inl (upd cs k (nI j)))), (tu, .inl (cI, 36, .inl (upd ts k (-1)))), (lk, .inl (cJ, 3, .inr (.inl lo))), (f1, .inl (cJ, 6, .inr (.inl ff))), (s2, .inl (cJ, 6, .inr (.inl sf))), (ms, .inl (cI, 6, .inl mm)), (nx, .inl (cI, 6, .inl nf)), (bs, .inl (cI, 6, .inl bf))] := hD
                        refine lv_aload_n hx hb dX7_put_121 rfl (lv_at hl 1 rfl) ?_
                        refine lv_iconst (v := 1) hx hb dX7_put_122 (by decide) ?_
                        refine va_put (D := D) (ci := 4) (v := .int 1) (ty := .boolean) (C := RX7) (T := TX7) (N := 15) hx hb hts hinX7 tyX7 tyX7_ok nmX7 hown hK hP hD hS 0 rfl rfl 4 (by decide) hfl76 (fun _ h9 => h9) rfl (by decide +kernel) rfl rfl (Nat.le_of_ble_eq_true rfl) dX7_put_123 (fun H locs hP hD hS => ?_)
                        have hP : va_P D vwCl [(h0, .inr (4, [.int 0, .ref ow, .int 0, .int (nI w), .int 1, .ref cl, .ref tu, .int (nI (k + 1)), .ref lk, .ref f1, .ref s2, .ref ms, .ref nx, .ref bs, .int fd])), (ow, .inl (cJ, 3, .inr (.inl (vp_updL fo w x89)))), (cl, .inl (cI, 36, .inl (upd cs k (nI j)))), (tu, .inl (cI, 36, .inl (upd ts k (-1)))), (lk, .inl (cJ, 3, .inr (.inl lo))), (f1, .inl (cJ, 6, .inr (.inl ff))), (s2, .inl (cJ, 6, .inr (.inl sf))), (ms, .inl (cI, 6, .inl mm)), (nx, .inl (cI, 6, .inl nf)), (bs, .inl (cI, 6, .inl bf))] H := hP
                        have hD : va_D A [(h0, .inr (4, [.int 0, .ref ow, .int 0, .int (nI w), .int 1, .ref cl, .ref tu, .int (nI (k + 1)), .ref lk, .ref f1, .ref s2, .ref ms, .ref nx, .ref bs, .int fd])), (ow, .inl (cJ, 3, .inr (.inl (vp_updL fo w x89)))), (cl, .inl (cI, 36, .inl (upd cs k (nI j)))), (tu, .inl (cI, 36, .inl (upd ts k (-1)))), (lk, .inl (cJ, 3, .inr (.inl lo))), (f1, .inl (cJ, 6, .inr (.inl ff))), (s2, .inl (cJ, 6, .inr (.inl sf))), (ms, .inl (cI, 6, .inl mm)), (nx, .inl (cI, 6, .inl nf)), (bs, .inl (cI, 6, .inl bf))] := hD
                        refine lv_aload_n hx hb dX7_put_126 rfl (lv_at hl 1 rfl) ?_
                        refine va_get (D := D) (ci := 4) (v := .ref ow) (C := RX7) (T := TX7) (N := 15) hx hb hts hinX7 hown hK hP 0 rfl rfl 1 (by decide) hfl7 (fun _ h9 => h9) rfl dX7_put_127 ?_
                        refine lv_aload_n hx hb dX7_put_130 rfl (lv_at hl 1 rfl) ?_
                        refine va_get (D := D) (ci := 4) (v := .int (nI w)) (C := RX7) (T := TX7) (N := 15) hx hb hts hinX7 hown hK hP 0 rfl rfl 3 (by decide) hfl13 (fun _ h9 => h9) rfl dX7_put_131 ?_
                        refine va_lald hx hb hK hP 1 1 rfl rfl (vp_in_nI (n := w) (N := 3) (by omega) (by decide)) dX7_put_134 ?_
                        refine pk_tl (y := @PUT) ((congrArg (vp_updL fo w x89) (pk_cl w)).trans (pk_uLs)) ?_
                        refine vp_callSi (W.runS (As := [.long @PUT]) (rest := []) ⟨hx, hb, hml, hown, hts⟩ (c_X7_hasLine l (@PUT)) (va_cwS 1 hts gX7_put_X7_hasLine rfl rfl rfl (by decide +kernel) ⟨Nat.le_of_ble_eq_true rfl, Nat.le_of_ble_eq_true rfl⟩) ⟨px_blind0, fun U hU hW => ⟨rfl, trivial⟩⟩ rfl rfl hl.1 rfl (lv_room (Nat.le_of_ble_eq_true rfl)) dX7_put_135 ⟨(Nat.le_of_ble_eq_true rfl), (Nat.le_of_ble_eq_true rfl)⟩) (fun r135 er135 => ?_)
                        obtain rfl := er135.symm
                        refine pk_b (P := 0 < msum (@PUT) 0 5 32) (fun b135 => ?_) (fun b135 => ?_)
                        · refine lv_if_eq (tgt := 154) hx hb dX7_put_138 (by decide) (fun c138 => ?_) (fun c138 => ?_)
                          · exact absurd c138 (by decide)
                          · refine lv_aload_n hx hb dX7_put_141 rfl (lv_at hl 1 rfl) ?_
                            refine lv_aload_n hx hb dX7_put_142 rfl (lv_at hl 1 rfl) ?_
                            refine va_get (D := D) (ci := 4) (v := .int (nI w)) (C := RX7) (T := TX7) (N := 15) hx hb hts hinX7 hown hK hP 0 rfl rfl 3 (by decide) hfl13 (fun _ h9 => h9) rfl dX7_put_143 ?_
                            refine va_put (D := D) (ci := 4) (v := .int (nI w)) (ty := .int) (C := RX7) (T := TX7) (N := 15) hx hb hts hinX7 tyX7 tyX7_ok nmX7 hown hK hP hD hS 0 rfl rfl 2 (by decide) hfl73 (fun _ h9 => h9) rfl (by decide +kernel) rfl rfl (Nat.le_of_ble_eq_true rfl) dX7_put_146 (fun H locs hP hD hS => ?_)
                            have hP : va_P D vwCl [(h0, .inr (4, [.int 0, .ref ow, .int (nI w), .int (nI w), .int 1, .ref cl, .ref tu, .int (nI (k + 1)), .ref lk, .ref f1, .ref s2, .ref ms, .ref nx, .ref bs, .int fd])), (ow, .inl (cJ, 3, .inr (.inl (vp_updL fo w x89)))), (cl, .inl (cI, 36, .inl (upd cs k (nI j)))), (tu, .inl (cI, 36, .inl (upd ts k (-1)))), (lk, .inl (cJ, 3, .inr (.inl lo))), (f1, .inl (cJ, 6, .inr (.inl ff))), (s2, .inl (cJ, 6, .inr (.inl sf))), (ms, .inl (cI, 6, .inl mm)), (nx, .inl (cI, 6, .inl nf)), (bs, .inl (cI, 6, .inl bf))] H := hP
                            have hD : va_D A [(h0, .inr (4, [.int 0, .ref ow, .int (nI w), .int (nI w), .int 1, .ref cl, .ref tu, .int (nI (k + 1)), .ref lk, .ref f1, .ref s2, .ref ms, .ref nx, .ref bs, .int fd])), (ow, .inl (cJ, 3, .inr (.inl (vp_updL fo w x89)))), (cl, .inl (cI, 36, .inl (upd cs k (nI j)))), (tu, .inl (cI, 36, .inl (upd ts k (-1)))), (lk, .inl (cJ, 3, .inr (.inl lo))), (f1, .inl (cJ, 6, .inr (.inl ff))), (s2, .inl (cJ, 6, .inr (.inl sf))), (ms, .inl (cI, 6, .inl mm)), (nx, .inl (cI, 6, .inl nf)), (bs, .inl (cI, 6, .inl bf))] := hD
                            refine lv_aload_n hx hb dX7_put_149 rfl (lv_at hl 1 rfl) ?_
                            refine lv_iconst (v := 0) hx hb dX7_put_150 (by decide) ?_
                            refine va_put (D := D) (ci := 4) (v := .int 0) (ty := .boolean) (C := RX7) (T := TX7) (N := 15) hx hb hts hinX7 tyX7 tyX7_ok nmX7 hown hK hP hD hS 0 rfl rfl 4 (by decide) hfl76 (fun _ h9 => h9) rfl (by decide +kernel) rfl rfl (Nat.le_of_ble_eq_true rfl) dX7_put_151 (fun H locs hP hD hS => ?_)
                            have hP : va_P D vwCl [(h0, .inr (4, [.int 0, .ref ow, .int (nI w), .int (nI w), .int 0, .ref cl, .ref tu, .int (nI (k + 1)), .ref lk, .ref f1, .ref s2, .ref ms, .ref nx, .ref bs, .int fd])), (ow, .inl (cJ, 3, .inr (.inl (vp_updL fo w x89)))), (cl, .inl (cI, 36, .inl (upd cs k (nI j)))), (tu, .inl (cI, 36, .inl (upd ts k (-1)))), (lk, .inl (cJ, 3, .inr (.inl lo))), (f1, .inl (cJ, 6, .inr (.inl ff))), (s2, .inl (cJ, 6, .inr (.inl sf))), (ms, .inl (cI, 6, .inl mm)), (nx, .inl (cI, 6, .inl nf)), (bs, .inl (cI, 6, .inl bf))] H := hP
                            have hD : va_D A [(h0, .inr (4, [.int 0, .ref ow, .int (nI w), .int (nI w), .int 0, .ref cl, .ref tu, .int (nI (k + 1)), .ref lk, .ref f1, .ref s2, .ref ms, .ref nx, .ref bs, .int fd])), (ow, .inl (cJ, 3, .inr (.inl (vp_updL fo w x89)))), (cl, .inl (cI, 36, .inl (upd cs k (nI j)))), (tu, .inl (cI, 36, .inl (upd ts k (-1)))), (lk, .inl (cJ, 3, .inr (.inl lo))), (f1, .inl (cJ, 6, .inr (.inl ff))), (s2, .inl (cJ, 6, .inr (.inl sf))), (ms, .inl (cI, 6, .inl mm)), (nx, .inl (cI, 6, .inl nf)), (bs, .inl (cI, 6, .inl bf))] := hD
                            refine lv_aload_n hx hb dX7_put_154 rfl (lv_at hl 1 rfl) ?_
                            refine va_get (D := D) (ci := 4) (v := .int (nI w)) (C := RX7) (T := TX7) (N := 15) hx hb hts hinX7 hown hK hP 0 rfl rfl 2 (by decide) hfl73 (fun _ h9 => h9) rfl dX7_put_155 ?_
                            obtain rfl := ex33.symm; obtain rfl := ex88.symm; obtain rfl := ex89.symm
                            refine W.iret (v := (nI w)) hx hb hr (fun tt ht hW => ⟨⟨(nI w), (), rfl, ?_, by rw [ht]; exact hP, va_K.moved hW.alike hK, hD⟩, hS.F ht⟩) hS.2.2 dX7_put_158
                            skip; first | exact ⟨rfl, (if_pos b135).symm, (if_pos b135).symm⟩ | exact ⟨rfl, (if_neg b135).symm, (if_neg b135).symm⟩
                        · refine lv_if_eq (tgt := 154) hx hb dX7_put_138 (by decide) (fun c138 => ?_) (fun c138 => ?_)
                          · refine lv_aload_n hx hb dX7_put_154 rfl (lv_at hl 1 rfl) ?_
                            refine va_get (D := D) (ci := 4) (v := .int 0) (C := RX7) (T := TX7) (N := 15) hx hb hts hinX7 hown hK hP 0 rfl rfl 2 (by decide) hfl73 (fun _ h9 => h9) rfl dX7_put_155 ?_
                            obtain rfl := ex33.symm; obtain rfl := ex88.symm; obtain rfl := ex89.symm
                            refine W.iret (v := 0) hx hb hr (fun tt ht hW => ⟨⟨0, (), rfl, ?_, by rw [ht]; exact hP, va_K.moved hW.alike hK, hD⟩, hS.F ht⟩) hS.2.2 dX7_put_158
                            skip; first | exact ⟨rfl, (if_pos b135).symm, (if_pos b135).symm⟩ | exact ⟨rfl, (if_neg b135).symm, (if_neg b135).symm⟩
                          · exact absurd c138 (by decide)
                      · exact absurd c71 (by decide)
                    · refine lv_if_ne (tgt := 76) hx hb dX7_put_71 (by decide) (fun c71 => ?_) (fun c71 => ?_)
                      · exact absurd c71 (by decide)
                      · refine lv_iconst (v := 0) hx hb dX7_put_74 (by decide) ?_
                        obtain rfl := ex33.symm
                        refine W.iret (v := 0) hx hb hr (fun tt ht hW => ⟨⟨0, (), rfl, ?_, by rw [ht]; exact hP, va_K.moved hW.alike hK, hD⟩, hS.F ht⟩) hS.2.2 dX7_put_75
                        skip; first | exact ⟨rfl, (if_pos b135).symm, (if_pos b135).symm⟩ | exact ⟨rfl, (if_neg b135).symm, (if_neg b135).symm⟩
                  · exact absurd c60 (by decide)
                · exact absurd c52 (by decide)
              · exact absurd (cell_ok hj) b49
            · exact absurd c38 (by decide)
  · exact absurd (cell_ok hj) b1
