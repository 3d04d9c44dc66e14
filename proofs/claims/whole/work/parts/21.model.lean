set_option maxHeartbeats 400000 in
set_option maxRecDepth 100000 in
theorem c_X7_thrown (l : Launch) (D : va_G) (cI cJ : ClassId) (h0 ow cl tu lk f1 s2 ms nx bs : Nat) (th re mt fd : Int32) (w k : Nat) (fo lo ff sf : Nat → Int64) (cs ts mm nf bf : Nat → Int32)  : Met l yX7_thrown wsX7_thrown ({ frames := 0, cells := 0, slots := 0, locals := 0 } : Room) (va_Pc [.ref h0] (px_W D [(h0, .inr (4, [.int th, .ref ow, .int re, .int (nI w), .int mt, .ref cl, .ref tu, .int (nI k), .ref lk, .ref f1, .ref s2, .ref ms, .ref nx, .ref bs, .int fd])), (ow, .inl (cJ, 3, .inr (.inl fo))), (cl, .inl (cI, 36, .inl cs)), (tu, .inl (cI, 36, .inl ts)), (lk, .inl (cJ, 3, .inr (.inl lo))), (f1, .inl (cJ, 6, .inr (.inl ff))), (s2, .inl (cJ, 6, .inr (.inl sf))), (ms, .inl (cI, 6, .inl mm)), (nx, .inl (cI, 6, .inl nf)), (bs, .inl (cI, 6, .inl bf))] [(cI, .int), (cJ, .long)])) (vp_Si (fun r => r = th)) 0 0 (fun _ => False) := by
  refine Met.ofW (cc := cX7_thrown) (maxL := 1) (ret := (some .int)) (by decide) rfl ?_
  intro p e s m args below meth c s₁ B hml hv
  obtain ⟨rfl, hP, hK⟩ := hv
  have hx := B.exec
  have hb := B.bytes
  have hr := B.returns
  have hts := atoms_spec (ws := wsX7_thrown) B.pre
  have hown : s.vm.findClass RX7 = some m.cls := findClass_of_methodNamed B.named
  have hlocks := B.notSynchronized
  have hinX7 : ∀ w ∈ wsX70, w ∈ wsX7_thrown := by decide +kernel
  have hfl42 : (Cond.fieldLink RX7 42 "TwistquadModel" "thrown" "I").before ([.ref h0] : List Value).toArray s = true := hts _ (by decide +kernel)
  have hl := lv_entry ([.ref h0]) (n := 1) (Nat.le_of_ble_eq_true rfl)
  rw [lg_entry_eq]
  generalize (lg_sl ([.ref h0]) ++ List.replicate (1 - (lg_sl ([.ref h0])).length) Slot.unset).toArray = ls at hl ⊢
  have hl : lv_has ls 1 [(0, .ref h0)] := hl
  refine lv_aload_n hx hb dX7_thrown_0 rfl (lv_at hl 0 rfl) ?_
  refine va_get (D := D) (ci := 4) (v := .int th) (C := RX7) (T := TX7) (N := 15) hx hb hts hinX7 hown hK hP 0 rfl rfl 0 (by decide) hfl42 (fun _ h9 => h9) rfl dX7_thrown_1 ?_
  refine W.iret (v := th) hx hb hr (fun tt ht hW => ⟨th, rfl, ?_, ht⟩) (fun _ h => nomatch h) dX7_thrown_4
  rfl

set_option maxHeartbeats 400000 in
set_option maxRecDepth 100000 in
theorem c_X7_goesWell (l : Launch) (D : va_G) (cI cJ : ClassId) (sz : Nat) (h0 ow cl tu lk f1 s2 ms nx bs : Nat) (th re mt fd : Int32) (w k : Nat) (fo lo ff sf : Nat → Int64) (cs ts mm nf bf : Nat → Int32) (v : Int32) : Met l yX7_goesWell wsX7_goesWell ({ frames := 0, cells := 0, slots := 0, locals := 0 } : Room) (va_Pc [.ref h0, .int v] (pv_C D cI cJ [(h0, .inr (4, [.int th, .ref ow, .int re, .int (nI w), .int mt, .ref cl, .ref tu, .int (nI k), .ref lk, .ref f1, .ref s2, .ref ms, .ref nx, .ref bs, .int fd])), (ow, .inl (cJ, 3, .inr (.inl fo))), (cl, .inl (cI, 36, .inl cs)), (tu, .inl (cI, 36, .inl ts)), (lk, .inl (cJ, 3, .inr (.inl lo))), (f1, .inl (cJ, 6, .inr (.inl ff))), (s2, .inl (cJ, 6, .inr (.inl sf))), (ms, .inl (cI, 6, .inl mm)), (nx, .inl (cI, 6, .inl nf)), (bs, .inl (cI, 6, .inl bf))] sz)) (va_Qi (fun (r : Int32) (u : Unit) => r = if v = 0 then 1 else 0) (fun (u : Unit) => pv_B D cI cJ (va_A [(h0, .inr (4, [.int th, .ref ow, .int re, .int (nI w), .int mt, .ref cl, .ref tu, .int (nI k), .ref lk, .ref f1, .ref s2, .ref ms, .ref nx, .ref bs, .int fd])), (ow, .inl (cJ, 3, .inr (.inl fo))), (cl, .inl (cI, 36, .inl cs)), (tu, .inl (cI, 36, .inl ts)), (lk, .inl (cJ, 3, .inr (.inl lo))), (f1, .inl (cJ, 6, .inr (.inl ff))), (s2, .inl (cJ, 6, .inr (.inl sf))), (ms, .inl (cI, 6, .inl mm)), (nx, .inl (cI, 6, .inl nf)), (bs, .inl (cI, 6, .inl bf))] sz) [(h0, .inr (4, [.int v, .ref ow, .int re, .int (nI w), .int mt, .ref cl, .ref tu, .int (nI k), .ref lk, .ref f1, .ref s2, .ref ms, .ref nx, .ref bs, .int fd])), (ow, .inl (cJ, 3, .inr (.inl fo))), (cl, .inl (cI, 36, .inl cs)), (tu, .inl (cI, 36, .inl ts)), (lk, .inl (cJ, 3, .inr (.inl lo))), (f1, .inl (cJ, 6, .inr (.inl ff))), (s2, .inl (cJ, 6, .inr (.inl sf))), (ms, .inl (cI, 6, .inl mm)), (nx, .inl (cI, 6, .inl nf)), (bs, .inl (cI, 6, .inl bf))]) (va_A [(h0, .inr (4, [.int th, .ref ow, .int re, .int (nI w), .int mt, .ref cl, .ref tu, .int (nI k), .ref lk, .ref f1, .ref s2, .ref ms, .ref nx, .ref bs, .int fd])), (ow, .inl (cJ, 3, .inr (.inl fo))), (cl, .inl (cI, 36, .inl cs)), (tu, .inl (cI, 36, .inl ts)), (lk, .inl (cJ, 3, .inr (.inl lo))), (f1, .inl (cJ, 6, .inr (.inl ff))), (s2, .inl (cJ, 6, .inr (.inl sf))), (ms, .inl (cI, 6, .inl mm)), (nx, .inl (cI, 6, .inl nf)), (bs, .inl (cI, 6, .inl bf))] sz)) 0 0 (va_A [(h0, .inr (4, [.int th, .ref ow, .int re, .int (nI w), .int mt, .ref cl, .ref tu, .int (nI k), .ref lk, .ref f1, .ref s2, .ref ms, .ref nx, .ref bs, .int fd])), (ow, .inl (cJ, 3, .inr (.inl fo))), (cl, .inl (cI, 36, .inl cs)), (tu, .inl (cI, 36, .inl ts)), (lk, .inl (cJ, 3, .inr (.inl lo))), (f1, .inl (cJ, 6, .inr (.inl ff))), (s2, .inl (cJ, 6, .inr (.inl sf))), (ms, .inl (cI, 6, .inl mm)), (nx, .inl (cI, 6, .inl nf)), (bs, .inl (cI, 6, .inl bf))] sz) := by
  refine Met.ofW (cc := cX7_goesWell) (maxL := 2) (ret := (some .boolean)) (by decide) rfl ?_
  intro p e s m args below meth c s₁ B hml hv
  obtain ⟨rfl, rfl, hP, hK, hD0⟩ := hv
  have hx := B.exec
  have hb := B.bytes
  have hr := B.returns
  have hts := atoms_spec (ws := wsX7_goesWell) B.pre
  have hown : s.vm.findClass RX7 = some m.cls := findClass_of_methodNamed B.named
  have hlocks := B.notSynchronized
  have hD := hD0.self (sz := s.heap.size)
  generalize hAe : va_A [(h0, .inr (4, [.int th, .ref ow, .int re, .int (nI w), .int mt, .ref cl, .ref tu, .int (nI k), .ref lk, .ref f1, .ref s2, .ref ms, .ref nx, .ref bs, .int fd])), (ow, .inl (cJ, 3, .inr (.inl fo))), (cl, .inl (cI, 36, .inl cs)), (tu, .inl (cI, 36, .inl ts)), (lk, .inl (cJ, 3, .inr (.inl lo))), (f1, .inl (cJ, 6, .inr (.inl ff))), (s2, .inl (cJ, 6, .inr (.inl sf))), (ms, .inl (cI, 6, .inl mm)), (nx, .inl (cI, 6, .inl nf)), (bs, .inl (cI, 6, .inl bf))] s.heap.size = A at hD ⊢
  have hA : ∀ q : Nat, s.heap.size ≤ q → A q := fun q h => by rw [← hAe]; exact Or.inr h
  have hS : va_S A s.heap s.heap [] := va_S.rf
  have hinX7 : ∀ w ∈ wsX70, w ∈ wsX7_goesWell := by decide +kernel
  have hfl42 : (Cond.fieldLink RX7 42 "TwistquadModel" "thrown" "I").before ([.ref h0, .int v] : List Value).toArray s = true := hts _ (by decide +kernel)
  have hl := lv_entry ([.ref h0, .int v]) (n := 2) (Nat.le_of_ble_eq_true rfl)
  rw [lg_entry_eq]
  generalize (lg_sl ([.ref h0, .int v]) ++ List.replicate (2 - (lg_sl ([.ref h0, .int v])).length) Slot.unset).toArray = ls at hl ⊢
  have hl : lv_has ls 2 [(0, .ref h0), (1, .int v)] := hl
  refine lv_aload_n hx hb dX7_goesWell_0 rfl (lv_at hl 0 rfl) ?_
  refine lv_iload_n hx hb dX7_goesWell_1 rfl (lv_at hl 1 rfl) ?_
  refine va_put (D := D) (ci := 4) (v := .int v) (ty := .int) (C := RX7) (T := TX7) (N := 15) hx hb hts hinX7 tyX7 tyX7_ok nmX7 hown hK hP hD hS 0 rfl rfl 0 (by decide) hfl42 (fun _ h9 => h9) rfl (by decide +kernel) rfl rfl (Nat.le_of_ble_eq_true rfl) dX7_goesWell_2 (fun H locs hP hD hS => ?_)
  have hP : va_P D vwCl [(h0, .inr (4, [.int v, .ref ow, .int re, .int (nI w), .int mt, .ref cl, .ref tu, .int (nI k), .ref lk, .ref f1, .ref s2, .ref ms, .ref nx, .ref bs, .int fd])), (ow, .inl (cJ, 3, .inr (.inl fo))), (cl, .inl (cI, 36, .inl cs)), (tu, .inl (cI, 36, .inl ts)), (lk, .inl (cJ, 3, .inr (.inl lo))), (f1, .inl (cJ, 6, .inr (.inl ff))), (s2, .inl (cJ, 6, .inr (.inl sf))), (ms, .inl (cI, 6, .inl mm)), (nx, .inl (cI, 6, .inl nf)), (bs, .inl (cI, 6, .inl bf))] H := hP
  have hD : va_D A [(h0, .inr (4, [.int v, .ref ow, .int re, .int (nI w), .int mt, .ref cl, .ref tu, .int (nI k), .ref lk, .ref f1, .ref s2, .ref ms, .ref nx, .ref bs, .int fd])), (ow, .inl (cJ, 3, .inr (.inl fo))), (cl, .inl (cI, 36, .inl cs)), (tu, .inl (cI, 36, .inl ts)), (lk, .inl (cJ, 3, .inr (.inl lo))), (f1, .inl (cJ, 6, .inr (.inl ff))), (s2, .inl (cJ, 6, .inr (.inl sf))), (ms, .inl (cI, 6, .inl mm)), (nx, .inl (cI, 6, .inl nf)), (bs, .inl (cI, 6, .inl bf))] := hD
  refine lv_iload_n hx hb dX7_goesWell_5 rfl (lv_at hl 1 rfl) ?_
  refine lv_if_ne (tgt := 13) hx hb dX7_goesWell_6 (by decide) (fun c6 => ?_) (fun c6 => ?_)
  · refine lv_iconst (v := 0) hx hb dX7_goesWell_13 (by decide) ?_
    refine W.zret (v := 0) hx hb hr (rfl) (fun tt ht hW => ⟨⟨0, (), rfl, ?_, by rw [ht]; exact hP, va_K.moved hW.alike hK, hD⟩, hS.F ht⟩) hS.2.2 dX7_goesWell_14
    first | rw [if_pos c6] | rw [if_neg c6]
  · refine lv_iconst (v := 1) hx hb dX7_goesWell_9 (by decide) ?_
    refine lv_goto (tgt := 14) hx hb dX7_goesWell_10 (by decide) ?_
    refine W.zret (v := 1) hx hb hr (rfl) (fun tt ht hW => ⟨⟨1, (), rfl, ?_, by rw [ht]; exact hP, va_K.moved hW.alike hK, hD⟩, hS.F ht⟩) hS.2.2 dX7_goesWell_14
    first | rw [if_pos c6] | rw [if_neg c6]

set_option maxHeartbeats 400000 in
set_option maxRecDepth 100000 in
theorem c_X7_turnOwn (l : Launch) (D : va_G) (cI cJ : ClassId) (sz : Nat) (h0 ow cl tu lk f1 s2 ms nx bs : Nat) (th re mt fd : Int32) (w k : Nat) (fo lo ff sf : Nat → Int64) (cs ts mm nf bf : Nat → Int32) (q wy : Nat) (hq : q < 4) (hw : wy < 2) : Met l yX7_turnOwn wsX7_turnOwn ({ frames := 2, cells := 0, slots := 0, locals := 51 } : Room) (va_Pc [.ref h0, .int (nI q), .int (nI wy)] (pv_C D cI cJ [(h0, .inr (4, [.int th, .ref ow, .int re, .int (nI w), .int mt, .ref cl, .ref tu, .int (nI k), .ref lk, .ref f1, .ref s2, .ref ms, .ref nx, .ref bs, .int fd])), (ow, .inl (cJ, 3, .inr (.inl fo))), (cl, .inl (cI, 36, .inl cs)), (tu, .inl (cI, 36, .inl ts)), (lk, .inl (cJ, 3, .inr (.inl lo))), (f1, .inl (cJ, 6, .inr (.inl ff))), (s2, .inl (cJ, 6, .inr (.inl sf))), (ms, .inl (cI, 6, .inl mm)), (nx, .inl (cI, 6, .inl nf)), (bs, .inl (cI, 6, .inl bf))] sz)) (va_Qv (fun (u : Unit) => True) (fun (u : Unit) => pv_B D cI cJ (va_A [(h0, .inr (4, [.int th, .ref ow, .int re, .int (nI w), .int mt, .ref cl, .ref tu, .int (nI k), .ref lk, .ref f1, .ref s2, .ref ms, .ref nx, .ref bs, .int fd])), (ow, .inl (cJ, 3, .inr (.inl fo))), (cl, .inl (cI, 36, .inl cs)), (tu, .inl (cI, 36, .inl ts)), (lk, .inl (cJ, 3, .inr (.inl lo))), (f1, .inl (cJ, 6, .inr (.inl ff))), (s2, .inl (cJ, 6, .inr (.inl sf))), (ms, .inl (cI, 6, .inl mm)), (nx, .inl (cI, 6, .inl nf)), (bs, .inl (cI, 6, .inl bf))] sz) [(h0, .inr (4, [.int th, .ref ow, .int re, .int (nI w), .int mt, .ref cl, .ref tu, .int (nI k), .ref lk, .ref f1, .ref s2, .ref ms, .ref nx, .ref bs, .int fd])), (ow, .inl (cJ, 3, .inr (.inl (vp_updL (vp_updL fo 1 (mturned (fo 1) q wy)) 2 (mturned (fo 2) q wy))))), (cl, .inl (cI, 36, .inl cs)), (tu, .inl (cI, 36, .inl ts)), (lk, .inl (cJ, 3, .inr (.inl lo))), (f1, .inl (cJ, 6, .inr (.inl ff))), (s2, .inl (cJ, 6, .inr (.inl sf))), (ms, .inl (cI, 6, .inl mm)), (nx, .inl (cI, 6, .inl nf)), (bs, .inl (cI, 6, .inl bf))]) (va_A [(h0, .inr (4, [.int th, .ref ow, .int re, .int (nI w), .int mt, .ref cl, .ref tu, .int (nI k), .ref lk, .ref f1, .ref s2, .ref ms, .ref nx, .ref bs, .int fd])), (ow, .inl (cJ, 3, .inr (.inl fo))), (cl, .inl (cI, 36, .inl cs)), (tu, .inl (cI, 36, .inl ts)), (lk, .inl (cJ, 3, .inr (.inl lo))), (f1, .inl (cJ, 6, .inr (.inl ff))), (s2, .inl (cJ, 6, .inr (.inl sf))), (ms, .inl (cI, 6, .inl mm)), (nx, .inl (cI, 6, .inl nf)), (bs, .inl (cI, 6, .inl bf))] sz)) 0 0 (va_A [(h0, .inr (4, [.int th, .ref ow, .int re, .int (nI w), .int mt, .ref cl, .ref tu, .int (nI k), .ref lk, .ref f1, .ref s2, .ref ms, .ref nx, .ref bs, .int fd])), (ow, .inl (cJ, 3, .inr (.inl fo))), (cl, .inl (cI, 36, .inl cs)), (tu, .inl (cI, 36, .inl ts)), (lk, .inl (cJ, 3, .inr (.inl lo))), (f1, .inl (cJ, 6, .inr (.inl ff))), (s2, .inl (cJ, 6, .inr (.inl sf))), (ms, .inl (cI, 6, .inl mm)), (nx, .inl (cI, 6, .inl nf)), (bs, .inl (cI, 6, .inl bf))] sz) := by
  refine Met.ofW (cc := cX7_turnOwn) (maxL := 3) (ret := none) (by decide) rfl ?_
  intro p e s m args below meth c s₁ B hml hv
  obtain ⟨rfl, rfl, hP, hK, hD0⟩ := hv
  have hx := B.exec
  have hb := B.bytes
  have hr := B.returns
  have hts := atoms_spec (ws := wsX7_turnOwn) B.pre
  have hown : s.vm.findClass RX7 = some m.cls := findClass_of_methodNamed B.named
  have hlocks := B.notSynchronized
  have hD := hD0.self (sz := s.heap.size)
  generalize hAe : va_A [(h0, .inr (4, [.int th, .ref ow, .int re, .int (nI w), .int mt, .ref cl, .ref tu, .int (nI k), .ref lk, .ref f1, .ref s2, .ref ms, .ref nx, .ref bs, .int fd])), (ow, .inl (cJ, 3, .inr (.inl fo))), (cl, .inl (cI, 36, .inl cs)), (tu, .inl (cI, 36, .inl ts)), (lk, .inl (cJ, 3, .inr (.inl lo))), (f1, .inl (cJ, 6, .inr (.inl ff))), (s2, .inl (cJ, 6, .inr (.inl sf))), (ms, .inl (cI, 6, .inl mm)), (nx, .inl (cI, 6, .inl nf)), (bs, .inl (cI, 6, .inl bf))] s.heap.size = A at hD ⊢
  have hA : ∀ q : Nat, s.heap.size ≤ q → A q := fun q h => by rw [← hAe]; exact Or.inr h
  have hS : va_S A s.heap s.heap [] := va_S.rf
  have hinX7 : ∀ w ∈ wsX70, w ∈ wsX7_turnOwn := by decide +kernel
  have hfl7 : (Cond.fieldLink RX7 7 "TwistquadModel" "own" "[J").before ([.ref h0, .int (nI q), .int (nI wy)] : List Value).toArray s = true := hts _ (by decide +kernel)
  have hl := lv_entry ([.ref h0, .int (nI q), .int (nI wy)]) (n := 3) (Nat.le_of_ble_eq_true rfl)
  rw [lg_entry_eq]
  generalize (lg_sl ([.ref h0, .int (nI q), .int (nI wy)]) ++ List.replicate (3 - (lg_sl ([.ref h0, .int (nI q), .int (nI wy)])).length) Slot.unset).toArray = ls at hl ⊢
  have hl : lv_has ls 3 [(0, .ref h0), (1, .int (nI q)), (2, .int (nI wy))] := hl
  refine lv_aload_n hx hb dX7_turnOwn_0 rfl (lv_at hl 0 rfl) ?_
  refine va_get (D := D) (ci := 4) (v := .ref ow) (C := RX7) (T := TX7) (N := 15) hx hb hts hinX7 hown hK hP 0 rfl rfl 1 (by decide) hfl7 (fun _ h9 => h9) rfl dX7_turnOwn_1 ?_
  refine lv_iconst (v := 1) hx hb dX7_turnOwn_4 (by decide) ?_
  refine lv_aload_n hx hb dX7_turnOwn_5 rfl (lv_at hl 0 rfl) ?_
  refine va_get (D := D) (ci := 4) (v := .ref ow) (C := RX7) (T := TX7) (N := 15) hx hb hts hinX7 hown hK hP 0 rfl rfl 1 (by decide) hfl7 (fun _ h9 => h9) rfl dX7_turnOwn_6 ?_
  refine lv_iconst (v := 1) hx hb dX7_turnOwn_9 (by decide) ?_
  refine va_lald hx hb hK hP 1 1 rfl rfl (vp_in_nI (n := 1) (N := 3) (by omega) (by decide)) dX7_turnOwn_10 ?_
  refine pk_tl (y := (fo 1)) (congrArg fo (pk_cl 1)) ?_
  refine lv_iload_n hx hb dX7_turnOwn_11 rfl (lv_at hl 1 rfl) ?_
  refine lv_iload_n hx hb dX7_turnOwn_12 rfl (lv_at hl 2 rfl) ?_
  refine vp_callSl (W.runS (As := [.long (fo 1), .int (nI q), .int (nI wy)]) (rest := [.int 1, .ref ow]) ⟨hx, hb, hml, hown, hts⟩ (c_X7_turned l (fo 1) q wy (by omega) (by omega)) (va_cwS 3 hts gX7_turnOwn_X7_turned rfl rfl rfl (by decide +kernel) ⟨Nat.le_of_ble_eq_true rfl, Nat.le_of_ble_eq_true rfl⟩) ⟨px_blind0, fun U hU hW => ⟨rfl, trivial⟩⟩ rfl rfl hl.1 rfl (lv_room (Nat.le_of_ble_eq_true rfl)) dX7_turnOwn_13 ⟨(Nat.le_of_ble_eq_true rfl), (Nat.le_of_ble_eq_true rfl)⟩) (fun r13 er13 => ?_)
  obtain rfl := er13.symm
  refine va_last hx hb hK hP hD hS 1 1 rfl rfl (vp_in_nI (n := 1) (N := 3) (by omega) (by decide)) dX7_turnOwn_16 (fun H locs hP hD hS => ?_)
  have hu16 : (1 : Int32).toNatClampNeg = 1 := pk_cl 1
  rw [hu16] at hP hD
  have hP : va_P D vwCl [(h0, .inr (4, [.int th, .ref ow, .int re, .int (nI w), .int mt, .ref cl, .ref tu, .int (nI k), .ref lk, .ref f1, .ref s2, .ref ms, .ref nx, .ref bs, .int fd])), (ow, .inl (cJ, 3, .inr (.inl (vp_updL fo 1 (mturned (fo 1) q wy))))), (cl, .inl (cI, 36, .inl cs)), (tu, .inl (cI, 36, .inl ts)), (lk, .inl (cJ, 3, .inr (.inl lo))), (f1, .inl (cJ, 6, .inr (.inl ff))), (s2, .inl (cJ, 6, .inr (.inl sf))), (ms, .inl (cI, 6, .inl mm)), (nx, .inl (cI, 6, .inl nf)), (bs, .inl (cI, 6, .inl bf))] H := hP
  have hD : va_D A [(h0, .inr (4, [.int th, .ref ow, .int re, .int (nI w), .int mt, .ref cl, .ref tu, .int (nI k), .ref lk, .ref f1, .ref s2, .ref ms, .ref nx, .ref bs, .int fd])), (ow, .inl (cJ, 3, .inr (.inl (vp_updL fo 1 (mturned (fo 1) q wy))))), (cl, .inl (cI, 36, .inl cs)), (tu, .inl (cI, 36, .inl ts)), (lk, .inl (cJ, 3, .inr (.inl lo))), (f1, .inl (cJ, 6, .inr (.inl ff))), (s2, .inl (cJ, 6, .inr (.inl sf))), (ms, .inl (cI, 6, .inl mm)), (nx, .inl (cI, 6, .inl nf)), (bs, .inl (cI, 6, .inl bf))] := hD
  refine lv_aload_n hx hb dX7_turnOwn_17 rfl (lv_at hl 0 rfl) ?_
  refine va_get (D := D) (ci := 4) (v := .ref ow) (C := RX7) (T := TX7) (N := 15) hx hb hts hinX7 hown hK hP 0 rfl rfl 1 (by decide) hfl7 (fun _ h9 => h9) rfl dX7_turnOwn_18 ?_
  refine lv_iconst (v := 2) hx hb dX7_turnOwn_21 (by decide) ?_
  refine lv_aload_n hx hb dX7_turnOwn_22 rfl (lv_at hl 0 rfl) ?_
  refine va_get (D := D) (ci := 4) (v := .ref ow) (C := RX7) (T := TX7) (N := 15) hx hb hts hinX7 hown hK hP 0 rfl rfl 1 (by decide) hfl7 (fun _ h9 => h9) rfl dX7_turnOwn_23 ?_
  refine lv_iconst (v := 2) hx hb dX7_turnOwn_26 (by decide) ?_
  refine va_lald hx hb hK hP 1 1 rfl rfl (vp_in_nI (n := 2) (N := 3) (by omega) (by decide)) dX7_turnOwn_27 ?_
  refine pk_tl (y := (fo 2)) ((congrArg (vp_updL fo 1 (mturned (fo 1) q wy)) (pk_cl 2)).trans (pk_uLn (by decide))) ?_
  refine lv_iload_n hx hb dX7_turnOwn_28 rfl (lv_at hl 1 rfl) ?_
  refine lv_iload_n hx hb dX7_turnOwn_29 rfl (lv_at hl 2 rfl) ?_
  refine vp_callSl (W.runS (As := [.long (fo 2), .int (nI q), .int (nI wy)]) (rest := [.int 2, .ref ow]) ⟨hx, hb, hml, hown, hts⟩ (c_X7_turned l (fo 2) q wy (by omega) (by omega)) (va_cwS 3 hts gX7_turnOwn_X7_turned rfl rfl rfl (by decide +kernel) ⟨Nat.le_of_ble_eq_true rfl, Nat.le_of_ble_eq_true rfl⟩) ⟨px_blind0, fun U hU hW => ⟨rfl, trivial⟩⟩ rfl rfl hl.1 rfl (lv_room (Nat.le_of_ble_eq_true rfl)) dX7_turnOwn_30 ⟨(Nat.le_of_ble_eq_true rfl), (Nat.le_of_ble_eq_true rfl)⟩) (fun r30 er30 => ?_)
  obtain rfl := er30.symm
  refine va_last hx hb hK hP hD hS 1 1 rfl rfl (vp_in_nI (n := 2) (N := 3) (by omega) (by decide)) dX7_turnOwn_33 (fun H locs hP hD hS => ?_)
  have hu33 : (2 : Int32).toNatClampNeg = 2 := pk_cl 2
  rw [hu33] at hP hD
  have hP : va_P D vwCl [(h0, .inr (4, [.int th, .ref ow, .int re, .int (nI w), .int mt, .ref cl, .ref tu, .int (nI k), .ref lk, .ref f1, .ref s2, .ref ms, .ref nx, .ref bs, .int fd])), (ow, .inl (cJ, 3, .inr (.inl (vp_updL (vp_updL fo 1 (mturned (fo 1) q wy)) 2 (mturned (fo 2) q wy))))), (cl, .inl (cI, 36, .inl cs)), (tu, .inl (cI, 36, .inl ts)), (lk, .inl (cJ, 3, .inr (.inl lo))), (f1, .inl (cJ, 6, .inr (.inl ff))), (s2, .inl (cJ, 6, .inr (.inl sf))), (ms, .inl (cI, 6, .inl mm)), (nx, .inl (cI, 6, .inl nf)), (bs, .inl (cI, 6, .inl bf))] H := hP
  have hD : va_D A [(h0, .inr (4, [.int th, .ref ow, .int re, .int (nI w), .int mt, .ref cl, .ref tu, .int (nI k), .ref lk, .ref f1, .ref s2, .ref ms, .ref nx, .ref bs, .int fd])), (ow, .inl (cJ, 3, .inr (.inl (vp_updL (vp_updL fo 1 (mturned (fo 1) q wy)) 2 (mturned (fo 2) q wy))))), (cl, .inl (cI, 36, .inl cs)), (tu, .inl (cI, 36, .inl ts)), (lk, .inl (cJ, 3, .inr (.inl lo))), (f1, .inl (cJ, 6, .inr (.inl ff))), (s2, .inl (cJ, 6, .inr (.inl sf))), (ms, .inl (cI, 6, .inl mm)), (nx, .inl (cI, 6, .inl nf)), (bs, .inl (cI, 6, .inl bf))] := hD
  refine W.vret hx hb hr (fun tt ht hW => ⟨⟨(), rfl, ?_, by rw [ht]; exact hP, va_K.moved hW.alike hK, hD⟩, hS.F ht⟩) hS.2.2 dX7_turnOwn_34
  trivial

set_option maxHeartbeats 400000 in
set_option maxRecDepth 100000 in
theorem c_X7_lengthOf (l : Launch) (D : va_G) (cI cJ : ClassId) (h0 ow cl tu lk f1 s2 ms nx bs : Nat) (th re mt fd : Int32) (w k : Nat) (fo lo ff sf : Nat → Int64) (cs ts mm nf bf : Nat → Int32) (j : Nat) (hj : j < 36) : Met l yX7_lengthOf wsX7_lengthOf ({ frames := 0, cells := 0, slots := 0, locals := 0 } : Room) (va_Pc [.ref h0, .int (nI j)] (px_W D [(h0, .inr (4, [.int th, .ref ow, .int re, .int (nI w), .int mt, .ref cl, .ref tu, .int (nI k), .ref lk, .ref f1, .ref s2, .ref ms, .ref nx, .ref bs, .int fd])), (ow, .inl (cJ, 3, .inr (.inl fo))), (cl, .inl (cI, 36, .inl cs)), (tu, .inl (cI, 36, .inl ts)), (lk, .inl (cJ, 3, .inr (.inl lo))), (f1, .inl (cJ, 6, .inr (.inl ff))), (s2, .inl (cJ, 6, .inr (.inl sf))), (ms, .inl (cI, 6, .inl mm)), (nx, .inl (cI, 6, .inl nf)), (bs, .inl (cI, 6, .inl bf))] [(cI, .int), (cJ, .long)])) (vp_Si (fun r => r = if ts j = (-1) then 2 else 4)) 0 0 (fun _ => False) := by
  refine Met.ofW (cc := cX7_lengthOf) (maxL := 2) (ret := (some .int)) (by decide) rfl ?_
  intro p e s m args below meth c s₁ B hml hv
  obtain ⟨rfl, hP, hK⟩ := hv
  have hx := B.exec
  have hb := B.bytes
  have hr := B.returns
  have hts := atoms_spec (ws := wsX7_lengthOf) B.pre
  have hown : s.vm.findClass RX7 = some m.cls := findClass_of_methodNamed B.named
  have hlocks := B.notSynchronized
  have hinX7 : ∀ w ∈ wsX70, w ∈ wsX7_lengthOf := by decide +kernel
  have hfl21 : (Cond.fieldLink RX7 21 "TwistquadModel" "turns" "[I").before ([.ref h0, .int (nI j)] : List Value).toArray s = true := hts _ (by decide +kernel)
  have hl := lv_entry ([.ref h0, .int (nI j)]) (n := 2) (Nat.le_of_ble_eq_true rfl)
  rw [lg_entry_eq]
  generalize (lg_sl ([.ref h0, .int (nI j)]) ++ List.replicate (2 - (lg_sl ([.ref h0, .int (nI j)])).length) Slot.unset).toArray = ls at hl ⊢
  have hl : lv_has ls 2 [(0, .ref h0), (1, .int (nI j))] := hl
  refine lv_aload_n hx hb dX7_lengthOf_0 rfl (lv_at hl 0 rfl) ?_
  refine va_get (D := D) (ci := 4) (v := .ref tu) (C := RX7) (T := TX7) (N := 15) hx hb hts hinX7 hown hK hP 0 rfl rfl 6 (by decide) hfl21 (fun _ h9 => h9) rfl dX7_lengthOf_1 ?_
  refine lv_iload_n hx hb dX7_lengthOf_4 rfl (lv_at hl 1 rfl) ?_
  refine va_iald hx hb hK hP 3 0 rfl rfl (vp_in_nI (n := j) (N := 36) (by omega) (by decide)) dX7_lengthOf_5 ?_
  refine pk_ti (y := (ts j)) (congrArg ts (pk_cl j)) ?_
  refine lv_iconst (v := (-1)) hx hb dX7_lengthOf_6 (by decide) ?_
  refine lv_icmp_ne (tgt := 14) hx hb dX7_lengthOf_7 (by decide) (fun c7 => ?_) (fun c7 => ?_)
  · refine lv_iconst (v := 4) hx hb dX7_lengthOf_14 (by decide) ?_
    refine W.iret (v := 4) hx hb hr (fun tt ht hW => ⟨4, rfl, ?_, ht⟩) (fun _ h => nomatch h) dX7_lengthOf_15
    first | rw [if_pos c7] | rw [if_neg c7]
  · refine lv_iconst (v := 2) hx hb dX7_lengthOf_10 (by decide) ?_
    refine lv_goto (tgt := 15) hx hb dX7_lengthOf_11 (by decide) ?_
    refine W.iret (v := 2) hx hb hr (fun tt ht hW => ⟨2, rfl, ?_, ht⟩) (fun _ h => nomatch h) dX7_lengthOf_15
    first | rw [if_pos c7] | rw [if_neg c7]

set_option maxHeartbeats 400000 in
set_option maxRecDepth 100000 in
theorem c_X7_winsBy (l : Launch) (D : va_G) (cI cJ : ClassId) (h0 ow cl tu lk f1 s2 ms nx bs : Nat) (th re mt fd : Int32) (w k : Nat) (fo lo ff sf : Nat → Int64) (cs ts mm nf bf : Nat → Int32) (hw : w = 1 ∨ w = 2) (v : Int32) : Met l yX7_winsBy wsX7_winsBy ({ frames := 3, cells := 0, slots := 0, locals := 72 } : Room) (va_Pc [.ref h0, .int v] (px_W D [(h0, .inr (4, [.int th, .ref ow, .int re, .int (nI w), .int mt, .ref cl, .ref tu, .int (nI k), .ref lk, .ref f1, .ref s2, .ref ms, .ref nx, .ref bs, .int fd])), (ow, .inl (cJ, 3, .inr (.inl fo))), (cl, .inl (cI, 36, .inl cs)), (tu, .inl (cI, 36, .inl ts)), (lk, .inl (cJ, 3, .inr (.inl lo))), (f1, .inl (cJ, 6, .inr (.inl ff))), (s2, .inl (cJ, 6, .inr (.inl sf))), (ms, .inl (cI, 6, .inl mm)), (nx, .inl (cI, 6, .inl nf)), (bs, .inl (cI, 6, .inl bf))] [(cI, .int), (cJ, .long)])) (vp_Si (fun r => r = if 0 < msum (fo w ||| jshl 1 v) 0 5 32 then 1 else 0)) 0 0 (fun _ => False) := by
  refine Met.ofW (cc := cX7_winsBy) (maxL := 2) (ret := (some .boolean)) (by decide) rfl ?_
  intro p e s m args below meth c s₁ B hml hv
  obtain ⟨rfl, hP, hK⟩ := hv
  have hx := B.exec
  have hb := B.bytes
  have hr := B.returns
  have hts := atoms_spec (ws := wsX7_winsBy) B.pre
  have hown : s.vm.findClass RX7 = some m.cls := findClass_of_methodNamed B.named
  have hlocks := B.notSynchronized
  have hinX7 : ∀ w ∈ wsX70, w ∈ wsX7_winsBy := by decide +kernel
  have hfl7 : (Cond.fieldLink RX7 7 "TwistquadModel" "own" "[J").before ([.ref h0, .int v] : List Value).toArray s = true := hts _ (by decide +kernel)
  have hfl13 : (Cond.fieldLink RX7 13 "TwistquadModel" "mover" "I").before ([.ref h0, .int v] : List Value).toArray s = true := hts _ (by decide +kernel)
  have hl := lv_entry ([.ref h0, .int v]) (n := 2) (Nat.le_of_ble_eq_true rfl)
  rw [lg_entry_eq]
  generalize (lg_sl ([.ref h0, .int v]) ++ List.replicate (2 - (lg_sl ([.ref h0, .int v])).length) Slot.unset).toArray = ls at hl ⊢
  have hl : lv_has ls 2 [(0, .ref h0), (1, .int v)] := hl
  refine lv_aload_n hx hb dX7_winsBy_0 rfl (lv_at hl 0 rfl) ?_
  refine va_get (D := D) (ci := 4) (v := .ref ow) (C := RX7) (T := TX7) (N := 15) hx hb hts hinX7 hown hK hP 0 rfl rfl 1 (by decide) hfl7 (fun _ h9 => h9) rfl dX7_winsBy_1 ?_
  refine lv_aload_n hx hb dX7_winsBy_4 rfl (lv_at hl 0 rfl) ?_
  refine va_get (D := D) (ci := 4) (v := .int (nI w)) (C := RX7) (T := TX7) (N := 15) hx hb hts hinX7 hown hK hP 0 rfl rfl 3 (by decide) hfl13 (fun _ h9 => h9) rfl dX7_winsBy_5 ?_
  refine va_lald hx hb hK hP 1 1 rfl rfl (vp_in_nI (n := w) (N := 3) (by omega) (by decide)) dX7_winsBy_8 ?_
  refine pk_tl (y := (fo w)) (congrArg fo (pk_cl w)) ?_
  refine lv_lconst (v := 1) hx hb dX7_winsBy_9 (by decide) ?_
  refine lv_iload_n hx hb dX7_winsBy_10 rfl (lv_at hl 1 rfl) ?_
  refine lv_lshl (v := jshl 1 v) hx hb dX7_winsBy_11 rfl ?_
  refine lv_topl (fun x11 ex11 => ?_)
  refine lv_lor hx hb dX7_winsBy_12 ?_
  refine lv_topl (fun x12 ex12 => ?_)
  refine vp_callSi (W.runS (As := [.long x12]) (rest := []) ⟨hx, hb, hml, hown, hts⟩ (c_X7_hasLine l x12) (va_cwS 1 hts gX7_winsBy_X7_hasLine rfl rfl rfl (by decide +kernel) ⟨Nat.le_of_ble_eq_true rfl, Nat.le_of_ble_eq_true rfl⟩) ⟨px_blind0, fun U hU hW => ⟨rfl, trivial⟩⟩ rfl rfl hl.1 rfl (lv_room (Nat.le_of_ble_eq_true rfl)) dX7_winsBy_13 ⟨(Nat.le_of_ble_eq_true rfl), (Nat.le_of_ble_eq_true rfl)⟩) (fun r13 er13 => ?_)
  obtain rfl := er13.symm
  refine W.zret (v := (if 0 < msum x12 0 5 32 then 1 else 0)) hx hb hr (nb_if) (fun tt ht hW => ⟨(if 0 < msum x12 0 5 32 then 1 else 0), rfl, ?_, ht⟩) (fun _ h => nomatch h) dX7_winsBy_16
  obtain rfl := ex11.symm; obtain rfl := ex12.symm; rfl

set_option maxHeartbeats 400000 in
set_option maxRecDepth 100000 in
theorem c_X7_isEnding (l : Launch) (D : va_G) (cI cJ : ClassId) (h0 ow cl tu lk f1 s2 ms nx bs : Nat) (th re mt fd : Int32) (w k : Nat) (fo lo ff sf : Nat → Int64) (cs ts mm nf bf : Nat → Int32)  : Met l yX7_isEnding wsX7_isEnding ({ frames := 2, cells := 0, slots := 0, locals := 45 } : Room) (va_Pc [.ref h0] (px_W D [(h0, .inr (4, [.int th, .ref ow, .int re, .int (nI w), .int mt, .ref cl, .ref tu, .int (nI k), .ref lk, .ref f1, .ref s2, .ref ms, .ref nx, .ref bs, .int fd])), (ow, .inl (cJ, 3, .inr (.inl fo))), (cl, .inl (cI, 36, .inl cs)), (tu, .inl (cI, 36, .inl ts)), (lk, .inl (cJ, 3, .inr (.inl lo))), (f1, .inl (cJ, 6, .inr (.inl ff))), (s2, .inl (cJ, 6, .inr (.inl sf))), (ms, .inl (cI, 6, .inl mm)), (nx, .inl (cI, 6, .inl nf)), (bs, .inl (cI, 6, .inl bf))] [(cI, .int), (cJ, .long)])) (vp_Si (fun r => r = if re = 0 ∧ ¬ 3 < nI 36 - nI (msize (fo 1 ||| fo 2) 36) then 1 else 0)) 0 0 (fun _ => False) := by
  refine Met.ofW (cc := cX7_isEnding) (maxL := 1) (ret := (some .boolean)) (by decide) rfl ?_
  intro p e s m args below meth c s₁ B hml hv
  obtain ⟨rfl, hP, hK⟩ := hv
  have hx := B.exec
  have hb := B.bytes
  have hr := B.returns
  have hts := atoms_spec (ws := wsX7_isEnding) B.pre
  have hown : s.vm.findClass RX7 = some m.cls := findClass_of_methodNamed B.named
  have hlocks := B.notSynchronized
  have hinX7 : ∀ w ∈ wsX70, w ∈ wsX7_isEnding := by decide +kernel
  have hfl73 : (Cond.fieldLink RX7 73 "TwistquadModel" "result" "I").before ([.ref h0] : List Value).toArray s = true := hts _ (by decide +kernel)
  have hfl7 : (Cond.fieldLink RX7 7 "TwistquadModel" "own" "[J").before ([.ref h0] : List Value).toArray s = true := hts _ (by decide +kernel)
  have hl := lv_entry ([.ref h0]) (n := 1) (Nat.le_of_ble_eq_true rfl)
  rw [lg_entry_eq]
  generalize (lg_sl ([.ref h0]) ++ List.replicate (1 - (lg_sl ([.ref h0])).length) Slot.unset).toArray = ls at hl ⊢
  have hl : lv_has ls 1 [(0, .ref h0)] := hl
  refine lv_aload_n hx hb dX7_isEnding_0 rfl (lv_at hl 0 rfl) ?_
  refine va_get (D := D) (ci := 4) (v := .int re) (C := RX7) (T := TX7) (N := 15) hx hb hts hinX7 hown hK hP 0 rfl rfl 2 (by decide) hfl73 (fun _ h9 => h9) rfl dX7_isEnding_1 ?_
  refine lv_if_ne (tgt := 34) hx hb dX7_isEnding_4 (by decide) (fun c4 => ?_) (fun c4 => ?_)
  · refine lv_iconst (v := 0) hx hb dX7_isEnding_34 (by decide) ?_
    refine W.zret (v := 0) hx hb hr (rfl) (fun tt ht hW => ⟨0, rfl, ?_, ht⟩) (fun _ h => nomatch h) dX7_isEnding_35
    skip; first | (rw [if_pos ⟨c4, c27⟩]; done) | (rw [if_neg (fun h => h.2 c27)]; done) | (rw [if_neg (fun h => c4 h.1)]; done)
  · refine lv_bipush (v := 36) hx hb dX7_isEnding_7 (by decide) ?_
    refine lv_aload_n hx hb dX7_isEnding_9 rfl (lv_at hl 0 rfl) ?_
    refine va_get (D := D) (ci := 4) (v := .ref ow) (C := RX7) (T := TX7) (N := 15) hx hb hts hinX7 hown hK hP 0 rfl rfl 1 (by decide) hfl7 (fun _ h9 => h9) rfl dX7_isEnding_10 ?_
    refine lv_iconst (v := 1) hx hb dX7_isEnding_13 (by decide) ?_
    refine va_lald hx hb hK hP 1 1 rfl rfl (vp_in_nI (n := 1) (N := 3) (by omega) (by decide)) dX7_isEnding_14 ?_
    refine pk_tl (y := (fo 1)) (congrArg fo (pk_cl 1)) ?_
    refine lv_aload_n hx hb dX7_isEnding_15 rfl (lv_at hl 0 rfl) ?_
    refine va_get (D := D) (ci := 4) (v := .ref ow) (C := RX7) (T := TX7) (N := 15) hx hb hts hinX7 hown hK hP 0 rfl rfl 1 (by decide) hfl7 (fun _ h9 => h9) rfl dX7_isEnding_16 ?_
    refine lv_iconst (v := 2) hx hb dX7_isEnding_19 (by decide) ?_
    refine va_lald hx hb hK hP 1 1 rfl rfl (vp_in_nI (n := 2) (N := 3) (by omega) (by decide)) dX7_isEnding_20 ?_
    refine pk_tl (y := (fo 2)) (congrArg fo (pk_cl 2)) ?_
    refine lv_lor hx hb dX7_isEnding_21 ?_
    refine lv_topl (fun x21 ex21 => ?_)
    refine vp_callSi (W.runS (As := [.long x21]) (rest := [.int 36]) ⟨hx, hb, hml, hown, hts⟩ (c_X7_sizeOf l x21) (va_cwS 1 hts gX7_isEnding_X7_sizeOf rfl rfl rfl (by decide +kernel) ⟨Nat.le_of_ble_eq_true rfl, Nat.le_of_ble_eq_true rfl⟩) ⟨px_blind0, fun U hU hW => ⟨rfl, trivial⟩⟩ rfl rfl hl.1 rfl (lv_room (Nat.le_of_ble_eq_true rfl)) dX7_isEnding_22 ⟨(Nat.le_of_ble_eq_true rfl), (Nat.le_of_ble_eq_true rfl)⟩) (fun r22 er22 => ?_)
    obtain rfl := er22.symm
    refine lv_isub hx hb dX7_isEnding_25 ?_
    refine lv_topi (fun x25 ex25 => ?_)
    refine lv_iconst (v := 3) hx hb dX7_isEnding_26 (by decide) ?_
    refine lv_icmp_gt (tgt := 34) hx hb dX7_isEnding_27 (by decide) (fun c27 => ?_) (fun c27 => ?_)
    · refine lv_iconst (v := 0) hx hb dX7_isEnding_34 (by decide) ?_
      refine W.zret (v := 0) hx hb hr (rfl) (fun tt ht hW => ⟨0, rfl, ?_, ht⟩) (fun _ h => nomatch h) dX7_isEnding_35
      obtain rfl := ex21.symm; obtain rfl := ex25.symm; first | (rw [if_pos ⟨c4, c27⟩]; done) | (rw [if_neg (fun h => h.2 c27)]; done) | (rw [if_neg (fun h => c4 h.1)]; done)
    · refine lv_iconst (v := 1) hx hb dX7_isEnding_30 (by decide) ?_
      refine lv_goto (tgt := 35) hx hb dX7_isEnding_31 (by decide) ?_
      refine W.zret (v := 1) hx hb hr (rfl) (fun tt ht hW => ⟨1, rfl, ?_, ht⟩) (fun _ h => nomatch h) dX7_isEnding_35
      obtain rfl := ex21.symm; obtain rfl := ex25.symm; first | (rw [if_pos ⟨c4, c27⟩]; done) | (rw [if_neg (fun h => h.2 c27)]; done) | (rw [if_neg (fun h => c4 h.1)]; done)
theorem mv_in1 {j k : Nat} (h : j < k) (hk : k ≤ 36) : 0 ≤ nI j ∧ nI j ≤ nI k - 1 := ⟨nI_pos' (by omega), by rw [show nI k - 1 = nI (k - 1) from pk_sub (b := 1) (by omega)]; exact nI_le (by omega) (by omega)⟩

theorem cell_ok {j : Nat} (h : j < 36) : 0 ≤ nI j ∧ nI j ≤ 35 := ⟨nI_pos' (by omega), nI_le (b := 35) (by omega) (by decide)⟩
theorem q_ok {j : Nat} (h : j < 4) : 0 ≤ nI j ∧ nI j ≤ 3 := ⟨nI_pos' (by omega), nI_le (b := 3) (by omega) (by decide)⟩
theorem w_ok {j : Nat} (h : j < 2) : 0 ≤ nI j ∧ nI j ≤ 1 := ⟨nI_pos' (by omega), nI_le (b := 1) (by omega) (by decide)⟩
theorem s_ok {j : Nat} (h : j = 1 ∨ j = 2) : 1 ≤ nI j ∧ nI j ≤ 2 := ⟨nI_le (a := 1) (by omega) (by omega), nI_le (b := 2) (by omega) (by decide)⟩
theorem s_3 {w : Nat} (h : w = 1 ∨ w = 2) : 3 - w < 3 := by omega

set_option maxHeartbeats 400000 in
set_option maxRecDepth 100000 in
theorem c_X7_put_bad1 (l : Launch) (D : va_G) (cI cJ : ClassId) (sz : Nat) (h0 ow cl tu lk f1 s2 ms nx bs : Nat) (th re mt fd : Int32) (w k : Nat) (fo lo ff sf : Nat → Int64) (cs ts mm nf bf : Nat → Int32) (v : Int32) (hc : ¬ (0 ≤ v ∧ v ≤ 35)) : Met l yX7_put wsX7_put ({ frames := 3, cells := 0, slots := 0, locals := 72 } : Room) (va_Pc [.ref h0, .int v] (pv_C D cI cJ [(h0, .inr (4, [.int th, .ref ow, .int re, .int (nI w), .int mt, .ref cl, .ref tu, .int (nI k), .ref lk, .ref f1, .ref s2, .ref ms, .ref nx, .ref bs, .int fd])), (ow, .inl (cJ, 3, .inr (.inl fo))), (cl, .inl (cI, 36, .inl cs)), (tu, .inl (cI, 36, .inl ts)), (lk, .inl (cJ, 3, .inr (.inl lo))), (f1, .inl (cJ, 6, .inr (.inl ff))), (s2, .inl (cJ, 6, .inr (.inl sf))), (ms, .inl (cI, 6, .inl mm)), (nx, .inl (cI, 6, .inl nf)), (bs, .inl (cI, 6, .inl bf))] sz)) (va_Qi (fun (r : Int32) (u : Unit) => r = 0) (fun (u : Unit) => pv_B D cI cJ (va_A [(h0, .inr (4, [.int th, .ref ow, .int re, .int (nI w), .int mt, .ref cl, .ref tu, .int (nI k), .ref lk, .ref f1, .ref s2, .ref ms, .ref nx, .ref bs, .int fd])), (ow, .inl (cJ, 3, .inr (.inl fo))), (cl, .inl (cI, 36, .inl cs)), (tu, .inl (cI, 36, .inl ts)), (lk, .inl (cJ, 3, .inr (.inl lo))), (f1, .inl (cJ, 6, .inr (.inl ff))), (s2, .inl (cJ, 6, .inr (.inl sf))), (ms, .inl (cI, 6, .inl mm)), (nx, .inl (cI, 6, .inl nf)), (bs, .inl (cI, 6, .inl bf))] sz) [(h0, .inr (4, [.int 1, .ref ow, .int re, .int (nI w), .int mt, .ref cl, .ref tu, .int (nI k), .ref lk, .ref f1, .ref s2, .ref ms, .ref nx, .ref bs, .int fd])), (ow, .inl (cJ, 3, .inr (.inl fo))), (cl, .inl (cI, 36, .inl cs)), (tu, .inl (cI, 36, .inl ts)), (lk, .inl (cJ, 3, .inr (.inl lo))), (f1, .inl (cJ, 6, .inr (.inl ff))), (s2, .inl (cJ, 6, .inr (.inl sf))), (ms, .inl (cI, 6, .inl mm)), (nx, .inl (cI, 6, .inl nf)), (bs, .inl (cI, 6, .inl bf))]) (va_A [(h0, .inr (4, [.int th, .ref ow, .int re, .int (nI w), .int mt, .ref cl, .ref tu, .int (nI k), .ref lk, .ref f1, .ref s2, .ref ms, .ref nx, .ref bs, .int fd])), (ow, .inl (cJ, 3, .inr (.inl fo))), (cl, .inl (cI, 36, .inl cs)), (tu, .inl (cI, 36, .inl ts)), (lk, .inl (cJ, 3, .inr (.inl lo))), (f1, .inl (cJ, 6, .inr (.inl ff))), (s2, .inl (cJ, 6, .inr (.inl sf))), (ms, .inl (cI, 6, .inl mm)), (nx, .inl (cI, 6, .inl nf)), (bs, .inl (cI, 6, .inl bf))] sz)) 0 0 (va_A [(h0, .inr (4, [.int th, .ref ow, .int re, .int (nI w), .int mt, .ref cl, .ref tu, .int (nI k), .ref lk, .ref f1, .ref s2, .ref ms, .ref nx, .ref bs, .int fd])), (ow, .inl (cJ, 3, .inr (.inl fo))), (cl, .inl (cI, 36, .inl cs)), (tu, .inl (cI, 36, .inl ts)), (lk, .inl (cJ, 3, .inr (.inl lo))), (f1, .inl (cJ, 6, .inr (.inl ff))), (s2, .inl (cJ, 6, .inr (.inl sf))), (ms, .inl (cI, 6, .inl mm)), (nx, .inl (cI, 6, .inl nf)), (bs, .inl (cI, 6, .inl bf))] sz) := by
  refine Met.ofW (cc := cX7_put) (maxL := 3) (ret := (some .int)) (by decide) rfl ?_
  intro p e s m args below meth c s₁ B hml hv
  obtain ⟨rfl, rfl, hP, hK, hD0⟩ := hv
  have hx := B.exec
  have hb := B.bytes
  have hr := B.returns
  have hts := atoms_spec (ws := wsX7_put) B.pre
  have hown : s.vm.findClass RX7 = some m.cls := findClass_of_methodNamed B.named
  have hlocks := B.notSynchronized
  have hD := hD0.self (sz := s.heap.size)
  generalize hAe : va_A [(h0, .inr (4, [.int th, .ref ow, .int re, .int (nI w), .int mt, .ref cl, .ref tu, .int (nI k), .ref lk, .ref f1, .ref s2, .ref ms, .ref nx, .ref bs, .int fd])), (ow, .inl (cJ, 3, .inr (.inl fo))), (cl, .inl (cI, 36, .inl cs)), (tu, .inl (cI, 36, .inl ts)), (lk, .inl (cJ, 3, .inr (.inl lo))), (f1, .inl (cJ, 6, .inr (.inl ff))), (s2, .inl (cJ, 6, .inr (.inl sf))), (ms, .inl (cI, 6, .inl mm)), (nx, .inl (cI, 6, .inl nf)), (bs, .inl (cI, 6, .inl bf))] s.heap.size = A at hD ⊢
  have hA : ∀ q : Nat, s.heap.size ≤ q → A q := fun q h => by rw [← hAe]; exact Or.inr h
  have hS : va_S A s.heap s.heap [] := va_S.rf
  have hl := lv_entry ([.ref h0, .int v]) (n := 3) (Nat.le_of_ble_eq_true rfl)
  rw [lg_entry_eq]
  generalize (lg_sl ([.ref h0, .int v]) ++ List.replicate (3 - (lg_sl ([.ref h0, .int v])).length) Slot.unset).toArray = ls at hl ⊢
  have hl : lv_has ls 3 [(0, .ref h0), (1, .int v)] := hl
  refine lv_iload_n hx hb dX7_put_0 rfl (lv_at hl 1 rfl) ?_
  refine vp_callSi (W.runS (As := [.int v]) (rest := []) ⟨hx, hb, hml, hown, hts⟩ (c_X7_isCell l v) (va_cwS 1 hts gX7_put_X7_isCell rfl rfl rfl (by decide +kernel) ⟨Nat.le_of_ble_eq_true rfl, Nat.le_of_ble_eq_true rfl⟩) ⟨px_blind0, fun U hU hW => ⟨rfl, trivial⟩⟩ rfl rfl hl.1 rfl (lv_room (Nat.le_of_ble_eq_true rfl)) dX7_put_1 ⟨(Nat.le_of_ble_eq_true rfl), (Nat.le_of_ble_eq_true rfl)⟩) (fun r1 er1 => ?_)
  obtain rfl := er1.symm
  refine pk_b (P := 0 ≤ v ∧ v ≤ 35) (fun b1 => ?_) (fun b1 => ?_)
  · exact absurd b1 hc
  · refine lv_if_eq (tgt := 45) hx hb dX7_put_4 (by decide) (fun c4 => ?_) (fun c4 => ?_)
    · refine lv_iconst (v := 0) hx hb dX7_put_45 (by decide) ?_
      refine lv_istore_n (lv' := [(2, .int 0), (0, .ref h0), (1, .int v)]) hx hb dX7_put_46 rfl hl (by decide) rfl (fun ls hl => ?_)
      refine lv_aload_n hx hb dX7_put_47 rfl (lv_at hl 1 rfl) ?_
      refine lv_iload_n hx hb dX7_put_48 rfl (lv_at hl 2 rfl) ?_
      refine vp_callSi (W.runS (As := [.int v]) (rest := [.ref h0]) ⟨hx, hb, hml, hown, hts⟩ (c_X7_isCell l v) (va_cwS 1 hts gX7_put_X7_isCell rfl rfl rfl (by decide +kernel) ⟨Nat.le_of_ble_eq_true rfl, Nat.le_of_ble_eq_true rfl⟩) ⟨px_blind0, fun U hU hW => ⟨rfl, trivial⟩⟩ rfl rfl hl.1 rfl (lv_room (Nat.le_of_ble_eq_true rfl)) dX7_put_49 ⟨(Nat.le_of_ble_eq_true rfl), (Nat.le_of_ble_eq_true rfl)⟩) (fun r49 er49 => ?_)
      obtain rfl := er49.symm
      refine pk_b (P := 0 ≤ v ∧ v ≤ 35) (fun b49 => ?_) (fun b49 => ?_)
      · exact absurd b49 hc
      · refine lv_if_ne (tgt := 59) hx hb dX7_put_52 (by decide) (fun c52 => ?_) (fun c52 => ?_)
        · exact absurd c52 (by decide)
        · refine lv_iconst (v := 1) hx hb dX7_put_55 (by decide) ?_
          refine lv_goto (tgt := 68) hx hb dX7_put_56 (by decide) ?_
          have hPc := hP.sub (ws' := [(h0, .inr (4, [.int th, .ref ow, .int re, .int (nI w), .int mt, .ref cl, .ref tu, .int (nI k), .ref lk, .ref f1, .ref s2, .ref ms, .ref nx, .ref bs, .int fd])), (ow, .inl (cJ, 3, .inr (.inl fo))), (cl, .inl (cI, 36, .inl cs)), (tu, .inl (cI, 36, .inl ts)), (lk, .inl (cJ, 3, .inr (.inl lo))), (f1, .inl (cJ, 6, .inr (.inl ff))), (s2, .inl (cJ, 6, .inr (.inl sf))), (ms, .inl (cI, 6, .inl mm)), (nx, .inl (cI, 6, .inl nf)), (bs, .inl (cI, 6, .inl bf))]) [0, 1, 2, 3, 4, 5, 6, 7, 8, 9] rfl
          have hDc := hD.sub (ws' := [(h0, .inr (4, [.int th, .ref ow, .int re, .int (nI w), .int mt, .ref cl, .ref tu, .int (nI k), .ref lk, .ref f1, .ref s2, .ref ms, .ref nx, .ref bs, .int fd])), (ow, .inl (cJ, 3, .inr (.inl fo))), (cl, .inl (cI, 36, .inl cs)), (tu, .inl (cI, 36, .inl ts)), (lk, .inl (cJ, 3, .inr (.inl lo))), (f1, .inl (cJ, 6, .inr (.inl ff))), (s2, .inl (cJ, 6, .inr (.inl sf))), (ms, .inl (cI, 6, .inl mm)), (nx, .inl (cI, 6, .inl nf)), (bs, .inl (cI, 6, .inl bf))]) [0, 1, 2, 3, 4, 5, 6, 7, 8, 9] (by decide) rfl
          have hFc := va_free (wc := [(h0, .inr (4, [.int th, .ref ow, .int re, .int (nI w), .int mt, .ref cl, .ref tu, .int (nI k), .ref lk, .ref f1, .ref s2, .ref ms, .ref nx, .ref bs, .int fd])), (ow, .inl (cJ, 3, .inr (.inl fo))), (cl, .inl (cI, 36, .inl cs)), (tu, .inl (cI, 36, .inl ts)), (lk, .inl (cJ, 3, .inr (.inl lo))), (f1, .inl (cJ, 6, .inr (.inl ff))), (s2, .inl (cJ, 6, .inr (.inl sf))), (ms, .inl (cI, 6, .inl mm)), (nx, .inl (cI, 6, .inl nf)), (bs, .inl (cI, 6, .inl bf))]) hD hS hA [0, 1, 2, 3, 4, 5, 6, 7, 8, 9] rfl
          refine va_calli (va_runV (As := [.int 1]) (rest := []) ⟨hx, hb, hml, hown, hts⟩ (c_X7_goesWell l D cI cJ s.heap.size  h0 ow cl tu lk f1 s2 ms nx bs th re mt fd w k fo lo ff sf cs ts mm nf bf 1) (cwV 1 hts gX7_put_X7_goesWell rfl rfl rfl (by decide +kernel) ⟨Nat.le_of_ble_eq_true rfl, Nat.le_of_ble_eq_true rfl⟩) ⟨pv_blind, va_recv hK hPc (ci := 4) (q0 := 0) rfl rfl, fun U hU hW => ⟨rfl, by rw [hU], by rw [hU]; exact hPc, va_K.moved hW.alike hK, hDc.weaken (fun _ _ _ _ => trivial)⟩⟩ rfl rfl hl.1 rfl (lv_room (Nat.le_of_ble_eq_true rfl)) dX7_put_68 ⟨(Nat.le_of_ble_eq_true rfl), (Nat.le_of_ble_eq_true rfl)⟩) hS (fun q _ h => hFc q h) hFc (fun r68 u t9 H1 locs hth hvm hw68 hB hz1 hk1 hS => ?_)
          try dsimp only at hw68
          obtain ⟨hP1, hK1, hD1⟩ := hB
          rw [hth] at hP1
          obtain ⟨hP, hD⟩ := va_join (wr := []) (w1 := [(h0, .inr (4, [.int 1, .ref ow, .int re, .int (nI w), .int mt, .ref cl, .ref tu, .int (nI k), .ref lk, .ref f1, .ref s2, .ref ms, .ref nx, .ref bs, .int fd])), (ow, .inl (cJ, 3, .inr (.inl fo))), (cl, .inl (cI, 36, .inl cs)), (tu, .inl (cI, 36, .inl ts)), (lk, .inl (cJ, 3, .inr (.inl lo))), (f1, .inl (cJ, 6, .inr (.inl ff))), (s2, .inl (cJ, 6, .inr (.inl sf))), (ms, .inl (cI, 6, .inl mm)), (nx, .inl (cI, 6, .inl nf)), (bs, .inl (cI, 6, .inl bf))]) hP hD [0, 1, 2, 3, 4, 5, 6, 7, 8, 9] [] rfl rfl (by decide) (by decide) hk1 hFc hP1 hD1
          generalize H1 = H at hP hS ⊢
          have hP : va_P D vwCl [(h0, .inr (4, [.int 1, .ref ow, .int re, .int (nI w), .int mt, .ref cl, .ref tu, .int (nI k), .ref lk, .ref f1, .ref s2, .ref ms, .ref nx, .ref bs, .int fd])), (ow, .inl (cJ, 3, .inr (.inl fo))), (cl, .inl (cI, 36, .inl cs)), (tu, .inl (cI, 36, .inl ts)), (lk, .inl (cJ, 3, .inr (.inl lo))), (f1, .inl (cJ, 6, .inr (.inl ff))), (s2, .inl (cJ, 6, .inr (.inl sf))), (ms, .inl (cI, 6, .inl mm)), (nx, .inl (cI, 6, .inl nf)), (bs, .inl (cI, 6, .inl bf))] H := hP.sub (ws' := [(h0, .inr (4, [.int 1, .ref ow, .int re, .int (nI w), .int mt, .ref cl, .ref tu, .int (nI k), .ref lk, .ref f1, .ref s2, .ref ms, .ref nx, .ref bs, .int fd])), (ow, .inl (cJ, 3, .inr (.inl fo))), (cl, .inl (cI, 36, .inl cs)), (tu, .inl (cI, 36, .inl ts)), (lk, .inl (cJ, 3, .inr (.inl lo))), (f1, .inl (cJ, 6, .inr (.inl ff))), (s2, .inl (cJ, 6, .inr (.inl sf))), (ms, .inl (cI, 6, .inl mm)), (nx, .inl (cI, 6, .inl nf)), (bs, .inl (cI, 6, .inl bf))]) [0, 1, 2, 3, 4, 5, 6, 7, 8, 9] rfl
          have hD : va_D A [(h0, .inr (4, [.int 1, .ref ow, .int re, .int (nI w), .int mt, .ref cl, .ref tu, .int (nI k), .ref lk, .ref f1, .ref s2, .ref ms, .ref nx, .ref bs, .int fd])), (ow, .inl (cJ, 3, .inr (.inl fo))), (cl, .inl (cI, 36, .inl cs)), (tu, .inl (cI, 36, .inl ts)), (lk, .inl (cJ, 3, .inr (.inl lo))), (f1, .inl (cJ, 6, .inr (.inl ff))), (s2, .inl (cJ, 6, .inr (.inl sf))), (ms, .inl (cI, 6, .inl mm)), (nx, .inl (cI, 6, .inl nf)), (bs, .inl (cI, 6, .inl bf))] := hD.sub (ws' := [(h0, .inr (4, [.int 1, .ref ow, .int re, .int (nI w), .int mt, .ref cl, .ref tu, .int (nI k), .ref lk, .ref f1, .ref s2, .ref ms, .ref nx, .ref bs, .int fd])), (ow, .inl (cJ, 3, .inr (.inl fo))), (cl, .inl (cI, 36, .inl cs)), (tu, .inl (cI, 36, .inl ts)), (lk, .inl (cJ, 3, .inr (.inl lo))), (f1, .inl (cJ, 6, .inr (.inl ff))), (s2, .inl (cJ, 6, .inr (.inl sf))), (ms, .inl (cI, 6, .inl mm)), (nx, .inl (cI, 6, .inl nf)), (bs, .inl (cI, 6, .inl bf))]) [0, 1, 2, 3, 4, 5, 6, 7, 8, 9] (by decide) rfl
          obtain rfl := hw68.symm
          refine pk_ti (y := 0) (if_neg (by decide)) ?_
          refine lv_if_ne (tgt := 76) hx hb dX7_put_71 (by decide) (fun c71 => ?_) (fun c71 => ?_)
          · exact absurd c71 (by decide)
          · refine lv_iconst (v := 0) hx hb dX7_put_74 (by decide) ?_
            refine W.iret (v := 0) hx hb hr (fun tt ht hW => ⟨⟨0, (), rfl, ?_, by rw [ht]; exact hP, va_K.moved hW.alike hK, hD⟩, hS.F ht⟩) hS.2.2 dX7_put_75
            exact rfl
    · exact absurd c4 (by decide)

set_option maxHeartbeats 400000 in
set_option maxRecDepth 100000 in
theorem c_X7_put_bad2 (l : Launch) (D : va_G) (cI cJ : ClassId) (sz : Nat) (h0 ow cl tu lk f1 s2 ms nx bs : Nat) (th re mt fd : Int32) (w k : Nat) (fo lo ff sf : Nat → Int64) (cs ts mm nf bf : Nat → Int32) (j : Nat) (hj : j < 36) (hbad : ¬ (re = 0 ∧ mt = 0 ∧ ¬ bt (fo 1 ||| fo 2) j = true)) : Met l yX7_put wsX7_put ({ frames := 3, cells := 0, slots := 0, locals := 72 } : Room) (va_Pc [.ref h0, .int (nI j)] (pv_C D cI cJ [(h0, .inr (4, [.int th, .ref ow, .int re, .int (nI w), .int mt, .ref cl, .ref tu, .int (nI k), .ref lk, .ref f1, .ref s2, .ref ms, .ref nx, .ref bs, .int fd])), (ow, .inl (cJ, 3, .inr (.inl fo))), (cl, .inl (cI, 36, .inl cs)), (tu, .inl (cI, 36, .inl ts)), (lk, .inl (cJ, 3, .inr (.inl lo))), (f1, .inl (cJ, 6, .inr (.inl ff))), (s2, .inl (cJ, 6, .inr (.inl sf))), (ms, .inl (cI, 6, .inl mm)), (nx, .inl (cI, 6, .inl nf)), (bs, .inl (cI, 6, .inl bf))] sz)) (va_Qi (fun (r : Int32) (u : Unit) => r = 0) (fun (u : Unit) => pv_B D cI cJ (va_A [(h0, .inr (4, [.int th, .ref ow, .int re, .int (nI w), .int mt, .ref cl, .ref tu, .int (nI k), .ref lk, .ref f1, .ref s2, .ref ms, .ref nx, .ref bs, .int fd])), (ow, .inl (cJ, 3, .inr (.inl fo))), (cl, .inl (cI, 36, .inl cs)), (tu, .inl (cI, 36, .inl ts)), (lk, .inl (cJ, 3, .inr (.inl lo))), (f1, .inl (cJ, 6, .inr (.inl ff))), (s2, .inl (cJ, 6, .inr (.inl sf))), (ms, .inl (cI, 6, .inl mm)), (nx, .inl (cI, 6, .inl nf)), (bs, .inl (cI, 6, .inl bf))] sz) [(h0, .inr (4, [.int 2, .ref ow, .int re, .int (nI w), .int mt, .ref cl, .ref tu, .int (nI k), .ref lk, .ref f1, .ref s2, .ref ms, .ref nx, .ref bs, .int fd])), (ow, .inl (cJ, 3, .inr (.inl fo))), (cl, .inl (cI, 36, .inl cs)), (tu, .inl (cI, 36, .inl ts)), (lk, .inl (cJ, 3, .inr (.inl lo))), (f1, .inl (cJ, 6, .inr (.inl ff))), (s2, .inl (cJ, 6, .inr (.inl sf))), (ms, .inl (cI, 6, .inl mm)), (nx, .inl (cI, 6, .inl nf)), (bs, .inl (cI, 6, .inl bf))]) (va_A [(h0, .inr (4, [.int th, .ref ow, .int re, .int (nI w), .int mt, .ref cl, .ref tu, .int (nI k), .ref lk, .ref f1, .ref s2, .ref ms, .ref nx, .ref bs, .int fd])), (ow, .inl (cJ, 3, .inr (.inl fo))), (cl, .inl (cI, 36, .inl cs)), (tu, .inl (cI, 36, .inl ts)), (lk, .inl (cJ, 3, .inr (.inl lo))), (f1, .inl (cJ, 6, .inr (.inl ff))), (s2, .inl (cJ, 6, .inr (.inl sf))), (ms, .inl (cI, 6, .inl mm)), (nx, .inl (cI, 6, .inl nf)), (bs, .inl (cI, 6, .inl bf))] sz)) 0 0 (va_A [(h0, .inr (4, [.int th, .ref ow, .int re, .int (nI w), .int mt, .ref cl, .ref tu, .int (nI k), .ref lk, .ref f1, .ref s2, .ref ms, .ref nx, .ref bs, .int fd])), (ow, .inl (cJ, 3, .inr (.inl fo))), (cl, .inl (cI, 36, .inl cs)), (tu, .inl (cI, 36, .inl ts)), (lk, .inl (cJ, 3, .inr (.inl lo))), (f1, .inl (cJ, 6, .inr (.inl ff))), (s2, .inl (cJ, 6, .inr (.inl sf))), (ms, .inl (cI, 6, .inl mm)), (nx, .inl (cI, 6, .inl nf)), (bs, .inl (cI, 6, .inl bf))] sz) := by
  refine Met.ofW (cc := cX7_put) (maxL := 3) (ret := (some .int)) (by decide) rfl ?_
  intro p e s m args below meth c s₁ B hml hv
  obtain ⟨rfl, rfl, hP, hK, hD0⟩ := hv
  have hx := B.exec
  have hb := B.bytes
  have hr := B.returns
  have hts := atoms_spec (ws := wsX7_put) B.pre
  have hown : s.vm.findClass RX7 = some m.cls := findClass_of_methodNamed B.named
  have hlocks := B.notSynchronized
  have hD := hD0.self (sz := s.heap.size)
  generalize hAe : va_A [(h0, .inr (4, [.int th, .ref ow, .int re, .int (nI w), .int mt, .ref cl, .ref tu, .int (nI k), .ref lk, .ref f1, .ref s2, .ref ms, .ref nx, .ref bs, .int fd])), (ow, .inl (cJ, 3, .inr (.inl fo))), (cl, .inl (cI, 36, .inl cs)), (tu, .inl (cI, 36, .inl ts)), (lk, .inl (cJ, 3, .inr (.inl lo))), (f1, .inl (cJ, 6, .inr (.inl ff))), (s2, .inl (cJ, 6, .inr (.inl sf))), (ms, .inl (cI, 6, .inl mm)), (nx, .inl (cI, 6, .inl nf)), (bs, .inl (cI, 6, .inl bf))] s.heap.size = A at hD ⊢
  have hA : ∀ q : Nat, s.heap.size ≤ q → A q := fun q h => by rw [← hAe]; exact Or.inr h
  have hS : va_S A s.heap s.heap [] := va_S.rf
  have hinX7 : ∀ w ∈ wsX70, w ∈ wsX7_put := by decide +kernel
  have hfl73 : (Cond.fieldLink RX7 73 "TwistquadModel" "result" "I").before ([.ref h0, .int (nI j)] : List Value).toArray s = true := hts _ (by decide +kernel)
  have hfl76 : (Cond.fieldLink RX7 76 "TwistquadModel" "mustTurn" "Z").before ([.ref h0, .int (nI j)] : List Value).toArray s = true := hts _ (by decide +kernel)
  have hfl7 : (Cond.fieldLink RX7 7 "TwistquadModel" "own" "[J").before ([.ref h0, .int (nI j)] : List Value).toArray s = true := hts _ (by decide +kernel)
  have hl := lv_entry ([.ref h0, .int (nI j)]) (n := 3) (Nat.le_of_ble_eq_true rfl)
  rw [lg_entry_eq]
  generalize (lg_sl ([.ref h0, .int (nI j)]) ++ List.replicate (3 - (lg_sl ([.ref h0, .int (nI j)])).length) Slot.unset).toArray = ls at hl ⊢
  have hl : lv_has ls 3 [(0, .ref h0), (1, .int (nI j))] := hl
  refine lv_iload_n hx hb dX7_put_0 rfl (lv_at hl 1 rfl) ?_
  refine vp_callSi (W.runS (As := [.int (nI j)]) (rest := []) ⟨hx, hb, hml, hown, hts⟩ (c_X7_isCell l (nI j)) (va_cwS 1 hts gX7_put_X7_isCell rfl rfl rfl (by decide +kernel) ⟨Nat.le_of_ble_eq_true rfl, Nat.le_of_ble_eq_true rfl⟩) ⟨px_blind0, fun U hU hW => ⟨rfl, trivial⟩⟩ rfl rfl hl.1 rfl (lv_room (Nat.le_of_ble_eq_true rfl)) dX7_put_1 ⟨(Nat.le_of_ble_eq_true rfl), (Nat.le_of_ble_eq_true rfl)⟩) (fun r1 er1 => ?_)
  obtain rfl := er1.symm
  refine pk_b (P := 0 ≤ (nI j) ∧ (nI j) ≤ 35) (fun b1 => ?_) (fun b1 => ?_)
  · refine lv_if_eq (tgt := 45) hx hb dX7_put_4 (by decide) (fun c4 => ?_) (fun c4 => ?_)
    · exact absurd c4 (by decide)
    · refine lv_aload_n hx hb dX7_put_7 rfl (lv_at hl 0 rfl) ?_
      refine va_get (D := D) (ci := 4) (v := .int re) (C := RX7) (T := TX7) (N := 15) hx hb hts hinX7 hown hK hP 0 rfl rfl 2 (by decide) hfl73 (fun _ h9 => h9) rfl dX7_put_8 ?_
      refine lv_if_ne (tgt := 41) hx hb dX7_put_11 (by decide) (fun c11 => ?_) (fun c11 => ?_)
      · refine lv_iconst (v := 1) hx hb dX7_put_41 (by decide) ?_
        refine lv_goto (tgt := 46) hx hb dX7_put_42 (by decide) ?_
        refine lv_istore_n (lv' := [(2, .int 1), (0, .ref h0), (1, .int (nI j))]) hx hb dX7_put_46 rfl hl (by decide) rfl (fun ls hl => ?_)
        refine lv_aload_n hx hb dX7_put_47 rfl (lv_at hl 1 rfl) ?_
        refine lv_iload_n hx hb dX7_put_48 rfl (lv_at hl 2 rfl) ?_
        refine vp_callSi (W.runS (As := [.int (nI j)]) (rest := [.ref h0]) ⟨hx, hb, hml, hown, hts⟩ (c_X7_isCell l (nI j)) (va_cwS 1 hts gX7_put_X7_isCell rfl rfl rfl (by decide +kernel) ⟨Nat.le_of_ble_eq_true rfl, Nat.le_of_ble_eq_true rfl⟩) ⟨px_blind0, fun U hU hW => ⟨rfl, trivial⟩⟩ rfl rfl hl.1 rfl (lv_room (Nat.le_of_ble_eq_true rfl)) dX7_put_49 ⟨(Nat.le_of_ble_eq_true rfl), (Nat.le_of_ble_eq_true rfl)⟩) (fun r49 er49 => ?_)
        obtain rfl := er49.symm
        refine pk_b (P := 0 ≤ (nI j) ∧ (nI j) ≤ 35) (fun b49 => ?_) (fun b49 => ?_)
        · refine lv_if_ne (tgt := 59) hx hb dX7_put_52 (by decide) (fun c52 => ?_) (fun c52 => ?_)
          · refine lv_iload_n hx hb dX7_put_59 rfl (lv_at hl 0 rfl) ?_
            refine lv_if_eq (tgt := 67) hx hb dX7_put_60 (by decide) (fun c60 => ?_) (fun c60 => ?_)
            · exact absurd c60 (by decide)
            · refine lv_iconst (v := 2) hx hb dX7_put_63 (by decide) ?_
              refine lv_goto (tgt := 68) hx hb dX7_put_64 (by decide) ?_
              have hPc := hP.sub (ws' := [(h0, .inr (4, [.int th, .ref ow, .int re, .int (nI w), .int mt, .ref cl, .ref tu, .int (nI k), .ref lk, .ref f1, .ref s2, .ref ms, .ref nx, .ref bs, .int fd])), (ow, .inl (cJ, 3, .inr (.inl fo))), (cl, .inl (cI, 36, .inl cs)), (tu, .inl (cI, 36, .inl ts)), (lk, .inl (cJ, 3, .inr (.inl lo))), (f1, .inl (cJ, 6, .inr (.inl ff))), (s2, .inl (cJ, 6, .inr (.inl sf))), (ms, .inl (cI, 6, .inl mm)), (nx, .inl (cI, 6, .inl nf)), (bs, .inl (cI, 6, .inl bf))]) [0, 1, 2, 3, 4, 5, 6, 7, 8, 9] rfl
              have hDc := hD.sub (ws' := [(h0, .inr (4, [.int th, .ref ow, .int re, .int (nI w), .int mt, .ref cl, .ref tu, .int (nI k), .ref lk, .ref f1, .ref s2, .ref ms, .ref nx, .ref bs, .int fd])), (ow, .inl (cJ, 3, .inr (.inl fo))), (cl, .inl (cI, 36, .inl cs)), (tu, .inl (cI, 36, .inl ts)), (lk, .inl (cJ, 3, .inr (.inl lo))), (f1, .inl (cJ, 6, .inr (.inl ff))), (s2, .inl (cJ, 6, .inr (.inl sf))), (ms, .inl (cI, 6, .inl mm)), (nx, .inl (cI, 6, .inl nf)), (bs, .inl (cI, 6, .inl bf))]) [0, 1, 2, 3, 4, 5, 6, 7, 8, 9] (by decide) rfl
              have hFc := va_free (wc := [(h0, .inr (4, [.int th, .ref ow, .int re, .int (nI w), .int mt, .ref cl, .ref tu, .int (nI k), .ref lk, .ref f1, .ref s2, .ref ms, .ref nx, .ref bs, .int fd])), (ow, .inl (cJ, 3, .inr (.inl fo))), (cl, .inl (cI, 36, .inl cs)), (tu, .inl (cI, 36, .inl ts)), (lk, .inl (cJ, 3, .inr (.inl lo))), (f1, .inl (cJ, 6, .inr (.inl ff))), (s2, .inl (cJ, 6, .inr (.inl sf))), (ms, .inl (cI, 6, .inl mm)), (nx, .inl (cI, 6, .inl nf)), (bs, .inl (cI, 6, .inl bf))]) hD hS hA [0, 1, 2, 3, 4, 5, 6, 7, 8, 9] rfl
              refine va_calli (va_runV (As := [.int 2]) (rest := []) ⟨hx, hb, hml, hown, hts⟩ (c_X7_goesWell l D cI cJ s.heap.size  h0 ow cl tu lk f1 s2 ms nx bs th re mt fd w k fo lo ff sf cs ts mm nf bf 2) (cwV 1 hts gX7_put_X7_goesWell rfl rfl rfl (by decide +kernel) ⟨Nat.le_of_ble_eq_true rfl, Nat.le_of_ble_eq_true rfl⟩) ⟨pv_blind, va_recv hK hPc (ci := 4) (q0 := 0) rfl rfl, fun U hU hW => ⟨rfl, by rw [hU], by rw [hU]; exact hPc, va_K.moved hW.alike hK, hDc.weaken (fun _ _ _ _ => trivial)⟩⟩ rfl rfl hl.1 rfl (lv_room (Nat.le_of_ble_eq_true rfl)) dX7_put_68 ⟨(Nat.le_of_ble_eq_true rfl), (Nat.le_of_ble_eq_true rfl)⟩) hS (fun q _ h => hFc q h) hFc (fun r68 u t9 H1 locs hth hvm hw68 hB hz1 hk1 hS => ?_)
              try dsimp only at hw68
              obtain ⟨hP1, hK1, hD1⟩ := hB
              rw [hth] at hP1
              obtain ⟨hP, hD⟩ := va_join (wr := []) (w1 := [(h0, .inr (4, [.int 2, .ref ow, .int re, .int (nI w), .int mt, .ref cl, .ref tu, .int (nI k), .ref lk, .ref f1, .ref s2, .ref ms, .ref nx, .ref bs, .int fd])), (ow, .inl (cJ, 3, .inr (.inl fo))), (cl, .inl (cI, 36, .inl cs)), (tu, .inl (cI, 36, .inl ts)), (lk, .inl (cJ, 3, .inr (.inl lo))), (f1, .inl (cJ, 6, .inr (.inl ff))), (s2, .inl (cJ, 6, .inr (.inl sf))), (ms, .inl (cI, 6, .inl mm)), (nx, .inl (cI, 6, .inl nf)), (bs, .inl (cI, 6, .inl bf))]) hP hD [0, 1, 2, 3, 4, 5, 6, 7, 8, 9] [] rfl rfl (by decide) (by decide) hk1 hFc hP1 hD1
              generalize H1 = H at hP hS ⊢
              have hP : va_P D vwCl [(h0, .inr (4, [.int 2, .ref ow, .int re, .int (nI w), .int mt, .ref cl, .ref tu, .int (nI k), .ref lk, .ref f1, .ref s2, .ref ms, .ref nx, .ref bs, .int fd])), (ow, .inl (cJ, 3, .inr (.inl fo))), (cl, .inl (cI, 36, .inl cs)), (tu, .inl (cI, 36, .inl ts)), (lk, .inl (cJ, 3, .inr (.inl lo))), (f1, .inl (cJ, 6, .inr (.inl ff))), (s2, .inl (cJ, 6, .inr (.inl sf))), (ms, .inl (cI, 6, .inl mm)), (nx, .inl (cI, 6, .inl nf)), (bs, .inl (cI, 6, .inl bf))] H := hP.sub (ws' := [(h0, .inr (4, [.int 2, .ref ow, .int re, .int (nI w), .int mt, .ref cl, .ref tu, .int (nI k), .ref lk, .ref f1, .ref s2, .ref ms, .ref nx, .ref bs, .int fd])), (ow, .inl (cJ, 3, .inr (.inl fo))), (cl, .inl (cI, 36, .inl cs)), (tu, .inl (cI, 36, .inl ts)), (lk, .inl (cJ, 3, .inr (.inl lo))), (f1, .inl (cJ, 6, .inr (.inl ff))), (s2, .inl (cJ, 6, .inr (.inl sf))), (ms, .inl (cI, 6, .inl mm)), (nx, .inl (cI, 6, .inl nf)), (bs, .inl (cI, 6, .inl bf))]) [0, 1, 2, 3, 4, 5, 6, 7, 8, 9] rfl
              have hD : va_D A [(h0, .inr (4, [.int 2, .ref ow, .int re, .int (nI w), .int mt, .ref cl, .ref tu, .int (nI k), .ref lk, .ref f1, .ref s2, .ref ms, .ref nx, .ref bs, .int fd])), (ow, .inl (cJ, 3, .inr (.inl fo))), (cl, .inl (cI, 36, .inl cs)), (tu, .inl (cI, 36, .inl ts)), (lk, .inl (cJ, 3, .inr (.inl lo))), (f1, .inl (cJ, 6, .inr (.inl ff))), (s2, .inl (cJ, 6, .inr (.inl sf))), (ms, .inl (cI, 6, .inl mm)), (nx, .inl (cI, 6, .inl nf)), (bs, .inl (cI, 6, .inl bf))] := hD.sub (ws' := [(h0, .inr (4, [.int 2, .ref ow, .int re, .int (nI w), .int mt, .ref cl, .ref tu, .int (nI k), .ref lk, .ref f1, .ref s2, .ref ms, .ref nx, .ref bs, .int fd])), (ow, .inl (cJ, 3, .inr (.inl fo))), (cl, .inl (cI, 36, .inl cs)), (tu, .inl (cI, 36, .inl ts)), (lk, .inl (cJ, 3, .inr (.inl lo))), (f1, .inl (cJ, 6, .inr (.inl ff))), (s2, .inl (cJ, 6, .inr (.inl sf))), (ms, .inl (cI, 6, .inl mm)), (nx, .inl (cI, 6, .inl nf)), (bs, .inl (cI, 6, .inl bf))]) [0, 1, 2, 3, 4, 5, 6, 7, 8, 9] (by decide) rfl
              obtain rfl := hw68.symm
              refine pk_ti (y := 0) (if_neg (by decide)) ?_
              refine lv_if_ne (tgt := 76) hx hb dX7_put_71 (by decide) (fun c71 => ?_) (fun c71 => ?_)
              · exact absurd c71 (by decide)
              · refine lv_iconst (v := 0) hx hb dX7_put_74 (by decide) ?_
                refine W.iret (v := 0) hx hb hr (fun tt ht hW => ⟨⟨0, (), rfl, ?_, by rw [ht]; exact hP, va_K.moved hW.alike hK, hD⟩, hS.F ht⟩) hS.2.2 dX7_put_75
                exact rfl
          · exact absurd c52 (by decide)
        · exact absurd (cell_ok hj) b49
      · refine lv_aload_n hx hb dX7_put_14 rfl (lv_at hl 0 rfl) ?_
        refine va_get (D := D) (ci := 4) (v := .int mt) (C := RX7) (T := TX7) (N := 15) hx hb hts hinX7 hown hK hP 0 rfl rfl 4 (by decide) hfl76 (fun _ h9 => h9) rfl dX7_put_15 ?_
        refine lv_if_ne (tgt := 41) hx hb dX7_put_18 (by decide) (fun c18 => ?_) (fun c18 => ?_)
        · refine lv_iconst (v := 1) hx hb dX7_put_41 (by decide) ?_
          refine lv_goto (tgt := 46) hx hb dX7_put_42 (by decide) ?_
          refine lv_istore_n (lv' := [(2, .int 1), (0, .ref h0), (1, .int (nI j))]) hx hb dX7_put_46 rfl hl (by decide) rfl (fun ls hl => ?_)
          refine lv_aload_n hx hb dX7_put_47 rfl (lv_at hl 1 rfl) ?_
          refine lv_iload_n hx hb dX7_put_48 rfl (lv_at hl 2 rfl) ?_
          refine vp_callSi (W.runS (As := [.int (nI j)]) (rest := [.ref h0]) ⟨hx, hb, hml, hown, hts⟩ (c_X7_isCell l (nI j)) (va_cwS 1 hts gX7_put_X7_isCell rfl rfl rfl (by decide +kernel) ⟨Nat.le_of_ble_eq_true rfl, Nat.le_of_ble_eq_true rfl⟩) ⟨px_blind0, fun U hU hW => ⟨rfl, trivial⟩⟩ rfl rfl hl.1 rfl (lv_room (Nat.le_of_ble_eq_true rfl)) dX7_put_49 ⟨(Nat.le_of_ble_eq_true rfl), (Nat.le_of_ble_eq_true rfl)⟩) (fun r49 er49 => ?_)
          obtain rfl := er49.symm
          refine pk_b (P := 0 ≤ (nI j) ∧ (nI j) ≤ 35) (fun b49 => ?_) (fun b49 => ?_)
          · refine lv_if_ne (tgt := 59) hx hb dX7_put_52 (by decide) (fun c52 => ?_) (fun c52 => ?_)
            · refine lv_iload_n hx hb dX7_put_59 rfl (lv_at hl 0 rfl) ?_
              refine lv_if_eq (tgt := 67) hx hb dX7_put_60 (by decide) (fun c60 => ?_) (fun c60 => ?_)
              · exact absurd c60 (by decide)
              · refine lv_iconst (v := 2) hx hb dX7_put_63 (by decide) ?_
                refine lv_goto (tgt := 68) hx hb dX7_put_64 (by decide) ?_
                have hPc := hP.sub (ws' := [(h0, .inr (4, [.int th, .ref ow, .int re, .int (nI w), .int mt, .ref cl, .ref tu, .int (nI k), .ref lk, .ref f1, .ref s2, .ref ms, .ref nx, .ref bs, .int fd])), (ow, .inl (cJ, 3, .inr (.inl fo))), (cl, .inl (cI, 36, .inl cs)), (tu, .inl (cI, 36, .inl ts)), (lk, .inl (cJ, 3, .inr (.inl lo))), (f1, .inl (cJ, 6, .inr (.inl ff))), (s2, .inl (cJ, 6, .inr (.inl sf))), (ms, .inl (cI, 6, .inl mm)), (nx, .inl (cI, 6, .inl nf)), (bs, .inl (cI, 6, .inl bf))]) [0, 1, 2, 3, 4, 5, 6, 7, 8, 9] rfl
                have hDc := hD.sub (ws' := [(h0, .inr (4, [.int th, .ref ow, .int re, .int (nI w), .int mt, .ref cl, .ref tu, .int (nI k), .ref lk, .ref f1, .ref s2, .ref ms, .ref nx, .ref bs, .int fd])), (ow, .inl (cJ, 3, .inr (.inl fo))), (cl, .inl (cI, 36, .inl cs)), (tu, .inl (cI, 36, .inl ts)), (lk, .inl (cJ, 3, .inr (.inl lo))), (f1, .inl (cJ, 6, .inr (.inl ff))), (s2, .inl (cJ, 6, .inr (.inl sf))), (ms, .inl (cI, 6, .inl mm)), (nx, .inl (cI, 6, .inl nf)), (bs, .inl (cI, 6, .inl bf))]) [0, 1, 2, 3, 4, 5, 6, 7, 8, 9] (by decide) rfl
                have hFc := va_free (wc := [(h0, .inr (4, [.int th, .ref ow, .int re, .int (nI w), .int mt, .ref cl, .ref tu, .int (nI k), .ref lk, .ref f1, .ref s2, .ref ms, .ref nx, .ref bs, .int fd])), (ow, .inl (cJ, 3, .inr (.inl fo))), (cl, .inl (cI, 36, .inl cs)), (tu, .inl (cI, 36, .inl ts)), (lk, .inl (cJ, 3, .inr (.inl lo))), (f1, .inl (cJ, 6, .inr (.inl ff))), (s2, .inl (cJ, 6, .inr (.inl sf))), (ms, .inl (cI, 6, .inl mm)), (nx, .inl (cI, 6, .inl nf)), (bs, .inl (cI, 6, .inl bf))]) hD hS hA [0, 1, 2, 3, 4, 5, 6, 7, 8, 9] rfl
                refine va_calli (va_runV (As := [.int 2]) (rest := []) ⟨hx, hb, hml, hown, hts⟩ (c_X7_goesWell l D cI cJ s.heap.size  h0 ow cl tu lk f1 s2 ms nx bs th re mt fd w k fo lo ff sf cs ts mm nf bf 2) (cwV 1 hts gX7_put_X7_goesWell rfl rfl rfl (by decide +kernel) ⟨Nat.le_of_ble_eq_true rfl, Nat.le_of_ble_eq_true rfl⟩) ⟨pv_blind, va_recv hK hPc (ci := 4) (q0 := 0) rfl rfl, fun U hU hW => ⟨rfl, by rw [hU], by rw [hU]; exact hPc, va_K.moved hW.alike hK, hDc.weaken (fun _ _ _ _ => trivial)⟩⟩ rfl rfl hl.1 rfl (lv_room (Nat.le_of_ble_eq_true rfl)) dX7_put_68 ⟨(Nat.le_of_ble_eq_true rfl), (Nat.le_of_ble_eq_true rfl)⟩) hS (fun q _ h => hFc q h) hFc (fun r68 u t9 H1 locs hth hvm hw68 hB hz1 hk1 hS => ?_)
                try dsimp only at hw68
                obtain ⟨hP1, hK1, hD1⟩ := hB
                rw [hth] at hP1
                obtain ⟨hP, hD⟩ := va_join (wr := []) (w1 := [(h0, .inr (4, [.int 2, .ref ow, .int re, .int (nI w), .int mt, .ref cl, .ref tu, .int (nI k), .ref lk, .ref f1, .ref s2, .ref ms, .ref nx, .ref bs, .int fd])), (ow, .inl (cJ, 3, .inr (.inl fo))), (cl, .inl (cI, 36, .inl cs)), (tu, .inl (cI, 36, .inl ts)), (lk, .inl (cJ, 3, .inr (.inl lo))), (f1, .inl (cJ, 6, .inr (.inl ff))), (s2, .inl (cJ, 6, .inr (.inl sf))), (ms, .inl (cI, 6, .inl mm)), (nx, .inl (cI, 6, .inl nf)), (bs, .inl (cI, 6, .inl bf))]) hP hD [0, 1, 2, 3, 4, 5, 6, 7, 8, 9] [] rfl rfl (by decide) (by decide) hk1 hFc hP1 hD1
                generalize H1 = H at hP hS ⊢
                have hP : va_P D vwCl [(h0, .inr (4, [.int 2, .ref ow, .int re, .int (nI w), .int mt, .ref cl, .ref tu, .int (nI k), .ref lk, .ref f1, .ref s2, .ref ms, .ref nx, .ref bs, .int fd])), (ow, .inl (cJ, 3, .inr (.inl fo))), (cl, .inl (cI, 36, .inl cs)), (tu, .inl (cI, 36, .inl ts)), (lk, .inl (cJ, 3, .inr (.inl lo))), (f1, .inl (cJ, 6, .inr (.inl ff))), (s2, .inl (cJ, 6, .inr (.inl sf))), (ms, .inl (cI, 6, .inl mm)), (nx, .inl (cI, 6, .inl nf)), (bs, .inl (cI, 6, .inl bf))] H := hP.sub (ws' := [(h0, .inr (4, [.int 2, .ref ow, .int re, .int (nI w), .int mt, .ref cl, .ref tu, .int (nI k), .ref lk, .ref f1, .ref s2, .ref ms, .ref nx, .ref bs, .int fd])), (ow, .inl (cJ, 3, .inr (.inl fo))), (cl, .inl (cI, 36, .inl cs)), (tu, .inl (cI, 36, .inl ts)), (lk, .inl (cJ, 3, .inr (.inl lo))), (f1, .inl (cJ, 6, .inr (.inl ff))), (s2, .inl (cJ, 6, .inr (.inl sf))), (ms, .inl (cI, 6, .inl mm)), (nx, .inl (cI, 6, .inl nf)), (bs, .inl (cI, 6, .inl bf))]) [0, 1, 2, 3, 4, 5, 6, 7, 8, 9] rfl
                have hD : va_D A [(h0, .inr (4, [.int 2, .ref ow, .int re, .int (nI w), .int mt, .ref cl, .ref tu, .int (nI k), .ref lk, .ref f1, .ref s2, .ref ms, .ref nx, .ref bs, .int fd])), (ow, .inl (cJ, 3, .inr (.inl fo))), (cl, .inl (cI, 36, .inl cs)), (tu, .inl (cI, 36, .inl ts)), (lk, .inl (cJ, 3, .inr (.inl lo))), (f1, .inl (cJ, 6, .inr (.inl ff))), (s2, .inl (cJ, 6, .inr (.inl sf))), (ms, .inl (cI, 6, .inl mm)), (nx, .inl (cI, 6, .inl nf)), (bs, .inl (cI, 6, .inl bf))] := hD.sub (ws' := [(h0, .inr (4, [.int 2, .ref ow, .int re, .int (nI w), .int mt, .ref cl, .ref tu, .int (nI k), .ref lk, .ref f1, .ref s2, .ref ms, .ref nx, .ref bs, .int fd])), (ow, .inl (cJ, 3, .inr (.inl fo))), (cl, .inl (cI, 36, .inl cs)), (tu, .inl (cI, 36, .inl ts)), (lk, .inl (cJ, 3, .inr (.inl lo))), (f1, .inl (cJ, 6, .inr (.inl ff))), (s2, .inl (cJ, 6, .inr (.inl sf))), (ms, .inl (cI, 6, .inl mm)), (nx, .inl (cI, 6, .inl nf)), (bs, .inl (cI, 6, .inl bf))]) [0, 1, 2, 3, 4, 5, 6, 7, 8, 9] (by decide) rfl
                obtain rfl := hw68.symm
                refine pk_ti (y := 0) (if_neg (by decide)) ?_
                refine lv_if_ne (tgt := 76) hx hb dX7_put_71 (by decide) (fun c71 => ?_) (fun c71 => ?_)
                · exact absurd c71 (by decide)
                · refine lv_iconst (v := 0) hx hb dX7_put_74 (by decide) ?_
                  refine W.iret (v := 0) hx hb hr (fun tt ht hW => ⟨⟨0, (), rfl, ?_, by rw [ht]; exact hP, va_K.moved hW.alike hK, hD⟩, hS.F ht⟩) hS.2.2 dX7_put_75
                  exact rfl
            · exact absurd c52 (by decide)
          · exact absurd (cell_ok hj) b49
        · refine lv_aload_n hx hb dX7_put_21 rfl (lv_at hl 0 rfl) ?_
          refine va_get (D := D) (ci := 4) (v := .ref ow) (C := RX7) (T := TX7) (N := 15) hx hb hts hinX7 hown hK hP 0 rfl rfl 1 (by decide) hfl7 (fun _ h9 => h9) rfl dX7_put_22 ?_
          refine lv_iconst (v := 1) hx hb dX7_put_25 (by decide) ?_
          refine va_lald hx hb hK hP 1 1 rfl rfl (vp_in_nI (n := 1) (N := 3) (by omega) (by decide)) dX7_put_26 ?_
          refine pk_tl (y := (fo 1)) (congrArg fo (pk_cl 1)) ?_
          refine lv_aload_n hx hb dX7_put_27 rfl (lv_at hl 0 rfl) ?_
          refine va_get (D := D) (ci := 4) (v := .ref ow) (C := RX7) (T := TX7) (N := 15) hx hb hts hinX7 hown hK hP 0 rfl rfl 1 (by decide) hfl7 (fun _ h9 => h9) rfl dX7_put_28 ?_
          refine lv_iconst (v := 2) hx hb dX7_put_31 (by decide) ?_
          refine va_lald hx hb hK hP 1 1 rfl rfl (vp_in_nI (n := 2) (N := 3) (by omega) (by decide)) dX7_put_32 ?_
          refine pk_tl (y := (fo 2)) (congrArg fo (pk_cl 2)) ?_
          refine lv_lor hx hb dX7_put_33 ?_
          refine lv_topl (fun x33 ex33 => ?_)
          refine lv_iload_n hx hb dX7_put_34 rfl (lv_at hl 1 rfl) ?_
          refine vp_callSi (W.runS (As := [.long x33, .int (nI j)]) (rest := []) ⟨hx, hb, hml, hown, hts⟩ (c_X7_has l x33 j (by omega)) (va_cwS 2 hts gX7_put_X7_has rfl rfl rfl (by decide +kernel) ⟨Nat.le_of_ble_eq_true rfl, Nat.le_of_ble_eq_true rfl⟩) ⟨px_blind0, fun U hU hW => ⟨rfl, trivial⟩⟩ rfl rfl hl.1 rfl (lv_room (Nat.le_of_ble_eq_true rfl)) dX7_put_35 ⟨(Nat.le_of_ble_eq_true rfl), (Nat.le_of_ble_eq_true rfl)⟩) (fun r35 er35 => ?_)
          obtain rfl := er35.symm
          refine pk_b (P := bt x33 j = true) (fun b35 => ?_) (fun b35 => ?_)
          · refine lv_if_eq (tgt := 45) hx hb dX7_put_38 (by decide) (fun c38 => ?_) (fun c38 => ?_)
            · exact absurd c38 (by decide)
            · refine lv_iconst (v := 1) hx hb dX7_put_41 (by decide) ?_
              refine lv_goto (tgt := 46) hx hb dX7_put_42 (by decide) ?_
              refine lv_istore_n (lv' := [(2, .int 1), (0, .ref h0), (1, .int (nI j))]) hx hb dX7_put_46 rfl hl (by decide) rfl (fun ls hl => ?_)
              refine lv_aload_n hx hb dX7_put_47 rfl (lv_at hl 1 rfl) ?_
              refine lv_iload_n hx hb dX7_put_48 rfl (lv_at hl 2 rfl) ?_
              refine vp_callSi (W.runS (As := [.int (nI j)]) (rest := [.ref h0]) ⟨hx, hb, hml, hown, hts⟩ (c_X7_isCell l (nI j)) (va_cwS 1 hts gX7_put_X7_isCell rfl rfl rfl (by decide +kernel) ⟨Nat.le_of_ble_eq_true rfl, Nat.le_of_ble_eq_true rfl⟩) ⟨px_blind0, fun U hU hW => ⟨rfl, trivial⟩⟩ rfl rfl hl.1 rfl (lv_room (Nat.le_of_ble_eq_true rfl)) dX7_put_49 ⟨(Nat.le_of_ble_eq_true rfl), (Nat.le_of_ble_eq_true rfl)⟩) (fun r49 er49 => ?_)
              obtain rfl := er49.symm
              refine pk_b (P := 0 ≤ (nI j) ∧ (nI j) ≤ 35) (fun b49 => ?_) (fun b49 => ?_)
              · refine lv_if_ne (tgt := 59) hx hb dX7_put_52 (by decide) (fun c52 => ?_) (fun c52 => ?_)
                · refine lv_iload_n hx hb dX7_put_59 rfl (lv_at hl 0 rfl) ?_
                  refine lv_if_eq (tgt := 67) hx hb dX7_put_60 (by decide) (fun c60 => ?_) (fun c60 => ?_)
                  · exact absurd c60 (by decide)
                  · refine lv_iconst (v := 2) hx hb dX7_put_63 (by decide) ?_
                    refine lv_goto (tgt := 68) hx hb dX7_put_64 (by decide) ?_
                    have hPc := hP.sub (ws' := [(h0, .inr (4, [.int th, .ref ow, .int re, .int (nI w), .int mt, .ref cl, .ref tu, .int (nI k), .ref lk, .ref f1, .ref s2, .ref ms, .ref nx, .ref bs, .int fd])), (ow, .inl (cJ, 3, .inr (.inl fo))), (cl, .inl (cI, 36, .inl cs)), (tu, .inl (cI, 36, .inl ts)), (lk, .inl (cJ, 3, .inr (.inl lo))), (f1, .inl (cJ, 6, .inr (.inl ff))), (s2, .inl (cJ, 6, .inr (.inl sf))), (ms, .inl (cI, 6, .inl mm)), (nx, .inl (cI, 6, .inl nf)), (bs, .inl (cI, 6, .inl bf))]) [0, 1, 2, 3, 4, 5, 6, 7, 8, 9] rfl
                    have hDc := hD.sub (ws' := [(h0, .inr (4, [.int th, .ref ow, .int re, .int (nI w), .int mt, .ref cl, .ref tu, .int (nI k), .ref lk, .ref f1, .ref s2, .ref ms, .ref nx, .ref bs, .int fd])), (ow, .inl (cJ, 3, .inr (.inl fo))), (cl, .inl (cI, 36, .inl cs)), (tu, .inl (cI, 36, .inl ts)), (lk, .inl (cJ, 3, .inr (.inl lo))), (f1, .inl (cJ, 6, .inr (.inl ff))), (s2, .inl (cJ, 6, .inr (.inl sf))), (ms, .inl (cI, 6, .inl mm)), (nx, .inl (cI, 6, .inl nf)), (bs, .inl (cI, 6, .inl bf))]) [0, 1, 2, 3, 4, 5, 6, 7, 8, 9] (by decide) rfl
                    have hFc := va_free (wc := [(h0, .inr (4, [.int th, .ref ow, .int re, .int (nI w), .int mt, .ref cl, .ref tu, .int (nI k), .ref lk, .ref f1, .ref s2, .ref ms, .ref nx, .ref bs, .int fd])), (ow, .inl (cJ, 3, .inr (.inl fo))), (cl, .inl (cI, 36, .inl cs)), (tu, .inl (cI, 36, .inl ts)), (lk, .inl (cJ, 3, .inr (.inl lo))), (f1, .inl (cJ, 6, .inr (.inl ff))), (s2, .inl (cJ, 6, .inr (.inl sf))), (ms, .inl (cI, 6, .inl mm)), (nx, .inl (cI, 6, .inl nf)), (bs, .inl (cI, 6, .inl bf))]) hD hS hA [0, 1, 2, 3, 4, 5, 6, 7, 8, 9] rfl
                    refine va_calli (va_runV (As := [.int 2]) (rest := []) ⟨hx, hb, hml, hown, hts⟩ (c_X7_goesWell l D cI cJ s.heap.size  h0 ow cl tu lk f1 s2 ms nx bs th re mt fd w k fo lo ff sf cs ts mm nf bf 2) (cwV 1 hts gX7_put_X7_goesWell rfl rfl rfl (by decide +kernel) ⟨Nat.le_of_ble_eq_true rfl, Nat.le_of_ble_eq_true rfl⟩) ⟨pv_blind, va_recv hK hPc (ci := 4) (q0 := 0) rfl rfl, fun U hU hW => ⟨rfl, by rw [hU], by rw [hU]; exact hPc, va_K.moved hW.alike hK, hDc.weaken (fun _ _ _ _ => trivial)⟩⟩ rfl rfl hl.1 rfl (lv_room (Nat.le_of_ble_eq_true rfl)) dX7_put_68 ⟨(Nat.le_of_ble_eq_true rfl), (Nat.le_of_ble_eq_true rfl)⟩) hS (fun q _ h => hFc q h) hFc (fun r68 u t9 H1 locs hth hvm hw68 hB hz1 hk1 hS => ?_)
                    try dsimp only at hw68
                    obtain ⟨hP1, hK1, hD1⟩ := hB
                    rw [hth] at hP1
                    obtain ⟨hP, hD⟩ := va_join (wr := []) (w1 := [(h0, .inr (4, [.int 2, .ref ow, .int re, .int (nI w), .int mt, .ref cl, .ref tu, .int (nI k), .ref lk, .ref f1, .ref s2, .ref ms, .ref nx, .ref bs, .int fd])), (ow, .inl (cJ, 3, .inr (.inl fo))), (cl, .inl (cI, 36, .inl cs)), (tu, .inl (cI, 36, .inl ts)), (lk, .inl (cJ, 3, .inr (.inl lo))), (f1, .inl (cJ, 6, .inr (.inl ff))), (s2, .inl (cJ, 6, .inr (.inl sf))), (ms, .inl (cI, 6, .inl mm)), (nx, .inl (cI, 6, .inl nf)), (bs, .inl (cI, 6, .inl bf))]) hP hD [0, 1, 2, 3, 4, 5, 6, 7, 8, 9] [] rfl rfl (by decide) (by decide) hk1 hFc hP1 hD1
                    generalize H1 = H at hP hS ⊢
                    have hP : va_P D vwCl [(h0, .inr (4, [.int 2, .ref ow, .int re, .int (nI w), .int mt, .ref cl, .ref tu, .int (nI k), .ref lk, .ref f1, .ref s2, .ref ms, .ref nx, .ref bs, .int fd])), (ow, .inl (cJ, 3, .inr (.inl fo))), (cl, .inl (cI, 36, .inl cs)), (tu, .inl (cI, 36, .inl ts)), (lk, .inl (cJ, 3, .inr (.inl lo))), (f1, .inl (cJ, 6, .inr (.inl ff))), (s2, .inl (cJ, 6, .inr (.inl sf))), (ms, .inl (cI, 6, .inl mm)), (nx, .inl (cI, 6, .inl nf)), (bs, .inl (cI, 6, .inl bf))] H := hP.sub (ws' := [(h0, .inr (4, [.int 2, .ref ow, .int re, .int (nI w), .int mt, .ref cl, .ref tu, .int (nI k), .ref lk, .ref f1, .ref s2, .ref ms, .ref nx, .ref bs, .int fd])), (ow, .inl (cJ, 3, .inr (.inl fo))), (cl, .inl (cI, 36, .inl cs)), (tu, .inl (cI, 36, .inl ts)), (lk, .inl (cJ, 3, .inr (.inl lo))), (f1, .inl (cJ, 6, .inr (.inl ff))), (s2, .inl (cJ, 6, .inr (.inl sf))), (ms, .inl (cI, 6, .inl mm)), (nx, .inl (cI, 6, .inl nf)), (bs, .inl (cI, 6, .inl bf))]) [0, 1, 2, 3, 4, 5, 6, 7, 8, 9] rfl
                    have hD : va_D A [(h0, .inr (4, [.int 2, .ref ow, .int re, .int (nI w), .int mt, .ref cl, .ref tu, .int (nI k), .ref lk, .ref f1, .ref s2, .ref ms, .ref nx, .ref bs, .int fd])), (ow, .inl (cJ, 3, .inr (.inl fo))), (cl, .inl (cI, 36, .inl cs)), (tu, .inl (cI, 36, .inl ts)), (lk, .inl (cJ, 3, .inr (.inl lo))), (f1, .inl (cJ, 6, .inr (.inl ff))), (s2, .inl (cJ, 6, .inr (.inl sf))), (ms, .inl (cI, 6, .inl mm)), (nx, .inl (cI, 6, .inl nf)), (bs, .inl (cI, 6, .inl bf))] := hD.sub (ws' := [(h0, .inr (4, [.int 2, .ref ow, .int re, .int (nI w), .int mt, .ref cl, .ref tu, .int (nI k), .ref lk, .ref f1, .ref s2, .ref ms, .ref nx, .ref bs, .int fd])), (ow, .inl (cJ, 3, .inr (.inl fo))), (cl, .inl (cI, 36, .inl cs)), (tu, .inl (cI, 36, .inl ts)), (lk, .inl (cJ, 3, .inr (.inl lo))), (f1, .inl (cJ, 6, .inr (.inl ff))), (s2, .inl (cJ, 6, .inr (.inl sf))), (ms, .inl (cI, 6, .inl mm)), (nx, .inl (cI, 6, .inl nf)), (bs, .inl (cI, 6, .inl bf))]) [0, 1, 2, 3, 4, 5, 6, 7, 8, 9] (by decide) rfl
                    obtain rfl := hw68.symm
                    refine pk_ti (y := 0) (if_neg (by decide)) ?_
                    refine lv_if_ne (tgt := 76) hx hb dX7_put_71 (by decide) (fun c71 => ?_) (fun c71 => ?_)
                    · exact absurd c71 (by decide)
                    · refine lv_iconst (v := 0) hx hb dX7_put_74 (by decide) ?_
                      obtain rfl := ex33.symm
                      refine W.iret (v := 0) hx hb hr (fun tt ht hW => ⟨⟨0, (), rfl, ?_, by rw [ht]; exact hP, va_K.moved hW.alike hK, hD⟩, hS.F ht⟩) hS.2.2 dX7_put_75
                      exact rfl
                · exact absurd c52 (by decide)
              · exact absurd (cell_ok hj) b49
          · exact absurd ⟨c11, c18, by obtain rfl := ex33.symm; exact b35⟩ hbad
  · exact absurd (cell_ok hj) b1

set_option maxHeartbeats 400000 in
set_option maxRecDepth 100000 in
theorem c_X7_put_ok (l : Launch) (D : va_G) (cI cJ : ClassId) (sz : Nat) (h0 ow cl tu lk f1 s2 ms nx bs : Nat) (th fd : Int32) (w k : Nat) (fo lo ff sf : Nat → Int64) (cs ts mm nf bf : Nat → Int32) (j : Nat) (hj : j < 36) (hw : w = 1 ∨ w = 2) (hk : k < 36) (hf : ¬ bt (fo 1 ||| fo 2) j = true) : Met l yX7_put wsX7_put ({ frames := 3, cells := 0, slots := 0, locals := 72 } : Room) (va_Pc [.ref h0, .int (nI j)] (pv_C D cI cJ [(h0, .inr (4, [.int th, .ref ow, .int 0, .int (nI w), .int 0, .ref cl, .ref tu, .int (nI k), .ref lk, .ref f1, .ref s2, .ref ms, .ref nx, .ref bs, .int fd])), (ow, .inl (cJ, 3, .inr (.inl fo))), (cl, .inl (cI, 36, .inl cs)), (tu, .inl (cI, 36, .inl ts)), (lk, .inl (cJ, 3, .inr (.inl lo))), (f1, .inl (cJ, 6, .inr (.inl ff))), (s2, .inl (cJ, 6, .inr (.inl sf))), (ms, .inl (cI, 6, .inl mm)), (nx, .inl (cI, 6, .inl nf)), (bs, .inl (cI, 6, .inl bf))] sz)) (va_Qi (fun (r : Int32) (u : (Int32) × (Int32)) => r = u.2 ∧ u.1 = (if 0 < msum (fo w ||| jshl 1 (nI j)) 0 5 32 then 0 else 1) ∧ u.2 = (if 0 < msum (fo w ||| jshl 1 (nI j)) 0 5 32 then nI w else 0)) (fun (u : (Int32) × (Int32)) => pv_B D cI cJ (va_A [(h0, .inr (4, [.int th, .ref ow, .int 0, .int (nI w), .int 0, .ref cl, .ref tu, .int (nI k), .ref lk, .ref f1, .ref s2, .ref ms, .ref nx, .ref bs, .int fd])), (ow, .inl (cJ, 3, .inr (.inl fo))), (cl, .inl (cI, 36, .inl cs)), (tu, .inl (cI, 36, .inl ts)), (lk, .inl (cJ, 3, .inr (.inl lo))), (f1, .inl (cJ, 6, .inr (.inl ff))), (s2, .inl (cJ, 6, .inr (.inl sf))), (ms, .inl (cI, 6, .inl mm)), (nx, .inl (cI, 6, .inl nf)), (bs, .inl (cI, 6, .inl bf))] sz) [(h0, .inr (4, [.int 0, .ref ow, .int u.2, .int (nI w), .int u.1, .ref cl, .ref tu, .int (nI (k + 1)), .ref lk, .ref f1, .ref s2, .ref ms, .ref nx, .ref bs, .int fd])), (ow, .inl (cJ, 3, .inr (.inl (vp_updL fo w (fo w ||| jshl 1 (nI j)))))), (cl, .inl (cI, 36, .inl (upd cs k (nI j)))), (tu, .inl (cI, 36, .inl (upd ts k (-1)))), (lk, .inl (cJ, 3, .inr (.inl lo))), (f1, .inl (cJ, 6, .inr (.inl ff))), (s2, .inl (cJ, 6, .inr (.inl sf))), (ms, .inl (cI, 6, .inl mm)), (nx, .inl (cI, 6, .inl nf)), (bs, .inl (cI, 6, .inl bf))]) (va_A [(h0, .inr (4, [.int th, .ref ow, .int 0, .int (nI w), .int 0, .ref cl, .ref tu, .int (nI k), .ref lk, .ref f1, .ref s2, .ref ms, .ref nx, .ref bs, .int fd])), (ow, .inl (cJ, 3, .inr (.inl fo))), (cl, .inl (cI, 36, .inl cs)), (tu, .inl (cI, 36, .inl ts)), (lk, .inl (cJ, 3, .inr (.inl lo))), (f1, .inl (cJ, 6, .inr (.inl ff))), (s2, .inl (cJ, 6, .inr (.inl sf))), (ms, .inl (cI, 6, .inl mm)), (nx, .inl (cI, 6, .inl nf)), (bs, .inl (cI, 6, .inl bf))] sz)) 0 0 (va_A [(h0, .inr (4, [.int th, .ref ow, .int 0, .int (nI w), .int 0, .ref cl, .ref tu, .int (nI k), .ref lk, .ref f1, .ref s2, .ref ms, .ref nx, .ref bs, .int fd])), (ow, .inl (cJ, 3, .inr (.inl fo))), (cl, .inl (cI, 36, .inl cs)), (tu, .inl (cI, 36, .inl ts)), (lk, .inl (cJ, 3, .inr (.inl lo))), (f1, .inl (cJ, 6, .inr (.inl ff))), (s2, .inl (cJ, 6, .inr (.inl sf))), (ms, .inl (cI, 6, .inl mm)), (nx, .inl (cI, 6, .inl nf)), (bs, .inl (cI, 6, .inl bf))] sz) := by
  refine Met.ofW (cc := cX7_put) (maxL := 3) (ret := (some .int)) (by decide) rfl ?_
  intro p e s m args below meth c s₁ B hml hv
  obtain ⟨rfl, rfl, hP, hK, hD0⟩ := hv
  have hx := B.exec
  have hb := B.bytes
  have hr := B.returns
  have hts := atoms_spec (ws := wsX7_put) B.pre
  have hown : s.vm.findClass RX7 = some m.cls := findClass_of_methodNamed B.named
  have hlocks := B.notSynchronized
  have hD := hD0.self (sz := s.heap.size)
  generalize hAe : va_A [(h0, .inr (4, [.int th, .ref ow, .int 0, .int (nI w), .int 0, .ref cl, .ref tu, .int (nI k), .ref lk, .ref f1, .ref s2, .ref ms, .ref nx, .ref bs, .int fd])), (ow, .inl (cJ, 3, .inr (.inl fo))), (cl, .inl (cI, 36, .inl cs)), (tu, .inl (cI, 36, .inl ts)), (lk, .inl (cJ, 3, .inr (.inl lo))), (f1, .inl (cJ, 6, .inr (.inl ff))), (s2, .inl (cJ, 6, .inr (.inl sf))), (ms, .inl (cI, 6, .inl mm)), (nx, .inl (cI, 6, .inl nf)), (bs, .inl (cI, 6, .inl bf))] s.heap.size = A at hD ⊢
  have hA : ∀ q : Nat, s.heap.size ≤ q → A q := fun q h => by rw [← hAe]; exact Or.inr h
  have hS : va_S A s.heap s.heap [] := va_S.rf
  have hinX7 : ∀ w ∈ wsX70, w ∈ wsX7_put := by decide +kernel
  have hfl73 : (Cond.fieldLink RX7 73 "TwistquadModel" "result" "I").before ([.ref h0, .int (nI j)] : List Value).toArray s = true := hts _ (by decide +kernel)
  have hfl76 : (Cond.fieldLink RX7 76 "TwistquadModel" "mustTurn" "Z").before ([.ref h0, .int (nI j)] : List Value).toArray s = true := hts _ (by decide +kernel)
  have hfl7 : (Cond.fieldLink RX7 7 "TwistquadModel" "own" "[J").before ([.ref h0, .int (nI j)] : List Value).toArray s = true := hts _ (by decide +kernel)
  have hfl13 : (Cond.fieldLink RX7 13 "TwistquadModel" "mover" "I").before ([.ref h0, .int (nI j)] : List Value).toArray s = true := hts _ (by decide +kernel)
  have hfl17 : (Cond.fieldLink RX7 17 "TwistquadModel" "cells" "[I").before ([.ref h0, .int (nI j)] : List Value).toArray s = true := hts _ (by decide +kernel)
  have hfl83 : (Cond.fieldLink RX7 83 "TwistquadModel" "moves" "I").before ([.ref h0, .int (nI j)] : List Value).toArray s = true := hts _ (by decide +kernel)
  have hfl21 : (Cond.fieldLink RX7 21 "TwistquadModel" "turns" "[I").before ([.ref h0, .int (nI j)] : List Value).toArray s = true := hts _ (by decide +kernel)
  have hl := lv_entry ([.ref h0, .int (nI j)]) (n := 3) (Nat.le_of_ble_eq_true rfl)
  rw [lg_entry_eq]
  generalize (lg_sl ([.ref h0, .int (nI j)]) ++ List.replicate (3 - (lg_sl ([.ref h0, .int (nI j)])).length) Slot.unset).toArray = ls at hl ⊢
  have hl : lv_has ls 3 [(0, .ref h0), (1, .int (nI j))] := hl
  refine lv_iload_n hx hb dX7_put_0 rfl (lv_at hl 1 rfl) ?_
  refine vp_callSi (W.runS (As := [.int (nI j)]) (rest := []) ⟨hx, hb, hml, hown, hts⟩ (c_X7_isCell l (nI j)) (va_cwS 1 hts gX7_put_X7_isCell rfl rfl rfl (by decide +kernel) ⟨Nat.le_of_ble_eq_true rfl, Nat.le_of_ble_eq_true rfl⟩) ⟨px_blind0, fun U hU hW => ⟨rfl, trivial⟩⟩ rfl rfl hl.1 rfl (lv_room (Nat.le_of_ble_eq_true rfl)) dX7_put_1 ⟨(Nat.le_of_ble_eq_true rfl), (Nat.le_of_ble_eq_true rfl)⟩) (fun r1 er1 => ?_)
  obtain rfl := er1.symm
  refine pk_b (P := 0 ≤ (nI j) ∧ (nI j) ≤ 35) (fun b1 => ?_) (fun b1 => ?_)
  · refine lv_if_eq (tgt := 45) hx hb dX7_put_4 (by decide) (fun c4 => ?_) (fun c4 => ?_)
    · exact absurd c4 (by decide)
    · refine lv_aload_n hx hb dX7_put_7 rfl (lv_at hl 0 rfl) ?_
      refine va_get (D := D) (ci := 4) (v := .int 0) (C := RX7) (T := TX7) (N := 15) hx hb hts hinX7 hown hK hP 0 rfl rfl 2 (by decide) hfl73 (fun _ h9 => h9) rfl dX7_put_8 ?_
      refine lv_if_ne (tgt := 41) hx hb dX7_put_11 (by decide) (fun c11 => ?_) (fun c11 => ?_)
      · exact absurd c11 (by decide)
      · refine lv_aload_n hx hb dX7_put_14 rfl (lv_at hl 0 rfl) ?_
        refine va_get (D := D) (ci := 4) (v := .int 0) (C := RX7) (T := TX7) (N := 15) hx hb hts hinX7 hown hK hP 0 rfl rfl 4 (by decide) hfl76 (fun _ h9 => h9) rfl dX7_put_15 ?_
        refine lv_if_ne (tgt := 41) hx hb dX7_put_18 (by decide) (fun c18 => ?_) (fun c18 => ?_)
        · exact absurd c18 (by decide)
        · refine lv_aload_n hx hb dX7_put_21 rfl (lv_at hl 0 rfl) ?_
          refine va_get (D := D) (ci := 4) (v := .ref ow) (C := RX7) (T := TX7) (N := 15) hx hb hts hinX7 hown hK hP 0 rfl rfl 1 (by decide) hfl7 (fun _ h9 => h9) rfl dX7_put_22 ?_
          refine lv_iconst (v := 1) hx hb dX7_put_25 (by decide) ?_
          refine va_lald hx hb hK hP 1 1 rfl rfl (vp_in_nI (n := 1) (N := 3) (by omega) (by decide)) dX7_put_26 ?_
          refine pk_tl (y := (fo 1)) (congrArg fo (pk_cl 1)) ?_
          refine lv_aload_n hx hb dX7_put_27 rfl (lv_at hl 0 rfl) ?_
          refine va_get (D := D) (ci := 4) (v := .ref ow) (C := RX7) (T := TX7) (N := 15) hx hb hts hinX7 hown hK hP 0 rfl rfl 1 (by decide) hfl7 (fun _ h9 => h9) rfl dX7_put_28 ?_
          refine lv_iconst (v := 2) hx hb dX7_put_31 (by decide) ?_
          refine va_lald hx hb hK hP 1 1 rfl rfl (vp_in_nI (n := 2) (N := 3) (by omega) (by decide)) dX7_put_32 ?_
          refine pk_tl (y := (fo 2)) (congrArg fo (pk_cl 2)) ?_
          refine lv_lor hx hb dX7_put_33 ?_
          refine lv_topl (fun x33 ex33 => ?_)
          refine lv_iload_n hx hb dX7_put_34 rfl (lv_at hl 1 rfl) ?_
          refine vp_callSi (W.runS (As := [.long x33, .int (nI j)]) (rest := []) ⟨hx, hb, hml, hown, hts⟩ (c_X7_has l x33 j (by omega)) (va_cwS 2 hts gX7_put_X7_has rfl rfl rfl (by decide +kernel) ⟨Nat.le_of_ble_eq_true rfl, Nat.le_of_ble_eq_true rfl⟩) ⟨px_blind0, fun U hU hW => ⟨rfl, trivial⟩⟩ rfl rfl hl.1 rfl (lv_room (Nat.le_of_ble_eq_true rfl)) dX7_put_35 ⟨(Nat.le_of_ble_eq_true rfl), (Nat.le_of_ble_eq_true rfl)⟩) (fun r35 er35 => ?_)
          obtain rfl := er35.symm
          refine pk_b (P := bt x33 j = true) (fun b35 => ?_) (fun b35 => ?_)
          · exact absurd (by obtain rfl := ex33.symm; exact b35) hf
          · refine lv_if_eq (tgt := 45) hx hb dX7_put_38 (by decide) (fun c38 => ?_) (fun c38 => ?_)
            · refine lv_iconst (v := 0) hx hb dX7_put_45 (by decide) ?_
              refine lv_istore_n (lv' := [(2, .int 0), (0, .ref h0), (1, .int (nI j))]) hx hb dX7_put_46 rfl hl (by decide) rfl (fun ls hl => ?_)
              refine lv_aload_n hx hb dX7_put_47 rfl (lv_at hl 1 rfl) ?_
              refine lv_iload_n hx hb dX7_put_48 rfl (lv_at hl 2 rfl) ?_
              refine vp_callSi (W.runS (As := [.int (nI j)]) (rest := [.ref h0]) ⟨hx, hb, hml, hown, hts⟩ (c_X7_isCell l (nI j)) (va_cwS 1 hts gX7_put_X7_isCell rfl rfl rfl (by decide +kernel) ⟨Nat.le_of_ble_eq_true rfl, Nat.le_of_ble_eq_true rfl⟩) ⟨px_blind0, fun U hU hW => ⟨rfl, trivial⟩⟩ rfl rfl hl.1 rfl (lv_room (Nat.le_of_ble_eq_true rfl)) dX7_put_49 ⟨(Nat.le_of_ble_eq_true rfl), (Nat.le_of_ble_eq_true rfl)⟩) (fun r49 er49 => ?_)
              obtain rfl := er49.symm
              refine pk_b (P := 0 ≤ (nI j) ∧ (nI j) ≤ 35) (fun b49 => ?_) (fun b49 => ?_)
              · refine lv_if_ne (tgt := 59) hx hb dX7_put_52 (by decide) (fun c52 => ?_) (fun c52 => ?_)
                · refine lv_iload_n hx hb dX7_put_59 rfl (lv_at hl 0 rfl) ?_
                  refine lv_if_eq (tgt := 67) hx hb dX7_put_60 (by decide) (fun c60 => ?_) (fun c60 => ?_)
                  · refine lv_iconst (v := 0) hx hb dX7_put_67 (by decide) ?_
                    have hPc := hP.sub (ws' := [(h0, .inr (4, [.int th, .ref ow, .int 0, .int (nI w), .int 0, .ref cl, .ref tu, .int (nI k), .ref lk, .ref f1, .ref s2, .ref ms, .ref nx, .ref bs, .int fd])), (ow, .inl (cJ, 3, .inr (.inl fo))), (cl, .inl (cI, 36, .inl cs)), (tu, .inl (cI, 36, .inl ts)), (lk, .inl (cJ, 3, .inr (.inl lo))), (f1, .inl (cJ, 6, .inr (.inl ff))), (s2, .inl (cJ, 6, .inr (.inl sf))), (ms, .inl (cI, 6, .inl mm)), (nx, .inl (cI, 6, .inl nf)), (bs, .inl (cI, 6, .inl bf))]) [0, 1, 2, 3, 4, 5, 6, 7, 8, 9] rfl
                    have hDc := hD.sub (ws' := [(h0, .inr (4, [.int th, .ref ow, .int 0, .int (nI w), .int 0, .ref cl, .ref tu, .int (nI k), .ref lk, .ref f1, .ref s2, .ref ms, .ref nx, .ref bs, .int fd])), (ow, .inl (cJ, 3, .inr (.inl fo))), (cl, .inl (cI, 36, .inl cs)), (tu, .inl (cI, 36, .inl ts)), (lk, .inl (cJ, 3, .inr (.inl lo))), (f1, .inl (cJ, 6, .inr (.inl ff))), (s2, .inl (cJ, 6, .inr (.inl sf))), (ms, .inl (cI, 6, .inl mm)), (nx, .inl (cI, 6, .inl nf)), (bs, .inl (cI, 6, .inl bf))]) [0, 1, 2, 3, 4, 5, 6, 7, 8, 9] (by decide) rfl
                    have hFc := va_free (wc := [(h0, .inr (4, [.int th, .ref ow, .int 0, .int (nI w), .int 0, .ref cl, .ref tu, .int (nI k), .ref lk, .ref f1, .ref s2, .ref ms, .ref nx, .ref bs, .int fd])), (ow, .inl (cJ, 3, .inr (.inl fo))), (cl, .inl (cI, 36, .inl cs)), (tu, .inl (cI, 36, .inl ts)), (lk, .inl (cJ, 3, .inr (.inl lo))), (f1, .inl (cJ, 6, .inr (.inl ff))), (s2, .inl (cJ, 6, .inr (.inl sf))), (ms, .inl (cI, 6, .inl mm)), (nx, .inl (cI, 6, .inl nf)), (bs, .inl (cI, 6, .inl bf))]) hD hS hA [0, 1, 2, 3, 4, 5, 6, 7, 8, 9] rfl
                    refine va_calli (va_runV (As := [.int 0]) (rest := []) ⟨hx, hb, hml, hown, hts⟩ (c_X7_goesWell l D cI cJ s.heap.size  h0 ow cl tu lk f1 s2 ms nx bs th 0 0 fd w k fo lo ff sf cs ts mm nf bf 0) (cwV 1 hts gX7_put_X7_goesWell rfl rfl rfl (by decide +kernel) ⟨Nat.le_of_ble_eq_true rfl, Nat.le_of_ble_eq_true rfl⟩) ⟨pv_blind, va_recv hK hPc (ci := 4) (q0 := 0) rfl rfl, fun U hU hW => ⟨rfl, by rw [hU], by rw [hU]; exact hPc, va_K.moved hW.alike hK, hDc.weaken (fun _ _ _ _ => trivial)⟩⟩ rfl rfl hl.1 rfl (lv_room (Nat.le_of_ble_eq_true rfl)) dX7_put_68 ⟨(Nat.le_of_ble_eq_true rfl), (Nat.le_of_ble_eq_true rfl)⟩) hS (fun q _ h => hFc q h) hFc (fun r68 u t9 H1 locs hth hvm hw68 hB hz1 hk1 hS => ?_)
                    try dsimp only at hw68
                    obtain ⟨hP1, hK1, hD1⟩ := hB
                    rw [hth] at hP1
                    obtain ⟨hP, hD⟩ := va_join (wr := []) (w1 := [(h0, .inr (4, [.int 0, .ref ow, .int 0, .int (nI w), .int 0, .ref cl, .ref tu, .int (nI k), .ref lk, .ref f1, .ref s2, .ref ms, .ref nx, .ref bs, .int fd])), (ow, .inl (cJ, 3, .inr (.inl fo))), (cl, .inl (cI, 36, .inl cs)), (tu, .inl (cI, 36, .inl ts)), (lk, .inl (cJ, 3, .inr (.inl lo))), (f1, .inl (cJ, 6, .inr (.inl ff))), (s2, .inl (cJ, 6, .inr (.inl sf))), (ms, .inl (cI, 6, .inl mm)), (nx, .inl (cI, 6, .inl nf)), (bs, .inl (cI, 6, .inl bf))]) hP hD [0, 1, 2, 3, 4, 5, 6, 7, 8, 9] [] rfl rfl (by decide) (by decide) hk1 hFc hP1 hD1
                    generalize H1 = H at hP hS ⊢
                    have hP : va_P D vwCl [(h0, .inr (4, [.int 0, .ref ow, .int 0, .int (nI w), .int 0, .ref cl, .ref tu, .int (nI k), .ref lk, .ref f1, .ref s2, .ref ms, .ref nx, .ref bs, .int fd])), (ow, .inl (cJ, 3, .inr (.inl fo))), (cl, .inl (cI, 36, .inl cs)), (tu, .inl (cI, 36, .inl ts)), (lk, .inl (cJ, 3, .inr (.inl lo))), (f1, .inl (cJ, 6, .inr (.inl ff))), (s2, .inl (cJ, 6, .inr (.inl sf))), (ms, .inl (cI, 6, .inl mm)), (nx, .inl (cI, 6, .inl nf)), (bs, .inl (cI, 6, .inl bf))] H := hP.sub (ws' := [(h0, .inr (4, [.int 0, .ref ow, .int 0, .int (nI w), .int 0, .ref cl, .ref tu, .int (nI k), .ref lk, .ref f1, .ref s2, .ref ms, .ref nx, .ref bs, .int fd])), (ow, .inl (cJ, 3, .inr (.inl fo))), (cl, .inl (cI, 36, .inl cs)), (tu, .inl (cI, 36, .inl ts)), (lk, .inl (cJ, 3, .inr (.inl lo))), (f1, .inl (cJ, 6, .inr (.inl ff))), (s2, .inl (cJ, 6, .inr (.inl sf))), (ms, .inl (cI, 6, .inl mm)), (nx, .inl (cI, 6, .inl nf)), (bs, .inl (cI, 6, .inl bf))]) [0, 1, 2, 3, 4, 5, 6, 7, 8, 9] rfl
                    have hD : va_D A [(h0, .inr (4, [.int 0, .ref ow, .int 0, .int (nI w), .int 0, .ref cl, .ref tu, .int (nI k), .ref lk, .ref f1, .ref s2, .ref ms, .ref nx, .ref bs, .int fd])), (ow, .inl (cJ, 3, .inr (.inl fo))), (cl, .inl (cI, 36, .inl cs)), (tu, .inl (cI, 36, .inl ts)), (lk, .inl (cJ, 3, .inr (.inl lo))), (f1, .inl (cJ, 6, .inr (.inl ff))), (s2, .inl (cJ, 6, .inr (.inl sf))), (ms, .inl (cI, 6, .inl mm)), (nx, .inl (cI, 6, .inl nf)), (bs, .inl (cI, 6, .inl bf))] := hD.sub (ws' := [(h0, .inr (4, [.int 0, .ref ow, .int 0, .int (nI w), .int 0, .ref cl, .ref tu, .int (nI k), .ref lk, .ref f1, .ref s2, .ref ms, .ref nx, .ref bs, .int fd])), (ow, .inl (cJ, 3, .inr (.inl fo))), (cl, .inl (cI, 36, .inl cs)), (tu, .inl (cI, 36, .inl ts)), (lk, .inl (cJ, 3, .inr (.inl lo))), (f1, .inl (cJ, 6, .inr (.inl ff))), (s2, .inl (cJ, 6, .inr (.inl sf))), (ms, .inl (cI, 6, .inl mm)), (nx, .inl (cI, 6, .inl nf)), (bs, .inl (cI, 6, .inl bf))]) [0, 1, 2, 3, 4, 5, 6, 7, 8, 9] (by decide) rfl
                    obtain rfl := hw68.symm
                    refine pk_ti (y := 1) (if_pos (by decide)) ?_
                    refine lv_if_ne (tgt := 76) hx hb dX7_put_71 (by decide) (fun c71 => ?_) (fun c71 => ?_)
                    · refine lv_aload_n hx hb dX7_put_76 rfl (lv_at hl 1 rfl) ?_
                      refine va_get (D := D) (ci := 4) (v := .ref ow) (C := RX7) (T := TX7) (N := 15) hx hb hts hinX7 hown hK hP 0 rfl rfl 1 (by decide) hfl7 (fun _ h9 => h9) rfl dX7_put_77 ?_
                      refine lv_aload_n hx hb dX7_put_80 rfl (lv_at hl 1 rfl) ?_
                      refine va_get (D := D) (ci := 4) (v := .int (nI w)) (C := RX7) (T := TX7) (N := 15) hx hb hts hinX7 hown hK hP 0 rfl rfl 3 (by decide) hfl13 (fun _ h9 => h9) rfl dX7_put_81 ?_
                      refine lv_dup2_11 hx hb dX7_put_84 rfl rfl ?_
                      refine va_lald hx hb hK hP 1 1 rfl rfl (vp_in_nI (n := w) (N := 3) (by omega) (by decide)) dX7_put_85 ?_
                      refine pk_tl (y := (fo w)) (congrArg fo (pk_cl w)) ?_
                      refine lv_lconst (v := 1) hx hb dX7_put_86 (by decide) ?_
                      refine lv_iload_n hx hb dX7_put_87 rfl (lv_at hl 2 rfl) ?_
                      refine lv_lshl (v := jshl 1 (nI j)) hx hb dX7_put_88 rfl ?_
                      refine lv_topl (fun x88 ex88 => ?_)
                      refine lv_lor hx hb dX7_put_89 ?_
                      refine lv_topl (fun x89 ex89 => ?_)
                      refine va_last hx hb hK hP hD hS 1 1 rfl rfl (vp_in_nI (n := w) (N := 3) (by omega) (by decide)) dX7_put_90 (fun H locs hP hD hS => ?_)
                      have hu90 : ((nI w) : Int32).toNatClampNeg = w := pk_cl w
                      rw [hu90] at hP hD
                      have hP : va_P D vwCl [(h0, .inr (4, [.int 0, .ref ow, .int 0, .int (nI w), .int 0, .ref cl, .ref tu, .int (nI k), .ref lk, .ref f1, .ref s2, .ref ms, .ref nx, .ref bs, .int fd])), (ow, .inl (cJ, 3, .inr (.inl (vp_updL fo w x89)))), (cl, .inl (cI, 36, .inl cs)), (tu, .inl (cI, 36, .inl ts)), (lk, .inl (cJ, 3, .inr (.inl lo))), (f1, .inl (cJ, 6, .inr (.inl ff))), (s2, .inl (cJ, 6, .inr (.inl sf))), (ms, .inl (cI, 6, .inl mm)), (nx, .inl (cI, 6, .inl nf)), (bs, .inl (cI, 6, .inl bf))] H := hP
                      have hD : va_D A [(h0, .inr (4, [.int 0, .ref ow, .int 0, .int (nI w), .int 0, .ref cl, .ref tu, .int (nI k), .ref lk, .ref f1, .ref s2, .ref ms, .ref nx, .ref bs, .int fd])), (ow, .inl (cJ, 3, .inr (.inl (vp_updL fo w x89)))), (cl, .inl (cI, 36, .inl cs)), (tu, .inl (cI, 36, .inl ts)), (lk, .inl (cJ, 3, .inr (.inl lo))), (f1, .inl (cJ, 6, .inr (.inl ff))), (s2, .inl (cJ, 6, .inr (.inl sf))), (ms, .inl (cI, 6, .inl mm)), (nx, .inl (cI, 6, .inl nf)), (bs, .inl (cI, 6, .inl bf))] := hD
                      refine lv_aload_n hx hb dX7_put_91 rfl (lv_at hl 1 rfl) ?_
                      refine va_get (D := D) (ci := 4) (v := .ref cl) (C := RX7) (T := TX7) (N := 15) hx hb hts hinX7 hown hK hP 0 rfl rfl 5 (by decide) hfl17 (fun _ h9 => h9) rfl dX7_put_92 ?_
                      refine lv_aload_n hx hb dX7_put_95 rfl (lv_at hl 1 rfl) ?_
                      refine va_get (D := D) (ci := 4) (v := .int (nI k)) (C := RX7) (T := TX7) (N := 15) hx hb hts hinX7 hown hK hP 0 rfl rfl 7 (by decide) hfl83 (fun _ h9 => h9) rfl dX7_put_96 ?_
                      refine lv_iload_n hx hb dX7_put_99 rfl (lv_at hl 2 rfl) ?_
                      refine va_iast hx hb hK hP hD hS 2 0 rfl rfl (vp_in_nI (n := k) (N := 36) (by omega) (by decide)) dX7_put_100 (fun H locs hP hD hS => ?_)
                      have hu100 : ((nI k) : Int32).toNatClampNeg = k := pk_cl k
                      rw [hu100] at hP hD
                      have hP : va_P D vwCl [(h0, .inr (4, [.int 0, .ref ow, .int 0, .int (nI w), .int 0, .ref cl, .ref tu, .int (nI k), .ref lk, .ref f1, .ref s2, .ref ms, .ref nx, .ref bs, .int fd])), (ow, .inl (cJ, 3, .inr (.inl (vp_updL fo w x89)))), (cl, .inl (cI, 36, .inl (upd cs k (nI j)))), (tu, .inl (cI, 36, .inl ts)), (lk, .inl (cJ, 3, .inr (.inl lo))), (f1, .inl (cJ, 6, .inr (.inl ff))), (s2, .inl (cJ, 6, .inr (.inl sf))), (ms, .inl (cI, 6, .inl mm)), (nx, .inl (cI, 6, .inl nf)), (bs, .inl (cI, 6, .inl bf))] H := hP
                      have hD : va_D A [(h0, .inr (4, [.int 0, .ref ow, .int 0, .int (nI w), .int 0, .ref cl, .ref tu, .int (nI k), .ref lk, .ref f1, .ref s2, .ref ms, .ref nx, .ref bs, .int fd])), (ow, .inl (cJ, 3, .inr (.inl (vp_updL fo w x89)))), (cl, .inl (cI, 36, .inl (upd cs k (nI j)))), (tu, .inl (cI, 36, .inl ts)), (lk, .inl (cJ, 3, .inr (.inl lo))), (f1, .inl (cJ, 6, .inr (.inl ff))), (s2, .inl (cJ, 6, .inr (.inl sf))), (ms, .inl (cI, 6, .inl mm)), (nx, .inl (cI, 6, .inl nf)), (bs, .inl (cI, 6, .inl bf))] := hD
                      refine lv_aload_n hx hb dX7_put_101 rfl (lv_at hl 1 rfl) ?_
                      refine va_get (D := D) (ci := 4) (v := .ref tu) (C := RX7) (T := TX7) (N := 15) hx hb hts hinX7 hown hK hP 0 rfl rfl 6 (by decide) hfl21 (fun _ h9 => h9) rfl dX7_put_102 ?_
                      refine lv_aload_n hx hb dX7_put_105 rfl (lv_at hl 1 rfl) ?_
                      refine va_get (D := D) (ci := 4) (v := .int (nI k)) (C := RX7) (T := TX7) (N := 15) hx hb hts hinX7 hown hK hP 0 rfl rfl 7 (by decide) hfl83 (fun _ h9 => h9) rfl dX7_put_106 ?_
                      refine lv_iconst (v := (-1)) hx hb dX7_put_109 (by decide) ?_
                      refine va_iast hx hb hK hP hD hS 3 0 rfl rfl (vp_in_nI (n := k) (N := 36) (by omega) (by decide)) dX7_put_110 (fun H locs hP hD hS => ?_)
                      have hu110 : ((nI k) : Int32).toNatClampNeg = k := pk_cl k
                      rw [hu110] at hP hD
                      have hP : va_P D vwCl [(h0, .inr (4, [.int 0, .ref ow, .int 0, .int (nI w), .int 0, .ref cl, .ref tu, .int (nI k), .ref lk, .ref f1, .ref s2, .ref ms, .ref nx, .ref bs, .int fd])), (ow, .inl (cJ, 3, .inr (.inl (vp_updL fo w x89)))), (cl, .inl (cI, 36, .inl (upd cs k (nI j)))), (tu, .inl (cI, 36, .inl (upd ts k (-1)))), (lk, .inl (cJ, 3, .inr (.inl lo))), (f1, .inl (cJ, 6, .inr (.inl ff))), (s2, .inl (cJ, 6, .inr (.inl sf))), (ms, .inl (cI, 6, .inl mm)), (nx, .inl (cI, 6, .inl nf)), (bs, .inl (cI, 6, .inl bf))] H := hP
                      have hD : va_D A [(h0, .inr (4, [.int 0, .ref ow, .int 0, .int (nI w), .int 0, .ref cl, .ref tu, .int (nI k), .ref lk, .ref f1, .ref s2, .ref ms, .ref nx, .ref bs, .int fd])), (ow, .inl (cJ, 3, .inr (.inl (vp_updL fo w x89)))), (cl, .inl (cI, 36, .inl (upd cs k (nI j)))), (tu, .inl (cI, 36, .inl (upd ts k (-1)))), (lk, .inl (cJ, 3, .inr (.inl lo))), (f1, .inl (cJ, 6, .inr (.inl ff))), (s2, .inl (cJ, 6, .inr (.inl sf))), (ms, .inl (cI, 6, .inl mm)), (nx, .inl (cI, 6, .inl nf)), (bs, .inl (cI, 6, .inl bf))] := hD
                      refine lv_aload_n hx hb dX7_put_111 rfl (lv_at hl 1 rfl) ?_
                      refine lv_dup hx hb dX7_put_112 rfl ?_
                      refine va_get (D := D) (ci := 4) (v := .int (nI k)) (C := RX7) (T := TX7) (N := 15) hx hb hts hinX7 hown hK hP 0 rfl rfl 7 (by decide) hfl83 (fun _ h9 => h9) rfl dX7_put_113 ?_
                      refine lv_iconst (v := 1) hx hb dX7_put_116 (by decide) ?_
                      refine lv_iadd hx hb dX7_put_117 ?_
                      refine pk_ti (y := nI (k + 1)) (nI_add k 1) ?_
                      refine va_put (D := D) (ci := 4) (v := .int (nI (k + 1))) (ty := .int) (C := RX7) (T := TX7) (N := 15) hx hb hts hinX7 tyX7 tyX7_ok nmX7 hown hK hP hD hS 0 rfl rfl 7 (by decide) hfl83 (fun _ h9 => h9) rfl (by decide +kernel) rfl rfl (Nat.le_of_ble_eq_true rfl) dX7_put_118 (fun H locs hP hD hS => ?_)
                      have hP : va_P D vwCl [(h0, .inr (4, [.int 0, .ref ow, .int 0, .int (nI w), .int 0, .ref cl, .ref tu, .int (nI (k + 1)), .ref lk, .ref f1, .ref s2, .ref ms, .ref nx, .ref bs, .int fd])), (ow, .inl (cJ, 3, .inr (.inl (vp_updL fo w x89)))), (cl, .inl (cI, 36, .inl (upd cs k (nI j)))), (tu, .inl (cI, 36, .inl (upd ts k (-1)))), (lk, .inl (cJ, 3, .inr (.inl lo))), (f1, .inl (cJ, 6, .inr (.inl ff))), (s2, .inl (cJ, 6, .inr (.inl sf))), (ms, .inl (cI, 6, .inl mm)), (nx, .inl (cI, 6, .inl nf)), (bs, .inl (cI, 6, .inl bf))] H := hP
                      have hD : va_D A [(h0, .inr (4, [.int 0, .ref ow, .int 0, .int (nI w), .int 0, .ref cl, .ref tu, .int (nI (k + 1)), .ref lk, .ref f1, .ref s2, .ref ms, .ref nx, .ref bs, .int fd])), (ow, .inl (cJ, 3, .inr (.inl (vp_updL fo w x89)))), (cl, .inl (cI, 36, .inl (upd cs k (nI j)))), (tu, .inl (cI, 36, .inl (upd ts k (-1)))), (lk, .inl (cJ, 3, .inr (.inl lo))), (f1, .inl (cJ, 6, .inr (.inl ff))), (s2, .inl (cJ, 6, .inr (.inl sf))), (ms, .inl (cI, 6, .inl mm)), (nx, .inl (cI, 6, .inl nf)), (bs, .inl (cI, 6, .inl bf))] := hD
                      refine lv_aload_n hx hb dX7_put_121 rfl (lv_at hl 1 rfl) ?_
                      refine lv_iconst (v := 1) hx hb dX7_put_122 (by decide) ?_
                      refine va_put (D := D) (ci := 4) (v := .int 1) (ty := .boolean) (C := RX7) (T := TX7) (N := 15) hx hb hts hinX7 tyX7 tyX7_ok nmX7 hown hK hP hD hS 0 rfl rfl 4 (by decide) hfl76 (fun _ h9 => h9) rfl (by decide +kernel) rfl rfl (Nat.le_of_ble_eq_true rfl) dX7_put_123 (fun H locs hP hD hS => ?_)
                      have hP : va_P D vwCl [(h0, .inr (4, [.int 0, .ref ow, .int 0, .int (nI w), .int 1, .ref cl, .ref tu, .int (nI (k + 1)), .ref lk, .ref f1, .ref s2, .ref ms, .ref nx, .ref bs, .int fd])), (ow, .inl (cJ, 3, .inr (.inl (vp_updL fo w x89)))), (cl, .inl (cI, 36, .inl (upd cs k (nI j)))), (tu, .inl (cI, 36, .inl (upd ts k (-1)))), (lk, .inl (cJ, 3, .inr (.inl lo))), (f1, .inl (cJ, 6, .inr (.inl ff))), (s2, .inl (cJ, 6, .inr (.inl sf))), (ms, .inl (cI, 6, .inl mm)), (nx, .inl (cI, 6, .inl nf)), (bs, .inl (cI, 6, .inl bf))] H := hP
                      have hD : va_D A [(h0, .inr (4, [.int 0, .ref ow, .int 0, .int (nI w), .int 1, .ref cl, .ref tu, .int (nI (k + 1)), .ref lk, .ref f1, .ref s2, .ref ms, .ref nx, .ref bs, .int fd])), (ow, .inl (cJ, 3, .inr (.inl (vp_updL fo w x89)))), (cl, .inl (cI, 36, .inl (upd cs k (nI j)))), (tu, .inl (cI, 36, .inl (upd ts k (-1)))), (lk, .inl (cJ, 3, .inr (.inl lo))), (f1, .inl (cJ, 6, .inr (.inl ff))), (s2, .inl (cJ, 6, .inr (.inl sf))), (ms, .inl (cI, 6, .inl mm)), (nx, .inl (cI, 6, .inl nf)), (bs, .inl (cI, 6, .inl bf))] := hD
                      refine lv_aload_n hx hb dX7_put_126 rfl (lv_at hl 1 rfl) ?_
                      refine va_get (D := D) (ci := 4) (v := .ref ow) (C := RX7) (T := TX7) (N := 15) hx hb hts hinX7 hown hK hP 0 rfl rfl 1 (by decide) hfl7 (fun _ h9 => h9) rfl dX7_put_127 ?_
                      refine lv_aload_n hx hb dX7_put_130 rfl (lv_at hl 1 rfl) ?_
                      refine va_get (D := D) (ci := 4) (v := .int (nI w)) (C := RX7) (T := TX7) (N := 15) hx hb hts hinX7 hown hK hP 0 rfl rfl 3 (by decide) hfl13 (fun _ h9 => h9) rfl dX7_put_131 ?_
                      refine va_lald hx hb hK hP 1 1 rfl rfl (vp_in_nI (n := w) (N := 3) (by omega) (by decide)) dX7_put_134 ?_
                      refine pk_tl (y := x89) ((congrArg (vp_updL fo w x89) (pk_cl w)).trans (pk_uLs)) ?_
                      refine vp_callSi (W.runS (As := [.long x89]) (rest := []) ⟨hx, hb, hml, hown, hts⟩ (c_X7_hasLine l x89) (va_cwS 1 hts gX7_put_X7_hasLine rfl rfl rfl (by decide +kernel) ⟨Nat.le_of_ble_eq_true rfl, Nat.le_of_ble_eq_true rfl⟩) ⟨px_blind0, fun U hU hW => ⟨rfl, trivial⟩⟩ rfl rfl hl.1 rfl (lv_room (Nat.le_of_ble_eq_true rfl)) dX7_put_135 ⟨(Nat.le_of_ble_eq_true rfl), (Nat.le_of_ble_eq_true rfl)⟩) (fun r135 er135 => ?_)
                      obtain rfl := er135.symm
                      refine pk_b (P := 0 < msum x89 0 5 32) (fun b135 => ?_) (fun b135 => ?_)
                      · refine lv_if_eq (tgt := 154) hx hb dX7_put_138 (by decide) (fun c138 => ?_) (fun c138 => ?_)
                        · exact absurd c138 (by decide)
                        · refine lv_aload_n hx hb dX7_put_141 rfl (lv_at hl 1 rfl) ?_
                          refine lv_aload_n hx hb dX7_put_142 rfl (lv_at hl 1 rfl) ?_
                          refine va_get (D := D) (ci := 4) (v := .int (nI w)) (C := RX7) (T := TX7) (N := 15) hx hb hts hinX7 hown hK hP 0 rfl rfl 3 (by decide) hfl13 (fun _ h9 => h9) rfl dX7_put_143 ?_
                          refine va_put (D := D) (ci := 4) (v := .int (nI w)) (ty := .int) (C := RX7) (T := TX7) (N := 15) hx hb hts hinX7 tyX7 tyX7_ok nmX7 hown hK hP hD hS 0 rfl rfl 2 (by decide) hfl73 (fun _ h9 => h9) rfl (by decide +kernel) rfl rfl (Nat.le_of_ble_eq_true rfl) dX7_put_146 (fun H locs hP hD hS => ?_)
                          have hP : va_P D vwCl [(h0, .inr (4, [.int 0, .ref ow, .int (nI w), .int (nI w), .int 1, .ref cl, .ref tu, .int (nI (k + 1)), .ref lk, .ref f1, .ref s2, .ref ms, .ref nx, .ref bs, .int fd])), (ow, .inl (cJ, 3, .inr (.inl (vp_updL fo w x89)))), (cl, .inl (cI, 36, .inl (upd cs k (nI j)))), (tu, .inl (cI, 36, .inl (upd ts k (-1)))), (lk, .inl (cJ, 3, .inr (.inl lo))), (f1, .inl (cJ, 6, .inr (.inl ff))), (s2, .inl (cJ, 6, .inr (.inl sf))), (ms, .inl (cI, 6, .inl mm)), (nx, .inl (cI, 6, .inl nf)), (bs, .inl (cI, 6, .inl bf))] H := hP
                          have hD : va_D A [(h0, .inr (4, [.int 0, .ref ow, .int (nI w), .int (nI w), .int 1, .ref cl, .ref tu, .int (nI (k + 1)), .ref lk, .ref f1, .ref s2, .ref ms, .ref nx, .ref bs, .int fd])), (ow, .inl (cJ, 3, .inr (.inl (vp_updL fo w x89)))), (cl, .inl (cI, 36, .inl (upd cs k (nI j)))), (tu, .inl (cI, 36, .inl (upd ts k (-1)))), (lk, .inl (cJ, 3, .inr (.inl lo))), (f1, .inl (cJ, 6, .inr (.inl ff))), (s2, .inl (cJ, 6, .inr (.inl sf))), (ms, .inl (cI, 6, .inl mm)), (nx, .inl (cI, 6, .inl nf)), (bs, .inl (cI, 6, .inl bf))] := hD
                          refine lv_aload_n hx hb dX7_put_149 rfl (lv_at hl 1 rfl) ?_
                          refine lv_iconst (v := 0) hx hb dX7_put_150 (by decide) ?_
                          refine va_put (D := D) (ci := 4) (v := .int 0) (ty := .boolean) (C := RX7) (T := TX7) (N := 15) hx hb hts hinX7 tyX7 tyX7_ok nmX7 hown hK hP hD hS 0 rfl rfl 4 (by decide) hfl76 (fun _ h9 => h9) rfl (by decide +kernel) rfl rfl (Nat.le_of_ble_eq_true rfl) dX7_put_151 (fun H locs hP hD hS => ?_)
                          have hP : va_P D vwCl [(h0, .inr (4, [.int 0, .ref ow, .int (nI w), .int (nI w), .int 0, .ref cl, .ref tu, .int (nI (k + 1)), .ref lk, .ref f1, .ref s2, .ref ms, .ref nx, .ref bs, .int fd])), (ow, .inl (cJ, 3, .inr (.inl (vp_updL fo w x89)))), (cl, .inl (cI, 36, .inl (upd cs k (nI j)))), (tu, .inl (cI, 36, .inl (upd ts k (-1)))), (lk, .inl (cJ, 3, .inr (.inl lo))), (f1, .inl (cJ, 6, .inr (.inl ff))), (s2, .inl (cJ, 6, .inr (.inl sf))), (ms, .inl (cI, 6, .inl mm)), (nx, .inl (cI, 6, .inl nf)), (bs, .inl (cI, 6, .inl bf))] H := hP
                          have hD : va_D A [(h0, .inr (4, [.int 0, .ref ow, .int (nI w), .int (nI w), .int 0, .ref cl, .ref tu, .int (nI (k + 1)), .ref lk, .ref f1, .ref s2, .ref ms, .ref nx, .ref bs, .int fd])), (ow, .inl (cJ, 3, .inr (.inl (vp_updL fo w x89)))), (cl, .inl (cI, 36, .inl (upd cs k (nI j)))), (tu, .inl (cI, 36, .inl (upd ts k (-1)))), (lk, .inl (cJ, 3, .inr (.inl lo))), (f1, .inl (cJ, 6, .inr (.inl ff))), (s2, .inl (cJ, 6, .inr (.inl sf))), (ms, .inl (cI, 6, .inl mm)), (nx, .inl (cI, 6, .inl nf)), (bs, .inl (cI, 6, .inl bf))] := hD
                          refine lv_aload_n hx hb dX7_put_154 rfl (lv_at hl 1 rfl) ?_
                          refine va_get (D := D) (ci := 4) (v := .int (nI w)) (C := RX7) (T := TX7) (N := 15) hx hb hts hinX7 hown hK hP 0 rfl rfl 2 (by decide) hfl73 (fun _ h9 => h9) rfl dX7_put_155 ?_
                          obtain rfl := ex33.symm; obtain rfl := ex88.symm; obtain rfl := ex89.symm
                          refine W.iret (v := (nI w)) hx hb hr (fun tt ht hW => ⟨⟨(nI w), (0, (nI w)), rfl, ?_, by rw [ht]; exact hP, va_K.moved hW.alike hK, hD⟩, hS.F ht⟩) hS.2.2 dX7_put_158
                          skip; first | exact ⟨rfl, (if_pos b135).symm, (if_pos b135).symm⟩ | exact ⟨rfl, (if_neg b135).symm, (if_neg b135).symm⟩
                      · refine lv_if_eq (tgt := 154) hx hb dX7_put_138 (by decide) (fun c138 => ?_) (fun c138 => ?_)
                        · refine lv_aload_n hx hb dX7_put_154 rfl (lv_at hl 1 rfl) ?_
                          refine va_get (D := D) (ci := 4) (v := .int 0) (C := RX7) (T := TX7) (N := 15) hx hb hts hinX7 hown hK hP 0 rfl rfl 2 (by decide) hfl73 (fun _ h9 => h9) rfl dX7_put_155 ?_
                          obtain rfl := ex33.symm; obtain rfl := ex88.symm; obtain rfl := ex89.symm
                          refine W.iret (v := 0) hx hb hr (fun tt ht hW => ⟨⟨0, (1, 0), rfl, ?_, by rw [ht]; exact hP, va_K.moved hW.alike hK, hD⟩, hS.F ht⟩) hS.2.2 dX7_put_158
                          skip; first | exact ⟨rfl, (if_pos b135).symm, (if_pos b135).symm⟩ | exact ⟨rfl, (if_neg b135).symm, (if_neg b135).symm⟩
                        · exact absurd c138 (by decide)
                    · exact absurd c71 (by decide)
                  · exact absurd c60 (by decide)
                · exact absurd c52 (by decide)
              · exact absurd (cell_ok hj) b49
            · exact absurd c38 (by decide)
  · exact absurd (cell_ok hj) b1

set_option maxHeartbeats 400000 in
set_option maxRecDepth 100000 in
theorem c_X7_turn_bad1 (l : Launch) (D : va_G) (cI cJ : ClassId) (sz : Nat) (h0 ow cl tu lk f1 s2 ms nx bs : Nat) (th re mt fd : Int32) (w k : Nat) (fo lo ff sf : Nat → Int64) (cs ts mm nf bf : Nat → Int32) (v v2 : Int32) (hc : ¬ (0 ≤ v ∧ v ≤ 3)) : Met l yX7_turn wsX7_turn ({ frames := 4, cells := 0, slots := 0, locals := 97 } : Room) (va_Pc [.ref h0, .int v, .int v2] (pv_C D cI cJ [(h0, .inr (4, [.int th, .ref ow, .int re, .int (nI w), .int mt, .ref cl, .ref tu, .int (nI k), .ref lk, .ref f1, .ref s2, .ref ms, .ref nx, .ref bs, .int fd])), (ow, .inl (cJ, 3, .inr (.inl fo))), (cl, .inl (cI, 36, .inl cs)), (tu, .inl (cI, 36, .inl ts)), (lk, .inl (cJ, 3, .inr (.inl lo))), (f1, .inl (cJ, 6, .inr (.inl ff))), (s2, .inl (cJ, 6, .inr (.inl sf))), (ms, .inl (cI, 6, .inl mm)), (nx, .inl (cI, 6, .inl nf)), (bs, .inl (cI, 6, .inl bf))] sz)) (va_Qi (fun (r : Int32) (u : Unit) => r = 0) (fun (u : Unit) => pv_B D cI cJ (va_A [(h0, .inr (4, [.int th, .ref ow, .int re, .int (nI w), .int mt, .ref cl, .ref tu, .int (nI k), .ref lk, .ref f1, .ref s2, .ref ms, .ref nx, .ref bs, .int fd])), (ow, .inl (cJ, 3, .inr (.inl fo))), (cl, .inl (cI, 36, .inl cs)), (tu, .inl (cI, 36, .inl ts)), (lk, .inl (cJ, 3, .inr (.inl lo))), (f1, .inl (cJ, 6, .inr (.inl ff))), (s2, .inl (cJ, 6, .inr (.inl sf))), (ms, .inl (cI, 6, .inl mm)), (nx, .inl (cI, 6, .inl nf)), (bs, .inl (cI, 6, .inl bf))] sz) [(h0, .inr (4, [.int 1, .ref ow, .int re, .int (nI w), .int mt, .ref cl, .ref tu, .int (nI k), .ref lk, .ref f1, .ref s2, .ref ms, .ref nx, .ref bs, .int fd])), (ow, .inl (cJ, 3, .inr (.inl fo))), (cl, .inl (cI, 36, .inl cs)), (tu, .inl (cI, 36, .inl ts)), (lk, .inl (cJ, 3, .inr (.inl lo))), (f1, .inl (cJ, 6, .inr (.inl ff))), (s2, .inl (cJ, 6, .inr (.inl sf))), (ms, .inl (cI, 6, .inl mm)), (nx, .inl (cI, 6, .inl nf)), (bs, .inl (cI, 6, .inl bf))]) (va_A [(h0, .inr (4, [.int th, .ref ow, .int re, .int (nI w), .int mt, .ref cl, .ref tu, .int (nI k), .ref lk, .ref f1, .ref s2, .ref ms, .ref nx, .ref bs, .int fd])), (ow, .inl (cJ, 3, .inr (.inl fo))), (cl, .inl (cI, 36, .inl cs)), (tu, .inl (cI, 36, .inl ts)), (lk, .inl (cJ, 3, .inr (.inl lo))), (f1, .inl (cJ, 6, .inr (.inl ff))), (s2, .inl (cJ, 6, .inr (.inl sf))), (ms, .inl (cI, 6, .inl mm)), (nx, .inl (cI, 6, .inl nf)), (bs, .inl (cI, 6, .inl bf))] sz)) 0 0 (va_A [(h0, .inr (4, [.int th, .ref ow, .int re, .int (nI w), .int mt, .ref cl, .ref tu, .int (nI k), .ref lk, .ref f1, .ref s2, .ref ms, .ref nx, .ref bs, .int fd])), (ow, .inl (cJ, 3, .inr (.inl fo))), (cl, .inl (cI, 36, .inl cs)), (tu, .inl (cI, 36, .inl ts)), (lk, .inl (cJ, 3, .inr (.inl lo))), (f1, .inl (cJ, 6, .inr (.inl ff))), (s2, .inl (cJ, 6, .inr (.inl sf))), (ms, .inl (cI, 6, .inl mm)), (nx, .inl (cI, 6, .inl nf)), (bs, .inl (cI, 6, .inl bf))] sz) := by
  refine Met.ofW (cc := cX7_turn) (maxL := 4) (ret := (some .int)) (by decide) rfl ?_
  intro p e s m args below meth c s₁ B hml hv
  obtain ⟨rfl, rfl, hP, hK, hD0⟩ := hv
  have hx := B.exec
  have hb := B.bytes
  have hr := B.returns
  have hts := atoms_spec (ws := wsX7_turn) B.pre
  have hown : s.vm.findClass RX7 = some m.cls := findClass_of_methodNamed B.named
  have hlocks := B.notSynchronized
  have hD := hD0.self (sz := s.heap.size)
  generalize hAe : va_A [(h0, .inr (4, [.int th, .ref ow, .int re, .int (nI w), .int mt, .ref cl, .ref tu, .int (nI k), .ref lk, .ref f1, .ref s2, .ref ms, .ref nx, .ref bs, .int fd])), (ow, .inl (cJ, 3, .inr (.inl fo))), (cl, .inl (cI, 36, .inl cs)), (tu, .inl (cI, 36, .inl ts)), (lk, .inl (cJ, 3, .inr (.inl lo))), (f1, .inl (cJ, 6, .inr (.inl ff))), (s2, .inl (cJ, 6, .inr (.inl sf))), (ms, .inl (cI, 6, .inl mm)), (nx, .inl (cI, 6, .inl nf)), (bs, .inl (cI, 6, .inl bf))] s.heap.size = A at hD ⊢
  have hA : ∀ q : Nat, s.heap.size ≤ q → A q := fun q h => by rw [← hAe]; exact Or.inr h
  have hS : va_S A s.heap s.heap [] := va_S.rf
  have hl := lv_entry ([.ref h0, .int v, .int v2]) (n := 4) (Nat.le_of_ble_eq_true rfl)
  rw [lg_entry_eq]
  generalize (lg_sl ([.ref h0, .int v, .int v2]) ++ List.replicate (4 - (lg_sl ([.ref h0, .int v, .int v2])).length) Slot.unset).toArray = ls at hl ⊢
  have hl : lv_has ls 4 [(0, .ref h0), (1, .int v), (2, .int v2)] := hl
  refine lv_iload_n hx hb dX7_turn_0 rfl (lv_at hl 1 rfl) ?_
  refine lv_iconst (v := 0) hx hb dX7_turn_1 (by decide) ?_
  refine lv_iconst (v := 3) hx hb dX7_turn_2 (by decide) ?_
  refine vp_callSi (W.runS (As := [.int v, .int 0, .int 3]) (rest := []) ⟨hx, hb, hml, hown, hts⟩ (c_X7_in l v 0 3) (va_cwS 3 hts gX7_turn_X7_in rfl rfl rfl (by decide +kernel) ⟨Nat.le_of_ble_eq_true rfl, Nat.le_of_ble_eq_true rfl⟩) ⟨px_blind0, fun U hU hW => ⟨rfl, trivial⟩⟩ rfl rfl hl.1 rfl (lv_room (Nat.le_of_ble_eq_true rfl)) dX7_turn_3 ⟨(Nat.le_of_ble_eq_true rfl), (Nat.le_of_ble_eq_true rfl)⟩) (fun r3 er3 => ?_)
  obtain rfl := er3.symm
  refine pk_b (P := 0 ≤ v ∧ v ≤ 3) (fun b3 => ?_) (fun b3 => ?_)
  · exact absurd b3 hc
  · refine lv_istore_n (lv' := [(3, .int 0), (0, .ref h0), (1, .int v), (2, .int v2)]) hx hb dX7_turn_6 rfl hl (by decide) rfl (fun ls hl => ?_)
    refine lv_aload_n hx hb dX7_turn_7 rfl (lv_at hl 1 rfl) ?_
    refine lv_iload_n hx hb dX7_turn_8 rfl (lv_at hl 0 rfl) ?_
    refine lv_if_ne (tgt := 16) hx hb dX7_turn_9 (by decide) (fun c9 => ?_) (fun c9 => ?_)
    · exact absurd c9 (by decide)
    · refine lv_iconst (v := 1) hx hb dX7_turn_12 (by decide) ?_
      refine lv_goto (tgt := 48) hx hb dX7_turn_13 (by decide) ?_
      have hPc := hP.sub (ws' := [(h0, .inr (4, [.int th, .ref ow, .int re, .int (nI w), .int mt, .ref cl, .ref tu, .int (nI k), .ref lk, .ref f1, .ref s2, .ref ms, .ref nx, .ref bs, .int fd])), (ow, .inl (cJ, 3, .inr (.inl fo))), (cl, .inl (cI, 36, .inl cs)), (tu, .inl (cI, 36, .inl ts)), (lk, .inl (cJ, 3, .inr (.inl lo))), (f1, .inl (cJ, 6, .inr (.inl ff))), (s2, .inl (cJ, 6, .inr (.inl sf))), (ms, .inl (cI, 6, .inl mm)), (nx, .inl (cI, 6, .inl nf)), (bs, .inl (cI, 6, .inl bf))]) [0, 1, 2, 3, 4, 5, 6, 7, 8, 9] rfl
      have hDc := hD.sub (ws' := [(h0, .inr (4, [.int th, .ref ow, .int re, .int (nI w), .int mt, .ref cl, .ref tu, .int (nI k), .ref lk, .ref f1, .ref s2, .ref ms, .ref nx, .ref bs, .int fd])), (ow, .inl (cJ, 3, .inr (.inl fo))), (cl, .inl (cI, 36, .inl cs)), (tu, .inl (cI, 36, .inl ts)), (lk, .inl (cJ, 3, .inr (.inl lo))), (f1, .inl (cJ, 6, .inr (.inl ff))), (s2, .inl (cJ, 6, .inr (.inl sf))), (ms, .inl (cI, 6, .inl mm)), (nx, .inl (cI, 6, .inl nf)), (bs, .inl (cI, 6, .inl bf))]) [0, 1, 2, 3, 4, 5, 6, 7, 8, 9] (by decide) rfl
      have hFc := va_free (wc := [(h0, .inr (4, [.int th, .ref ow, .int re, .int (nI w), .int mt, .ref cl, .ref tu, .int (nI k), .ref lk, .ref f1, .ref s2, .ref ms, .ref nx, .ref bs, .int fd])), (ow, .inl (cJ, 3, .inr (.inl fo))), (cl, .inl (cI, 36, .inl cs)), (tu, .inl (cI, 36, .inl ts)), (lk, .inl (cJ, 3, .inr (.inl lo))), (f1, .inl (cJ, 6, .inr (.inl ff))), (s2, .inl (cJ, 6, .inr (.inl sf))), (ms, .inl (cI, 6, .inl mm)), (nx, .inl (cI, 6, .inl nf)), (bs, .inl (cI, 6, .inl bf))]) hD hS hA [0, 1, 2, 3, 4, 5, 6, 7, 8, 9] rfl
      refine va_calli (va_runV (As := [.int 1]) (rest := []) ⟨hx, hb, hml, hown, hts⟩ (c_X7_goesWell l D cI cJ s.heap.size  h0 ow cl tu lk f1 s2 ms nx bs th re mt fd w k fo lo ff sf cs ts mm nf bf 1) (cwV 1 hts gX7_turn_X7_goesWell rfl rfl rfl (by decide +kernel) ⟨Nat.le_of_ble_eq_true rfl, Nat.le_of_ble_eq_true rfl⟩) ⟨pv_blind, va_recv hK hPc (ci := 4) (q0 := 0) rfl rfl, fun U hU hW => ⟨rfl, by rw [hU], by rw [hU]; exact hPc, va_K.moved hW.alike hK, hDc.weaken (fun _ _ _ _ => trivial)⟩⟩ rfl rfl hl.1 rfl (lv_room (Nat.le_of_ble_eq_true rfl)) dX7_turn_48 ⟨(Nat.le_of_ble_eq_true rfl), (Nat.le_of_ble_eq_true rfl)⟩) hS (fun q _ h => hFc q h) hFc (fun r48 u t9 H1 locs hth hvm hw48 hB hz1 hk1 hS => ?_)
      try dsimp only at hw48
      obtain ⟨hP1, hK1, hD1⟩ := hB
      rw [hth] at hP1
      obtain ⟨hP, hD⟩ := va_join (wr := []) (w1 := [(h0, .inr (4, [.int 1, .ref ow, .int re, .int (nI w), .int mt, .ref cl, .ref tu, .int (nI k), .ref lk, .ref f1, .ref s2, .ref ms, .ref nx, .ref bs, .int fd])), (ow, .inl (cJ, 3, .inr (.inl fo))), (cl, .inl (cI, 36, .inl cs)), (tu, .inl (cI, 36, .inl ts)), (lk, .inl (cJ, 3, .inr (.inl lo))), (f1, .inl (cJ, 6, .inr (.inl ff))), (s2, .inl (cJ, 6, .inr (.inl sf))), (ms, .inl (cI, 6, .inl mm)), (nx, .inl (cI, 6, .inl nf)), (bs, .inl (cI, 6, .inl bf))]) hP hD [0, 1, 2, 3, 4, 5, 6, 7, 8, 9] [] rfl rfl (by decide) (by decide) hk1 hFc hP1 hD1
      generalize H1 = H at hP hS ⊢
      have hP : va_P D vwCl [(h0, .inr (4, [.int 1, .ref ow, .int re, .int (nI w), .int mt, .ref cl, .ref tu, .int (nI k), .ref lk, .ref f1, .ref s2, .ref ms, .ref nx, .ref bs, .int fd])), (ow, .inl (cJ, 3, .inr (.inl fo))), (cl, .inl (cI, 36, .inl cs)), (tu, .inl (cI, 36, .inl ts)), (lk, .inl (cJ, 3, .inr (.inl lo))), (f1, .inl (cJ, 6, .inr (.inl ff))), (s2, .inl (cJ, 6, .inr (.inl sf))), (ms, .inl (cI, 6, .inl mm)), (nx, .inl (cI, 6, .inl nf)), (bs, .inl (cI, 6, .inl bf))] H := hP.sub (ws' := [(h0, .inr (4, [.int 1, .ref ow, .int re, .int (nI w), .int mt, .ref cl, .ref tu, .int (nI k), .ref lk, .ref f1, .ref s2, .ref ms, .ref nx, .ref bs, .int fd])), (ow, .inl (cJ, 3, .inr (.inl fo))), (cl, .inl (cI, 36, .inl cs)), (tu, .inl (cI, 36, .inl ts)), (lk, .inl (cJ, 3, .inr (.inl lo))), (f1, .inl (cJ, 6, .inr (.inl ff))), (s2, .inl (cJ, 6, .inr (.inl sf))), (ms, .inl (cI, 6, .inl mm)), (nx, .inl (cI, 6, .inl nf)), (bs, .inl (cI, 6, .inl bf))]) [0, 1, 2, 3, 4, 5, 6, 7, 8, 9] rfl
      have hD : va_D A [(h0, .inr (4, [.int 1, .ref ow, .int re, .int (nI w), .int mt, .ref cl, .ref tu, .int (nI k), .ref lk, .ref f1, .ref s2, .ref ms, .ref nx, .ref bs, .int fd])), (ow, .inl (cJ, 3, .inr (.inl fo))), (cl, .inl (cI, 36, .inl cs)), (tu, .inl (cI, 36, .inl ts)), (lk, .inl (cJ, 3, .inr (.inl lo))), (f1, .inl (cJ, 6, .inr (.inl ff))), (s2, .inl (cJ, 6, .inr (.inl sf))), (ms, .inl (cI, 6, .inl mm)), (nx, .inl (cI, 6, .inl nf)), (bs, .inl (cI, 6, .inl bf))] := hD.sub (ws' := [(h0, .inr (4, [.int 1, .ref ow, .int re, .int (nI w), .int mt, .ref cl, .ref tu, .int (nI k), .ref lk, .ref f1, .ref s2, .ref ms, .ref nx, .ref bs, .int fd])), (ow, .inl (cJ, 3, .inr (.inl fo))), (cl, .inl (cI, 36, .inl cs)), (tu, .inl (cI, 36, .inl ts)), (lk, .inl (cJ, 3, .inr (.inl lo))), (f1, .inl (cJ, 6, .inr (.inl ff))), (s2, .inl (cJ, 6, .inr (.inl sf))), (ms, .inl (cI, 6, .inl mm)), (nx, .inl (cI, 6, .inl nf)), (bs, .inl (cI, 6, .inl bf))]) [0, 1, 2, 3, 4, 5, 6, 7, 8, 9] (by decide) rfl
      obtain rfl := hw48.symm
      refine pk_ti (y := 0) (if_neg (by decide)) ?_
      refine lv_if_ne (tgt := 56) hx hb dX7_turn_51 (by decide) (fun c51 => ?_) (fun c51 => ?_)
      · exact absurd c51 (by decide)
      · refine lv_iconst (v := 0) hx hb dX7_turn_54 (by decide) ?_
        refine W.iret (v := 0) hx hb hr (fun tt ht hW => ⟨⟨0, (), rfl, ?_, by rw [ht]; exact hP, va_K.moved hW.alike hK, hD⟩, hS.F ht⟩) hS.2.2 dX7_turn_55
        exact rfl

set_option maxHeartbeats 400000 in
set_option maxRecDepth 100000 in
theorem c_X7_turn_bad2 (l : Launch) (D : va_G) (cI cJ : ClassId) (sz : Nat) (h0 ow cl tu lk f1 s2 ms nx bs : Nat) (th re mt fd : Int32) (w k : Nat) (fo lo ff sf : Nat → Int64) (cs ts mm nf bf : Nat → Int32) (q : Nat) (v2 : Int32) (hq : q < 4) (hc : ¬ (0 ≤ v2 ∧ v2 ≤ 1)) : Met l yX7_turn wsX7_turn ({ frames := 4, cells := 0, slots := 0, locals := 97 } : Room) (va_Pc [.ref h0, .int (nI q), .int v2] (pv_C D cI cJ [(h0, .inr (4, [.int th, .ref ow, .int re, .int (nI w), .int mt, .ref cl, .ref tu, .int (nI k), .ref lk, .ref f1, .ref s2, .ref ms, .ref nx, .ref bs, .int fd])), (ow, .inl (cJ, 3, .inr (.inl fo))), (cl, .inl (cI, 36, .inl cs)), (tu, .inl (cI, 36, .inl ts)), (lk, .inl (cJ, 3, .inr (.inl lo))), (f1, .inl (cJ, 6, .inr (.inl ff))), (s2, .inl (cJ, 6, .inr (.inl sf))), (ms, .inl (cI, 6, .inl mm)), (nx, .inl (cI, 6, .inl nf)), (bs, .inl (cI, 6, .inl bf))] sz)) (va_Qi (fun (r : Int32) (u : Unit) => r = 0) (fun (u : Unit) => pv_B D cI cJ (va_A [(h0, .inr (4, [.int th, .ref ow, .int re, .int (nI w), .int mt, .ref cl, .ref tu, .int (nI k), .ref lk, .ref f1, .ref s2, .ref ms, .ref nx, .ref bs, .int fd])), (ow, .inl (cJ, 3, .inr (.inl fo))), (cl, .inl (cI, 36, .inl cs)), (tu, .inl (cI, 36, .inl ts)), (lk, .inl (cJ, 3, .inr (.inl lo))), (f1, .inl (cJ, 6, .inr (.inl ff))), (s2, .inl (cJ, 6, .inr (.inl sf))), (ms, .inl (cI, 6, .inl mm)), (nx, .inl (cI, 6, .inl nf)), (bs, .inl (cI, 6, .inl bf))] sz) [(h0, .inr (4, [.int 2, .ref ow, .int re, .int (nI w), .int mt, .ref cl, .ref tu, .int (nI k), .ref lk, .ref f1, .ref s2, .ref ms, .ref nx, .ref bs, .int fd])), (ow, .inl (cJ, 3, .inr (.inl fo))), (cl, .inl (cI, 36, .inl cs)), (tu, .inl (cI, 36, .inl ts)), (lk, .inl (cJ, 3, .inr (.inl lo))), (f1, .inl (cJ, 6, .inr (.inl ff))), (s2, .inl (cJ, 6, .inr (.inl sf))), (ms, .inl (cI, 6, .inl mm)), (nx, .inl (cI, 6, .inl nf)), (bs, .inl (cI, 6, .inl bf))]) (va_A [(h0, .inr (4, [.int th, .ref ow, .int re, .int (nI w), .int mt, .ref cl, .ref tu, .int (nI k), .ref lk, .ref f1, .ref s2, .ref ms, .ref nx, .ref bs, .int fd])), (ow, .inl (cJ, 3, .inr (.inl fo))), (cl, .inl (cI, 36, .inl cs)), (tu, .inl (cI, 36, .inl ts)), (lk, .inl (cJ, 3, .inr (.inl lo))), (f1, .inl (cJ, 6, .inr (.inl ff))), (s2, .inl (cJ, 6, .inr (.inl sf))), (ms, .inl (cI, 6, .inl mm)), (nx, .inl (cI, 6, .inl nf)), (bs, .inl (cI, 6, .inl bf))] sz)) 0 0 (va_A [(h0, .inr (4, [.int th, .ref ow, .int re, .int (nI w), .int mt, .ref cl, .ref tu, .int (nI k), .ref lk, .ref f1, .ref s2, .ref ms, .ref nx, .ref bs, .int fd])), (ow, .inl (cJ, 3, .inr (.inl fo))), (cl, .inl (cI, 36, .inl cs)), (tu, .inl (cI, 36, .inl ts)), (lk, .inl (cJ, 3, .inr (.inl lo))), (f1, .inl (cJ, 6, .inr (.inl ff))), (s2, .inl (cJ, 6, .inr (.inl sf))), (ms, .inl (cI, 6, .inl mm)), (nx, .inl (cI, 6, .inl nf)), (bs, .inl (cI, 6, .inl bf))] sz) := by
  refine Met.ofW (cc := cX7_turn) (maxL := 4) (ret := (some .int)) (by decide) rfl ?_
  intro p e s m args below meth c s₁ B hml hv
  obtain ⟨rfl, rfl, hP, hK, hD0⟩ := hv
  have hx := B.exec
  have hb := B.bytes
  have hr := B.returns
  have hts := atoms_spec (ws := wsX7_turn) B.pre
  have hown : s.vm.findClass RX7 = some m.cls := findClass_of_methodNamed B.named
  have hlocks := B.notSynchronized
  have hD := hD0.self (sz := s.heap.size)
  generalize hAe : va_A [(h0, .inr (4, [.int th, .ref ow, .int re, .int (nI w), .int mt, .ref cl, .ref tu, .int (nI k), .ref lk, .ref f1, .ref s2, .ref ms, .ref nx, .ref bs, .int fd])), (ow, .inl (cJ, 3, .inr (.inl fo))), (cl, .inl (cI, 36, .inl cs)), (tu, .inl (cI, 36, .inl ts)), (lk, .inl (cJ, 3, .inr (.inl lo))), (f1, .inl (cJ, 6, .inr (.inl ff))), (s2, .inl (cJ, 6, .inr (.inl sf))), (ms, .inl (cI, 6, .inl mm)), (nx, .inl (cI, 6, .inl nf)), (bs, .inl (cI, 6, .inl bf))] s.heap.size = A at hD ⊢
  have hA : ∀ q : Nat, s.heap.size ≤ q → A q := fun q h => by rw [← hAe]; exact Or.inr h
  have hS : va_S A s.heap s.heap [] := va_S.rf
  have hl := lv_entry ([.ref h0, .int (nI q), .int v2]) (n := 4) (Nat.le_of_ble_eq_true rfl)
  rw [lg_entry_eq]
  generalize (lg_sl ([.ref h0, .int (nI q), .int v2]) ++ List.replicate (4 - (lg_sl ([.ref h0, .int (nI q), .int v2])).length) Slot.unset).toArray = ls at hl ⊢
  have hl : lv_has ls 4 [(0, .ref h0), (1, .int (nI q)), (2, .int v2)] := hl
  refine lv_iload_n hx hb dX7_turn_0 rfl (lv_at hl 1 rfl) ?_
  refine lv_iconst (v := 0) hx hb dX7_turn_1 (by decide) ?_
  refine lv_iconst (v := 3) hx hb dX7_turn_2 (by decide) ?_
  refine vp_callSi (W.runS (As := [.int (nI q), .int 0, .int 3]) (rest := []) ⟨hx, hb, hml, hown, hts⟩ (c_X7_in l (nI q) 0 3) (va_cwS 3 hts gX7_turn_X7_in rfl rfl rfl (by decide +kernel) ⟨Nat.le_of_ble_eq_true rfl, Nat.le_of_ble_eq_true rfl⟩) ⟨px_blind0, fun U hU hW => ⟨rfl, trivial⟩⟩ rfl rfl hl.1 rfl (lv_room (Nat.le_of_ble_eq_true rfl)) dX7_turn_3 ⟨(Nat.le_of_ble_eq_true rfl), (Nat.le_of_ble_eq_true rfl)⟩) (fun r3 er3 => ?_)
  obtain rfl := er3.symm
  refine pk_b (P := 0 ≤ (nI q) ∧ (nI q) ≤ 3) (fun b3 => ?_) (fun b3 => ?_)
  · refine lv_istore_n (lv' := [(3, .int 1), (0, .ref h0), (1, .int (nI q)), (2, .int v2)]) hx hb dX7_turn_6 rfl hl (by decide) rfl (fun ls hl => ?_)
    refine lv_aload_n hx hb dX7_turn_7 rfl (lv_at hl 1 rfl) ?_
    refine lv_iload_n hx hb dX7_turn_8 rfl (lv_at hl 0 rfl) ?_
    refine lv_if_ne (tgt := 16) hx hb dX7_turn_9 (by decide) (fun c9 => ?_) (fun c9 => ?_)
    · refine lv_iload_n hx hb dX7_turn_16 rfl (lv_at hl 3 rfl) ?_
      refine lv_iconst (v := 0) hx hb dX7_turn_17 (by decide) ?_
      refine lv_iconst (v := 1) hx hb dX7_turn_18 (by decide) ?_
      refine vp_callSi (W.runS (As := [.int v2, .int 0, .int 1]) (rest := [.ref h0]) ⟨hx, hb, hml, hown, hts⟩ (c_X7_in l v2 0 1) (va_cwS 3 hts gX7_turn_X7_in rfl rfl rfl (by decide +kernel) ⟨Nat.le_of_ble_eq_true rfl, Nat.le_of_ble_eq_true rfl⟩) ⟨px_blind0, fun U hU hW => ⟨rfl, trivial⟩⟩ rfl rfl hl.1 rfl (lv_room (Nat.le_of_ble_eq_true rfl)) dX7_turn_19 ⟨(Nat.le_of_ble_eq_true rfl), (Nat.le_of_ble_eq_true rfl)⟩) (fun r19 er19 => ?_)
      obtain rfl := er19.symm
      refine pk_b (P := 0 ≤ v2 ∧ v2 ≤ 1) (fun b19 => ?_) (fun b19 => ?_)
      · exact absurd b19 hc
      · refine lv_if_ne (tgt := 29) hx hb dX7_turn_22 (by decide) (fun c22 => ?_) (fun c22 => ?_)
        · exact absurd c22 (by decide)
        · refine lv_iconst (v := 2) hx hb dX7_turn_25 (by decide) ?_
          refine lv_goto (tgt := 48) hx hb dX7_turn_26 (by decide) ?_
          have hPc := hP.sub (ws' := [(h0, .inr (4, [.int th, .ref ow, .int re, .int (nI w), .int mt, .ref cl, .ref tu, .int (nI k), .ref lk, .ref f1, .ref s2, .ref ms, .ref nx, .ref bs, .int fd])), (ow, .inl (cJ, 3, .inr (.inl fo))), (cl, .inl (cI, 36, .inl cs)), (tu, .inl (cI, 36, .inl ts)), (lk, .inl (cJ, 3, .inr (.inl lo))), (f1, .inl (cJ, 6, .inr (.inl ff))), (s2, .inl (cJ, 6, .inr (.inl sf))), (ms, .inl (cI, 6, .inl mm)), (nx, .inl (cI, 6, .inl nf)), (bs, .inl (cI, 6, .inl bf))]) [0, 1, 2, 3, 4, 5, 6, 7, 8, 9] rfl
          have hDc := hD.sub (ws' := [(h0, .inr (4, [.int th, .ref ow, .int re, .int (nI w), .int mt, .ref cl, .ref tu, .int (nI k), .ref lk, .ref f1, .ref s2, .ref ms, .ref nx, .ref bs, .int fd])), (ow, .inl (cJ, 3, .inr (.inl fo))), (cl, .inl (cI, 36, .inl cs)), (tu, .inl (cI, 36, .inl ts)), (lk, .inl (cJ, 3, .inr (.inl lo))), (f1, .inl (cJ, 6, .inr (.inl ff))), (s2, .inl (cJ, 6, .inr (.inl sf))), (ms, .inl (cI, 6, .inl mm)), (nx, .inl (cI, 6, .inl nf)), (bs, .inl (cI, 6, .inl bf))]) [0, 1, 2, 3, 4, 5, 6, 7, 8, 9] (by decide) rfl
          have hFc := va_free (wc := [(h0, .inr (4, [.int th, .ref ow, .int re, .int (nI w), .int mt, .ref cl, .ref tu, .int (nI k), .ref lk, .ref f1, .ref s2, .ref ms, .ref nx, .ref bs, .int fd])), (ow, .inl (cJ, 3, .inr (.inl fo))), (cl, .inl (cI, 36, .inl cs)), (tu, .inl (cI, 36, .inl ts)), (lk, .inl (cJ, 3, .inr (.inl lo))), (f1, .inl (cJ, 6, .inr (.inl ff))), (s2, .inl (cJ, 6, .inr (.inl sf))), (ms, .inl (cI, 6, .inl mm)), (nx, .inl (cI, 6, .inl nf)), (bs, .inl (cI, 6, .inl bf))]) hD hS hA [0, 1, 2, 3, 4, 5, 6, 7, 8, 9] rfl
          refine va_calli (va_runV (As := [.int 2]) (rest := []) ⟨hx, hb, hml, hown, hts⟩ (c_X7_goesWell l D cI cJ s.heap.size  h0 ow cl tu lk f1 s2 ms nx bs th re mt fd w k fo lo ff sf cs ts mm nf bf 2) (cwV 1 hts gX7_turn_X7_goesWell rfl rfl rfl (by decide +kernel) ⟨Nat.le_of_ble_eq_true rfl, Nat.le_of_ble_eq_true rfl⟩) ⟨pv_blind, va_recv hK hPc (ci := 4) (q0 := 0) rfl rfl, fun U hU hW => ⟨rfl, by rw [hU], by rw [hU]; exact hPc, va_K.moved hW.alike hK, hDc.weaken (fun _ _ _ _ => trivial)⟩⟩ rfl rfl hl.1 rfl (lv_room (Nat.le_of_ble_eq_true rfl)) dX7_turn_48 ⟨(Nat.le_of_ble_eq_true rfl), (Nat.le_of_ble_eq_true rfl)⟩) hS (fun q _ h => hFc q h) hFc (fun r48 u t9 H1 locs hth hvm hw48 hB hz1 hk1 hS => ?_)
          try dsimp only at hw48
          obtain ⟨hP1, hK1, hD1⟩ := hB
          rw [hth] at hP1
          obtain ⟨hP, hD⟩ := va_join (wr := []) (w1 := [(h0, .inr (4, [.int 2, .ref ow, .int re, .int (nI w), .int mt, .ref cl, .ref tu, .int (nI k), .ref lk, .ref f1, .ref s2, .ref ms, .ref nx, .ref bs, .int fd])), (ow, .inl (cJ, 3, .inr (.inl fo))), (cl, .inl (cI, 36, .inl cs)), (tu, .inl (cI, 36, .inl ts)), (lk, .inl (cJ, 3, .inr (.inl lo))), (f1, .inl (cJ, 6, .inr (.inl ff))), (s2, .inl (cJ, 6, .inr (.inl sf))), (ms, .inl (cI, 6, .inl mm)), (nx, .inl (cI, 6, .inl nf)), (bs, .inl (cI, 6, .inl bf))]) hP hD [0, 1, 2, 3, 4, 5, 6, 7, 8, 9] [] rfl rfl (by decide) (by decide) hk1 hFc hP1 hD1
          generalize H1 = H at hP hS ⊢
          have hP : va_P D vwCl [(h0, .inr (4, [.int 2, .ref ow, .int re, .int (nI w), .int mt, .ref cl, .ref tu, .int (nI k), .ref lk, .ref f1, .ref s2, .ref ms, .ref nx, .ref bs, .int fd])), (ow, .inl (cJ, 3, .inr (.inl fo))), (cl, .inl (cI, 36, .inl cs)), (tu, .inl (cI, 36, .inl ts)), (lk, .inl (cJ, 3, .inr (.inl lo))), (f1, .inl (cJ, 6, .inr (.inl ff))), (s2, .inl (cJ, 6, .inr (.inl sf))), (ms, .inl (cI, 6, .inl mm)), (nx, .inl (cI, 6, .inl nf)), (bs, .inl (cI, 6, .inl bf))] H := hP.sub (ws' := [(h0, .inr (4, [.int 2, .ref ow, .int re, .int (nI w), .int mt, .ref cl, .ref tu, .int (nI k), .ref lk, .ref f1, .ref s2, .ref ms, .ref nx, .ref bs, .int fd])), (ow, .inl (cJ, 3, .inr (.inl fo))), (cl, .inl (cI, 36, .inl cs)), (tu, .inl (cI, 36, .inl ts)), (lk, .inl (cJ, 3, .inr (.inl lo))), (f1, .inl (cJ, 6, .inr (.inl ff))), (s2, .inl (cJ, 6, .inr (.inl sf))), (ms, .inl (cI, 6, .inl mm)), (nx, .inl (cI, 6, .inl nf)), (bs, .inl (cI, 6, .inl bf))]) [0, 1, 2, 3, 4, 5, 6, 7, 8, 9] rfl
          have hD : va_D A [(h0, .inr (4, [.int 2, .ref ow, .int re, .int (nI w), .int mt, .ref cl, .ref tu, .int (nI k), .ref lk, .ref f1, .ref s2, .ref ms, .ref nx, .ref bs, .int fd])), (ow, .inl (cJ, 3, .inr (.inl fo))), (cl, .inl (cI, 36, .inl cs)), (tu, .inl (cI, 36, .inl ts)), (lk, .inl (cJ, 3, .inr (.inl lo))), (f1, .inl (cJ, 6, .inr (.inl ff))), (s2, .inl (cJ, 6, .inr (.inl sf))), (ms, .inl (cI, 6, .inl mm)), (nx, .inl (cI, 6, .inl nf)), (bs, .inl (cI, 6, .inl bf))] := hD.sub (ws' := [(h0, .inr (4, [.int 2, .ref ow, .int re, .int (nI w), .int mt, .ref cl, .ref tu, .int (nI k), .ref lk, .ref f1, .ref s2, .ref ms, .ref nx, .ref bs, .int fd])), (ow, .inl (cJ, 3, .inr (.inl fo))), (cl, .inl (cI, 36, .inl cs)), (tu, .inl (cI, 36, .inl ts)), (lk, .inl (cJ, 3, .inr (.inl lo))), (f1, .inl (cJ, 6, .inr (.inl ff))), (s2, .inl (cJ, 6, .inr (.inl sf))), (ms, .inl (cI, 6, .inl mm)), (nx, .inl (cI, 6, .inl nf)), (bs, .inl (cI, 6, .inl bf))]) [0, 1, 2, 3, 4, 5, 6, 7, 8, 9] (by decide) rfl
          obtain rfl := hw48.symm
          refine pk_ti (y := 0) (if_neg (by decide)) ?_
          refine lv_if_ne (tgt := 56) hx hb dX7_turn_51 (by decide) (fun c51 => ?_) (fun c51 => ?_)
          · exact absurd c51 (by decide)
          · refine lv_iconst (v := 0) hx hb dX7_turn_54 (by decide) ?_
            refine W.iret (v := 0) hx hb hr (fun tt ht hW => ⟨⟨0, (), rfl, ?_, by rw [ht]; exact hP, va_K.moved hW.alike hK, hD⟩, hS.F ht⟩) hS.2.2 dX7_turn_55
            exact rfl
    · exact absurd c9 (by decide)
  · exact absurd (q_ok hq) b3

set_option maxHeartbeats 400000 in
set_option maxRecDepth 100000 in
theorem c_X7_turn_bad3 (l : Launch) (D : va_G) (cI cJ : ClassId) (sz : Nat) (h0 ow cl tu lk f1 s2 ms nx bs : Nat) (th re mt fd : Int32) (w k : Nat) (fo lo ff sf : Nat → Int64) (cs ts mm nf bf : Nat → Int32) (q wy : Nat) (hq : q < 4) (hwy : wy < 2) (hbad : ¬ (re = 0 ∧ ¬ mt = 0)) : Met l yX7_turn wsX7_turn ({ frames := 4, cells := 0, slots := 0, locals := 97 } : Room) (va_Pc [.ref h0, .int (nI q), .int (nI wy)] (pv_C D cI cJ [(h0, .inr (4, [.int th, .ref ow, .int re, .int (nI w), .int mt, .ref cl, .ref tu, .int (nI k), .ref lk, .ref f1, .ref s2, .ref ms, .ref nx, .ref bs, .int fd])), (ow, .inl (cJ, 3, .inr (.inl fo))), (cl, .inl (cI, 36, .inl cs)), (tu, .inl (cI, 36, .inl ts)), (lk, .inl (cJ, 3, .inr (.inl lo))), (f1, .inl (cJ, 6, .inr (.inl ff))), (s2, .inl (cJ, 6, .inr (.inl sf))), (ms, .inl (cI, 6, .inl mm)), (nx, .inl (cI, 6, .inl nf)), (bs, .inl (cI, 6, .inl bf))] sz)) (va_Qi (fun (r : Int32) (u : Unit) => r = 0) (fun (u : Unit) => pv_B D cI cJ (va_A [(h0, .inr (4, [.int th, .ref ow, .int re, .int (nI w), .int mt, .ref cl, .ref tu, .int (nI k), .ref lk, .ref f1, .ref s2, .ref ms, .ref nx, .ref bs, .int fd])), (ow, .inl (cJ, 3, .inr (.inl fo))), (cl, .inl (cI, 36, .inl cs)), (tu, .inl (cI, 36, .inl ts)), (lk, .inl (cJ, 3, .inr (.inl lo))), (f1, .inl (cJ, 6, .inr (.inl ff))), (s2, .inl (cJ, 6, .inr (.inl sf))), (ms, .inl (cI, 6, .inl mm)), (nx, .inl (cI, 6, .inl nf)), (bs, .inl (cI, 6, .inl bf))] sz) [(h0, .inr (4, [.int 3, .ref ow, .int re, .int (nI w), .int mt, .ref cl, .ref tu, .int (nI k), .ref lk, .ref f1, .ref s2, .ref ms, .ref nx, .ref bs, .int fd])), (ow, .inl (cJ, 3, .inr (.inl fo))), (cl, .inl (cI, 36, .inl cs)), (tu, .inl (cI, 36, .inl ts)), (lk, .inl (cJ, 3, .inr (.inl lo))), (f1, .inl (cJ, 6, .inr (.inl ff))), (s2, .inl (cJ, 6, .inr (.inl sf))), (ms, .inl (cI, 6, .inl mm)), (nx, .inl (cI, 6, .inl nf)), (bs, .inl (cI, 6, .inl bf))]) (va_A [(h0, .inr (4, [.int th, .ref ow, .int re, .int (nI w), .int mt, .ref cl, .ref tu, .int (nI k), .ref lk, .ref f1, .ref s2, .ref ms, .ref nx, .ref bs, .int fd])), (ow, .inl (cJ, 3, .inr (.inl fo))), (cl, .inl (cI, 36, .inl cs)), (tu, .inl (cI, 36, .inl ts)), (lk, .inl (cJ, 3, .inr (.inl lo))), (f1, .inl (cJ, 6, .inr (.inl ff))), (s2, .inl (cJ, 6, .inr (.inl sf))), (ms, .inl (cI, 6, .inl mm)), (nx, .inl (cI, 6, .inl nf)), (bs, .inl (cI, 6, .inl bf))] sz)) 0 0 (va_A [(h0, .inr (4, [.int th, .ref ow, .int re, .int (nI w), .int mt, .ref cl, .ref tu, .int (nI k), .ref lk, .ref f1, .ref s2, .ref ms, .ref nx, .ref bs, .int fd])), (ow, .inl (cJ, 3, .inr (.inl fo))), (cl, .inl (cI, 36, .inl cs)), (tu, .inl (cI, 36, .inl ts)), (lk, .inl (cJ, 3, .inr (.inl lo))), (f1, .inl (cJ, 6, .inr (.inl ff))), (s2, .inl (cJ, 6, .inr (.inl sf))), (ms, .inl (cI, 6, .inl mm)), (nx, .inl (cI, 6, .inl nf)), (bs, .inl (cI, 6, .inl bf))] sz) := by
  refine Met.ofW (cc := cX7_turn) (maxL := 4) (ret := (some .int)) (by decide) rfl ?_
  intro p e s m args below meth c s₁ B hml hv
  obtain ⟨rfl, rfl, hP, hK, hD0⟩ := hv
  have hx := B.exec
  have hb := B.bytes
  have hr := B.returns
  have hts := atoms_spec (ws := wsX7_turn) B.pre
  have hown : s.vm.findClass RX7 = some m.cls := findClass_of_methodNamed B.named
  have hlocks := B.notSynchronized
  have hD := hD0.self (sz := s.heap.size)
  generalize hAe : va_A [(h0, .inr (4, [.int th, .ref ow, .int re, .int (nI w), .int mt, .ref cl, .ref tu, .int (nI k), .ref lk, .ref f1, .ref s2, .ref ms, .ref nx, .ref bs, .int fd])), (ow, .inl (cJ, 3, .inr (.inl fo))), (cl, .inl (cI, 36, .inl cs)), (tu, .inl (cI, 36, .inl ts)), (lk, .inl (cJ, 3, .inr (.inl lo))), (f1, .inl (cJ, 6, .inr (.inl ff))), (s2, .inl (cJ, 6, .inr (.inl sf))), (ms, .inl (cI, 6, .inl mm)), (nx, .inl (cI, 6, .inl nf)), (bs, .inl (cI, 6, .inl bf))] s.heap.size = A at hD ⊢
  have hA : ∀ q : Nat, s.heap.size ≤ q → A q := fun q h => by rw [← hAe]; exact Or.inr h
  have hS : va_S A s.heap s.heap [] := va_S.rf
  have hinX7 : ∀ w ∈ wsX70, w ∈ wsX7_turn := by decide +kernel
  have hfl73 : (Cond.fieldLink RX7 73 "TwistquadModel" "result" "I").before ([.ref h0, .int (nI q), .int (nI wy)] : List Value).toArray s = true := hts _ (by decide +kernel)
  have hfl76 : (Cond.fieldLink RX7 76 "TwistquadModel" "mustTurn" "Z").before ([.ref h0, .int (nI q), .int (nI wy)] : List Value).toArray s = true := hts _ (by decide +kernel)
  have hl := lv_entry ([.ref h0, .int (nI q), .int (nI wy)]) (n := 4) (Nat.le_of_ble_eq_true rfl)
  rw [lg_entry_eq]
  generalize (lg_sl ([.ref h0, .int (nI q), .int (nI wy)]) ++ List.replicate (4 - (lg_sl ([.ref h0, .int (nI q), .int (nI wy)])).length) Slot.unset).toArray = ls at hl ⊢
  have hl : lv_has ls 4 [(0, .ref h0), (1, .int (nI q)), (2, .int (nI wy))] := hl
  refine lv_iload_n hx hb dX7_turn_0 rfl (lv_at hl 1 rfl) ?_
  refine lv_iconst (v := 0) hx hb dX7_turn_1 (by decide) ?_
  refine lv_iconst (v := 3) hx hb dX7_turn_2 (by decide) ?_
  refine vp_callSi (W.runS (As := [.int (nI q), .int 0, .int 3]) (rest := []) ⟨hx, hb, hml, hown, hts⟩ (c_X7_in l (nI q) 0 3) (va_cwS 3 hts gX7_turn_X7_in rfl rfl rfl (by decide +kernel) ⟨Nat.le_of_ble_eq_true rfl, Nat.le_of_ble_eq_true rfl⟩) ⟨px_blind0, fun U hU hW => ⟨rfl, trivial⟩⟩ rfl rfl hl.1 rfl (lv_room (Nat.le_of_ble_eq_true rfl)) dX7_turn_3 ⟨(Nat.le_of_ble_eq_true rfl), (Nat.le_of_ble_eq_true rfl)⟩) (fun r3 er3 => ?_)
  obtain rfl := er3.symm
  refine pk_b (P := 0 ≤ (nI q) ∧ (nI q) ≤ 3) (fun b3 => ?_) (fun b3 => ?_)
  · refine lv_istore_n (lv' := [(3, .int 1), (0, .ref h0), (1, .int (nI q)), (2, .int (nI wy))]) hx hb dX7_turn_6 rfl hl (by decide) rfl (fun ls hl => ?_)
    refine lv_aload_n hx hb dX7_turn_7 rfl (lv_at hl 1 rfl) ?_
    refine lv_iload_n hx hb dX7_turn_8 rfl (lv_at hl 0 rfl) ?_
    refine lv_if_ne (tgt := 16) hx hb dX7_turn_9 (by decide) (fun c9 => ?_) (fun c9 => ?_)
    · refine lv_iload_n hx hb dX7_turn_16 rfl (lv_at hl 3 rfl) ?_
      refine lv_iconst (v := 0) hx hb dX7_turn_17 (by decide) ?_
      refine lv_iconst (v := 1) hx hb dX7_turn_18 (by decide) ?_
      refine vp_callSi (W.runS (As := [.int (nI wy), .int 0, .int 1]) (rest := [.ref h0]) ⟨hx, hb, hml, hown, hts⟩ (c_X7_in l (nI wy) 0 1) (va_cwS 3 hts gX7_turn_X7_in rfl rfl rfl (by decide +kernel) ⟨Nat.le_of_ble_eq_true rfl, Nat.le_of_ble_eq_true rfl⟩) ⟨px_blind0, fun U hU hW => ⟨rfl, trivial⟩⟩ rfl rfl hl.1 rfl (lv_room (Nat.le_of_ble_eq_true rfl)) dX7_turn_19 ⟨(Nat.le_of_ble_eq_true rfl), (Nat.le_of_ble_eq_true rfl)⟩) (fun r19 er19 => ?_)
      obtain rfl := er19.symm
      refine pk_b (P := 0 ≤ (nI wy) ∧ (nI wy) ≤ 1) (fun b19 => ?_) (fun b19 => ?_)
      · refine lv_if_ne (tgt := 29) hx hb dX7_turn_22 (by decide) (fun c22 => ?_) (fun c22 => ?_)
        · refine lv_aload_n hx hb dX7_turn_29 rfl (lv_at hl 1 rfl) ?_
          refine va_get (D := D) (ci := 4) (v := .int re) (C := RX7) (T := TX7) (N := 15) hx hb hts hinX7 hown hK hP 0 rfl rfl 2 (by decide) hfl73 (fun _ h9 => h9) rfl dX7_turn_30 ?_
          refine lv_if_ne (tgt := 43) hx hb dX7_turn_33 (by decide) (fun c33 => ?_) (fun c33 => ?_)
          · refine lv_iconst (v := 3) hx hb dX7_turn_43 (by decide) ?_
            refine lv_goto (tgt := 48) hx hb dX7_turn_44 (by decide) ?_
            have hPc := hP.sub (ws' := [(h0, .inr (4, [.int th, .ref ow, .int re, .int (nI w), .int mt, .ref cl, .ref tu, .int (nI k), .ref lk, .ref f1, .ref s2, .ref ms, .ref nx, .ref bs, .int fd])), (ow, .inl (cJ, 3, .inr (.inl fo))), (cl, .inl (cI, 36, .inl cs)), (tu, .inl (cI, 36, .inl ts)), (lk, .inl (cJ, 3, .inr (.inl lo))), (f1, .inl (cJ, 6, .inr (.inl ff))), (s2, .inl (cJ, 6, .inr (.inl sf))), (ms, .inl (cI, 6, .inl mm)), (nx, .inl (cI, 6, .inl nf)), (bs, .inl (cI, 6, .inl bf))]) [0, 1, 2, 3, 4, 5, 6, 7, 8, 9] rfl
            have hDc := hD.sub (ws' := [(h0, .inr (4, [.int th, .ref ow, .int re, .int (nI w), .int mt, .ref cl, .ref tu, .int (nI k), .ref lk, .ref f1, .ref s2, .ref ms, .ref nx, .ref bs, .int fd])), (ow, .inl (cJ, 3, .inr (.inl fo))), (cl, .inl (cI, 36, .inl cs)), (tu, .inl (cI, 36, .inl ts)), (lk, .inl (cJ, 3, .inr (.inl lo))), (f1, .inl (cJ, 6, .inr (.inl ff))), (s2, .inl (cJ, 6, .inr (.inl sf))), (ms, .inl (cI, 6, .inl mm)), (nx, .inl (cI, 6, .inl nf)), (bs, .inl (cI, 6, .inl bf))]) [0, 1, 2, 3, 4, 5, 6, 7, 8, 9] (by decide) rfl
            have hFc := va_free (wc := [(h0, .inr (4, [.int th, .ref ow, .int re, .int (nI w), .int mt, .ref cl, .ref tu, .int (nI k), .ref lk, .ref f1, .ref s2, .ref ms, .ref nx, .ref bs, .int fd])), (ow, .inl (cJ, 3, .inr (.inl fo))), (cl, .inl (cI, 36, .inl cs)), (tu, .inl (cI, 36, .inl ts)), (lk, .inl (cJ, 3, .inr (.inl lo))), (f1, .inl (cJ, 6, .inr (.inl ff))), (s2, .inl (cJ, 6, .inr (.inl sf))), (ms, .inl (cI, 6, .inl mm)), (nx, .inl (cI, 6, .inl nf)), (bs, .inl (cI, 6, .inl bf))]) hD hS hA [0, 1, 2, 3, 4, 5, 6, 7, 8, 9] rfl
            refine va_calli (va_runV (As := [.int 3]) (rest := []) ⟨hx, hb, hml, hown, hts⟩ (c_X7_goesWell l D cI cJ s.heap.size  h0 ow cl tu lk f1 s2 ms nx bs th re mt fd w k fo lo ff sf cs ts mm nf bf 3) (cwV 1 hts gX7_turn_X7_goesWell rfl rfl rfl (by decide +kernel) ⟨Nat.le_of_ble_eq_true rfl, Nat.le_of_ble_eq_true rfl⟩) ⟨pv_blind, va_recv hK hPc (ci := 4) (q0 := 0) rfl rfl, fun U hU hW => ⟨rfl, by rw [hU], by rw [hU]; exact hPc, va_K.moved hW.alike hK, hDc.weaken (fun _ _ _ _ => trivial)⟩⟩ rfl rfl hl.1 rfl (lv_room (Nat.le_of_ble_eq_true rfl)) dX7_turn_48 ⟨(Nat.le_of_ble_eq_true rfl), (Nat.le_of_ble_eq_true rfl)⟩) hS (fun q _ h => hFc q h) hFc (fun r48 u t9 H1 locs hth hvm hw48 hB hz1 hk1 hS => ?_)
            try dsimp only at hw48
            obtain ⟨hP1, hK1, hD1⟩ := hB
            rw [hth] at hP1
            obtain ⟨hP, hD⟩ := va_join (wr := []) (w1 := [(h0, .inr (4, [.int 3, .ref ow, .int re, .int (nI w), .int mt, .ref cl, .ref tu, .int (nI k), .ref lk, .ref f1, .ref s2, .ref ms, .ref nx, .ref bs, .int fd])), (ow, .inl (cJ, 3, .inr (.inl fo))), (cl, .inl (cI, 36, .inl cs)), (tu, .inl (cI, 36, .inl ts)), (lk, .inl (cJ, 3, .inr (.inl lo))), (f1, .inl (cJ, 6, .inr (.inl ff))), (s2, .inl (cJ, 6, .inr (.inl sf))), (ms, .inl (cI, 6, .inl mm)), (nx, .inl (cI, 6, .inl nf)), (bs, .inl (cI, 6, .inl bf))]) hP hD [0, 1, 2, 3, 4, 5, 6, 7, 8, 9] [] rfl rfl (by decide) (by decide) hk1 hFc hP1 hD1
            generalize H1 = H at hP hS ⊢
            have hP : va_P D vwCl [(h0, .inr (4, [.int 3, .ref ow, .int re, .int (nI w), .int mt, .ref cl, .ref tu, .int (nI k), .ref lk, .ref f1, .ref s2, .ref ms, .ref nx, .ref bs, .int fd])), (ow, .inl (cJ, 3, .inr (.inl fo))), (cl, .inl (cI, 36, .inl cs)), (tu, .inl (cI, 36, .inl ts)), (lk, .inl (cJ, 3, .inr (.inl lo))), (f1, .inl (cJ, 6, .inr (.inl ff))), (s2, .inl (cJ, 6, .inr (.inl sf))), (ms, .inl (cI, 6, .inl mm)), (nx, .inl (cI, 6, .inl nf)), (bs, .inl (cI, 6, .inl bf))] H := hP.sub (ws' := [(h0, .inr (4, [.int 3, .ref ow, .int re, .int (nI w), .int mt, .ref cl, .ref tu, .int (nI k), .ref lk, .ref f1, .ref s2, .ref ms, .ref nx, .ref bs, .int fd])), (ow, .inl (cJ, 3, .inr (.inl fo))), (cl, .inl (cI, 36, .inl cs)), (tu, .inl (cI, 36, .inl ts)), (lk, .inl (cJ, 3, .inr (.inl lo))), (f1, .inl (cJ, 6, .inr (.inl ff))), (s2, .inl (cJ, 6, .inr (.inl sf))), (ms, .inl (cI, 6, .inl mm)), (nx, .inl (cI, 6, .inl nf)), (bs, .inl (cI, 6, .inl bf))]) [0, 1, 2, 3, 4, 5, 6, 7, 8, 9] rfl
            have hD : va_D A [(h0, .inr (4, [.int 3, .ref ow, .int re, .int (nI w), .int mt, .ref cl, .ref tu, .int (nI k), .ref lk, .ref f1, .ref s2, .ref ms, .ref nx, .ref bs, .int fd])), (ow, .inl (cJ, 3, .inr (.inl fo))), (cl, .inl (cI, 36, .inl cs)), (tu, .inl (cI, 36, .inl ts)), (lk, .inl (cJ, 3, .inr (.inl lo))), (f1, .inl (cJ, 6, .inr (.inl ff))), (s2, .inl (cJ, 6, .inr (.inl sf))), (ms, .inl (cI, 6, .inl mm)), (nx, .inl (cI, 6, .inl nf)), (bs, .inl (cI, 6, .inl bf))] := hD.sub (ws' := [(h0, .inr (4, [.int 3, .ref ow, .int re, .int (nI w), .int mt, .ref cl, .ref tu, .int (nI k), .ref lk, .ref f1, .ref s2, .ref ms, .ref nx, .ref bs, .int fd])), (ow, .inl (cJ, 3, .inr (.inl fo))), (cl, .inl (cI, 36, .inl cs)), (tu, .inl (cI, 36, .inl ts)), (lk, .inl (cJ, 3, .inr (.inl lo))), (f1, .inl (cJ, 6, .inr (.inl ff))), (s2, .inl (cJ, 6, .inr (.inl sf))), (ms, .inl (cI, 6, .inl mm)), (nx, .inl (cI, 6, .inl nf)), (bs, .inl (cI, 6, .inl bf))]) [0, 1, 2, 3, 4, 5, 6, 7, 8, 9] (by decide) rfl
            obtain rfl := hw48.symm
            refine pk_ti (y := 0) (if_neg (by decide)) ?_
            refine lv_if_ne (tgt := 56) hx hb dX7_turn_51 (by decide) (fun c51 => ?_) (fun c51 => ?_)
            · exact absurd c51 (by decide)
            · refine lv_iconst (v := 0) hx hb dX7_turn_54 (by decide) ?_
              refine W.iret (v := 0) hx hb hr (fun tt ht hW => ⟨⟨0, (), rfl, ?_, by rw [ht]; exact hP, va_K.moved hW.alike hK, hD⟩, hS.F ht⟩) hS.2.2 dX7_turn_55
              exact rfl
          · refine lv_aload_n hx hb dX7_turn_36 rfl (lv_at hl 1 rfl) ?_
            refine va_get (D := D) (ci := 4) (v := .int mt) (C := RX7) (T := TX7) (N := 15) hx hb hts hinX7 hown hK hP 0 rfl rfl 4 (by decide) hfl76 (fun _ h9 => h9) rfl dX7_turn_37 ?_
            refine lv_if_ne (tgt := 47) hx hb dX7_turn_40 (by decide) (fun c40 => ?_) (fun c40 => ?_)
            · exact absurd ⟨c33, c40⟩ hbad
            · refine lv_iconst (v := 3) hx hb dX7_turn_43 (by decide) ?_
              refine lv_goto (tgt := 48) hx hb dX7_turn_44 (by decide) ?_
              have hPc := hP.sub (ws' := [(h0, .inr (4, [.int th, .ref ow, .int re, .int (nI w), .int mt, .ref cl, .ref tu, .int (nI k), .ref lk, .ref f1, .ref s2, .ref ms, .ref nx, .ref bs, .int fd])), (ow, .inl (cJ, 3, .inr (.inl fo))), (cl, .inl (cI, 36, .inl cs)), (tu, .inl (cI, 36, .inl ts)), (lk, .inl (cJ, 3, .inr (.inl lo))), (f1, .inl (cJ, 6, .inr (.inl ff))), (s2, .inl (cJ, 6, .inr (.inl sf))), (ms, .inl (cI, 6, .inl mm)), (nx, .inl (cI, 6, .inl nf)), (bs, .inl (cI, 6, .inl bf))]) [0, 1, 2, 3, 4, 5, 6, 7, 8, 9] rfl
              have hDc := hD.sub (ws' := [(h0, .inr (4, [.int th, .ref ow, .int re, .int (nI w), .int mt, .ref cl, .ref tu, .int (nI k), .ref lk, .ref f1, .ref s2, .ref ms, .ref nx, .ref bs, .int fd])), (ow, .inl (cJ, 3, .inr (.inl fo))), (cl, .inl (cI, 36, .inl cs)), (tu, .inl (cI, 36, .inl ts)), (lk, .inl (cJ, 3, .inr (.inl lo))), (f1, .inl (cJ, 6, .inr (.inl ff))), (s2, .inl (cJ, 6, .inr (.inl sf))), (ms, .inl (cI, 6, .inl mm)), (nx, .inl (cI, 6, .inl nf)), (bs, .inl (cI, 6, .inl bf))]) [0, 1, 2, 3, 4, 5, 6, 7, 8, 9] (by decide) rfl
              have hFc := va_free (wc := [(h0, .inr (4, [.int th, .ref ow, .int re, .int (nI w), .int mt, .ref cl, .ref tu, .int (nI k), .ref lk, .ref f1, .ref s2, .ref ms, .ref nx, .ref bs, .int fd])), (ow, .inl (cJ, 3, .inr (.inl fo))), (cl, .inl (cI, 36, .inl cs)), (tu, .inl (cI, 36, .inl ts)), (lk, .inl (cJ, 3, .inr (.inl lo))), (f1, .inl (cJ, 6, .inr (.inl ff))), (s2, .inl (cJ, 6, .inr (.inl sf))), (ms, .inl (cI, 6, .inl mm)), (nx, .inl (cI, 6, .inl nf)), (bs, .inl (cI, 6, .inl bf))]) hD hS hA [0, 1, 2, 3, 4, 5, 6, 7, 8, 9] rfl
              refine va_calli (va_runV (As := [.int 3]) (rest := []) ⟨hx, hb, hml, hown, hts⟩ (c_X7_goesWell l D cI cJ s.heap.size  h0 ow cl tu lk f1 s2 ms nx bs th re mt fd w k fo lo ff sf cs ts mm nf bf 3) (cwV 1 hts gX7_turn_X7_goesWell rfl rfl rfl (by decide +kernel) ⟨Nat.le_of_ble_eq_true rfl, Nat.le_of_ble_eq_true rfl⟩) ⟨pv_blind, va_recv hK hPc (ci := 4) (q0 := 0) rfl rfl, fun U hU hW => ⟨rfl, by rw [hU], by rw [hU]; exact hPc, va_K.moved hW.alike hK, hDc.weaken (fun _ _ _ _ => trivial)⟩⟩ rfl rfl hl.1 rfl (lv_room (Nat.le_of_ble_eq_true rfl)) dX7_turn_48 ⟨(Nat.le_of_ble_eq_true rfl), (Nat.le_of_ble_eq_true rfl)⟩) hS (fun q _ h => hFc q h) hFc (fun r48 u t9 H1 locs hth hvm hw48 hB hz1 hk1 hS => ?_)
              try dsimp only at hw48
              obtain ⟨hP1, hK1, hD1⟩ := hB
              rw [hth] at hP1
              obtain ⟨hP, hD⟩ := va_join (wr := []) (w1 := [(h0, .inr (4, [.int 3, .ref ow, .int re, .int (nI w), .int mt, .ref cl, .ref tu, .int (nI k), .ref lk, .ref f1, .ref s2, .ref ms, .ref nx, .ref bs, .int fd])), (ow, .inl (cJ, 3, .inr (.inl fo))), (cl, .inl (cI, 36, .inl cs)), (tu, .inl (cI, 36, .inl ts)), (lk, .inl (cJ, 3, .inr (.inl lo))), (f1, .inl (cJ, 6, .inr (.inl ff))), (s2, .inl (cJ, 6, .inr (.inl sf))), (ms, .inl (cI, 6, .inl mm)), (nx, .inl (cI, 6, .inl nf)), (bs, .inl (cI, 6, .inl bf))]) hP hD [0, 1, 2, 3, 4, 5, 6, 7, 8, 9] [] rfl rfl (by decide) (by decide) hk1 hFc hP1 hD1
              generalize H1 = H at hP hS ⊢
              have hP : va_P D vwCl [(h0, .inr (4, [.int 3, .ref ow, .int re, .int (nI w), .int mt, .ref cl, .ref tu, .int (nI k), .ref lk, .ref f1, .ref s2, .ref ms, .ref nx, .ref bs, .int fd])), (ow, .inl (cJ, 3, .inr (.inl fo))), (cl, .inl (cI, 36, .inl cs)), (tu, .inl (cI, 36, .inl ts)), (lk, .inl (cJ, 3, .inr (.inl lo))), (f1, .inl (cJ, 6, .inr (.inl ff))), (s2, .inl (cJ, 6, .inr (.inl sf))), (ms, .inl (cI, 6, .inl mm)), (nx, .inl (cI, 6, .inl nf)), (bs, .inl (cI, 6, .inl bf))] H := hP.sub (ws' := [(h0, .inr (4, [.int 3, .ref ow, .int re, .int (nI w), .int mt, .ref cl, .ref tu, .int (nI k), .ref lk, .ref f1, .ref s2, .ref ms, .ref nx, .ref bs, .int fd])), (ow, .inl (cJ, 3, .inr (.inl fo))), (cl, .inl (cI, 36, .inl cs)), (tu, .inl (cI, 36, .inl ts)), (lk, .inl (cJ, 3, .inr (.inl lo))), (f1, .inl (cJ, 6, .inr (.inl ff))), (s2, .inl (cJ, 6, .inr (.inl sf))), (ms, .inl (cI, 6, .inl mm)), (nx, .inl (cI, 6, .inl nf)), (bs, .inl (cI, 6, .inl bf))]) [0, 1, 2, 3, 4, 5, 6, 7, 8, 9] rfl
              have hD : va_D A [(h0, .inr (4, [.int 3, .ref ow, .int re, .int (nI w), .int mt, .ref cl, .ref tu, .int (nI k), .ref lk, .ref f1, .ref s2, .ref ms, .ref nx, .ref bs, .int fd])), (ow, .inl (cJ, 3, .inr (.inl fo))), (cl, .inl (cI, 36, .inl cs)), (tu, .inl (cI, 36, .inl ts)), (lk, .inl (cJ, 3, .inr (.inl lo))), (f1, .inl (cJ, 6, .inr (.inl ff))), (s2, .inl (cJ, 6, .inr (.inl sf))), (ms, .inl (cI, 6, .inl mm)), (nx, .inl (cI, 6, .inl nf)), (bs, .inl (cI, 6, .inl bf))] := hD.sub (ws' := [(h0, .inr (4, [.int 3, .ref ow, .int re, .int (nI w), .int mt, .ref cl, .ref tu, .int (nI k), .ref lk, .ref f1, .ref s2, .ref ms, .ref nx, .ref bs, .int fd])), (ow, .inl (cJ, 3, .inr (.inl fo))), (cl, .inl (cI, 36, .inl cs)), (tu, .inl (cI, 36, .inl ts)), (lk, .inl (cJ, 3, .inr (.inl lo))), (f1, .inl (cJ, 6, .inr (.inl ff))), (s2, .inl (cJ, 6, .inr (.inl sf))), (ms, .inl (cI, 6, .inl mm)), (nx, .inl (cI, 6, .inl nf)), (bs, .inl (cI, 6, .inl bf))]) [0, 1, 2, 3, 4, 5, 6, 7, 8, 9] (by decide) rfl
              obtain rfl := hw48.symm
              refine pk_ti (y := 0) (if_neg (by decide)) ?_
              refine lv_if_ne (tgt := 56) hx hb dX7_turn_51 (by decide) (fun c51 => ?_) (fun c51 => ?_)
              · exact absurd c51 (by decide)
              · refine lv_iconst (v := 0) hx hb dX7_turn_54 (by decide) ?_
                refine W.iret (v := 0) hx hb hr (fun tt ht hW => ⟨⟨0, (), rfl, ?_, by rw [ht]; exact hP, va_K.moved hW.alike hK, hD⟩, hS.F ht⟩) hS.2.2 dX7_turn_55
                exact rfl
        · exact absurd c22 (by decide)
      · exact absurd (w_ok hwy) b19
    · exact absurd c9 (by decide)
  · exact absurd (q_ok hq) b3

set_option maxHeartbeats 400000 in
set_option maxRecDepth 100000 in
theorem c_X7_turn_ok (l : Launch) (D : va_G) (cI cJ : ClassId) (sz : Nat) (h0 ow cl tu lk f1 s2 ms nx bs : Nat) (th fd : Int32) (w k : Nat) (fo lo ff sf : Nat → Int64) (cs ts mm nf bf : Nat → Int32) (q wy : Nat) (hq : q < 4) (hwy : wy < 2) (hw : w = 1 ∨ w = 2) (hk : k ≤ 36) (hk0 : 0 < k) : Met l yX7_turn wsX7_turn ({ frames := 4, cells := 0, slots := 0, locals := 97 } : Room) (va_Pc [.ref h0, .int (nI q), .int (nI wy)] (pv_C D cI cJ [(h0, .inr (4, [.int th, .ref ow, .int 0, .int (nI w), .int 1, .ref cl, .ref tu, .int (nI k), .ref lk, .ref f1, .ref s2, .ref ms, .ref nx, .ref bs, .int fd])), (ow, .inl (cJ, 3, .inr (.inl fo))), (cl, .inl (cI, 36, .inl cs)), (tu, .inl (cI, 36, .inl ts)), (lk, .inl (cJ, 3, .inr (.inl lo))), (f1, .inl (cJ, 6, .inr (.inl ff))), (s2, .inl (cJ, 6, .inr (.inl sf))), (ms, .inl (cI, 6, .inl mm)), (nx, .inl (cI, 6, .inl nf)), (bs, .inl (cI, 6, .inl bf))] sz)) (va_Qi (fun (r : Int32) (u : Unit) => r = mjudge (mturned (fo 1) q wy) (mturned (fo 2) q wy)) (fun (u : Unit) => pv_B D cI cJ (va_A [(h0, .inr (4, [.int th, .ref ow, .int 0, .int (nI w), .int 1, .ref cl, .ref tu, .int (nI k), .ref lk, .ref f1, .ref s2, .ref ms, .ref nx, .ref bs, .int fd])), (ow, .inl (cJ, 3, .inr (.inl fo))), (cl, .inl (cI, 36, .inl cs)), (tu, .inl (cI, 36, .inl ts)), (lk, .inl (cJ, 3, .inr (.inl lo))), (f1, .inl (cJ, 6, .inr (.inl ff))), (s2, .inl (cJ, 6, .inr (.inl sf))), (ms, .inl (cI, 6, .inl mm)), (nx, .inl (cI, 6, .inl nf)), (bs, .inl (cI, 6, .inl bf))] sz) [(h0, .inr (4, [.int 0, .ref ow, .int (mjudge (mturned (fo 1) q wy) (mturned (fo 2) q wy)), .int (nI (3 - w)), .int 0, .ref cl, .ref tu, .int (nI k), .ref lk, .ref f1, .ref s2, .ref ms, .ref nx, .ref bs, .int fd])), (ow, .inl (cJ, 3, .inr (.inl (vp_updL (vp_updL fo 1 (mturned (fo 1) q wy)) 2 (mturned (fo 2) q wy))))), (cl, .inl (cI, 36, .inl cs)), (tu, .inl (cI, 36, .inl (upd ts (k - 1) (nI (2 * q + wy))))), (lk, .inl (cJ, 3, .inr (.inl lo))), (f1, .inl (cJ, 6, .inr (.inl ff))), (s2, .inl (cJ, 6, .inr (.inl sf))), (ms, .inl (cI, 6, .inl mm)), (nx, .inl (cI, 6, .inl nf)), (bs, .inl (cI, 6, .inl bf))]) (va_A [(h0, .inr (4, [.int th, .ref ow, .int 0, .int (nI w), .int 1, .ref cl, .ref tu, .int (nI k), .ref lk, .ref f1, .ref s2, .ref ms, .ref nx, .ref bs, .int fd])), (ow, .inl (cJ, 3, .inr (.inl fo))), (cl, .inl (cI, 36, .inl cs)), (tu, .inl (cI, 36, .inl ts)), (lk, .inl (cJ, 3, .inr (.inl lo))), (f1, .inl (cJ, 6, .inr (.inl ff))), (s2, .inl (cJ, 6, .inr (.inl sf))), (ms, .inl (cI, 6, .inl mm)), (nx, .inl (cI, 6, .inl nf)), (bs, .inl (cI, 6, .inl bf))] sz)) 0 0 (va_A [(h0, .inr (4, [.int th, .ref ow, .int 0, .int (nI w), .int 1, .ref cl, .ref tu, .int (nI k), .ref lk, .ref f1, .ref s2, .ref ms, .ref nx, .ref bs, .int fd])), (ow, .inl (cJ, 3, .inr (.inl fo))), (cl, .inl (cI, 36, .inl cs)), (tu, .inl (cI, 36, .inl ts)), (lk, .inl (cJ, 3, .inr (.inl lo))), (f1, .inl (cJ, 6, .inr (.inl ff))), (s2, .inl (cJ, 6, .inr (.inl sf))), (ms, .inl (cI, 6, .inl mm)), (nx, .inl (cI, 6, .inl nf)), (bs, .inl (cI, 6, .inl bf))] sz) := by
  refine Met.ofW (cc := cX7_turn) (maxL := 4) (ret := (some .int)) (by decide) rfl ?_
  intro p e s m args below meth c s₁ B hml hv
  obtain ⟨rfl, rfl, hP, hK, hD0⟩ := hv
  have hx := B.exec
  have hb := B.bytes
  have hr := B.returns
  have hts := atoms_spec (ws := wsX7_turn) B.pre
  have hown : s.vm.findClass RX7 = some m.cls := findClass_of_methodNamed B.named
  have hlocks := B.notSynchronized
  have hD := hD0.self (sz := s.heap.size)
  generalize hAe : va_A [(h0, .inr (4, [.int th, .ref ow, .int 0, .int (nI w), .int 1, .ref cl, .ref tu, .int (nI k), .ref lk, .ref f1, .ref s2, .ref ms, .ref nx, .ref bs, .int fd])), (ow, .inl (cJ, 3, .inr (.inl fo))), (cl, .inl (cI, 36, .inl cs)), (tu, .inl (cI, 36, .inl ts)), (lk, .inl (cJ, 3, .inr (.inl lo))), (f1, .inl (cJ, 6, .inr (.inl ff))), (s2, .inl (cJ, 6, .inr (.inl sf))), (ms, .inl (cI, 6, .inl mm)), (nx, .inl (cI, 6, .inl nf)), (bs, .inl (cI, 6, .inl bf))] s.heap.size = A at hD ⊢
  have hA : ∀ q : Nat, s.heap.size ≤ q → A q := fun q h => by rw [← hAe]; exact Or.inr h
  have hS : va_S A s.heap s.heap [] := va_S.rf
  have hinX7 : ∀ w ∈ wsX70, w ∈ wsX7_turn := by decide +kernel
  have hfl73 : (Cond.fieldLink RX7 73 "TwistquadModel" "result" "I").before ([.ref h0, .int (nI q), .int (nI wy)] : List Value).toArray s = true := hts _ (by decide +kernel)
  have hfl76 : (Cond.fieldLink RX7 76 "TwistquadModel" "mustTurn" "Z").before ([.ref h0, .int (nI q), .int (nI wy)] : List Value).toArray s = true := hts _ (by decide +kernel)
  have hfl21 : (Cond.fieldLink RX7 21 "TwistquadModel" "turns" "[I").before ([.ref h0, .int (nI q), .int (nI wy)] : List Value).toArray s = true := hts _ (by decide +kernel)
  have hfl83 : (Cond.fieldLink RX7 83 "TwistquadModel" "moves" "I").before ([.ref h0, .int (nI q), .int (nI wy)] : List Value).toArray s = true := hts _ (by decide +kernel)
  have hfl13 : (Cond.fieldLink RX7 13 "TwistquadModel" "mover" "I").before ([.ref h0, .int (nI q), .int (nI wy)] : List Value).toArray s = true := hts _ (by decide +kernel)
  have hfl7 : (Cond.fieldLink RX7 7 "TwistquadModel" "own" "[J").before ([.ref h0, .int (nI q), .int (nI wy)] : List Value).toArray s = true := hts _ (by decide +kernel)
  have hl := lv_entry ([.ref h0, .int (nI q), .int (nI wy)]) (n := 4) (Nat.le_of_ble_eq_true rfl)
  rw [lg_entry_eq]
  generalize (lg_sl ([.ref h0, .int (nI q), .int (nI wy)]) ++ List.replicate (4 - (lg_sl ([.ref h0, .int (nI q), .int (nI wy)])).length) Slot.unset).toArray = ls at hl ⊢
  have hl : lv_has ls 4 [(0, .ref h0), (1, .int (nI q)), (2, .int (nI wy))] := hl
  refine lv_iload_n hx hb dX7_turn_0 rfl (lv_at hl 1 rfl) ?_
  refine lv_iconst (v := 0) hx hb dX7_turn_1 (by decide) ?_
  refine lv_iconst (v := 3) hx hb dX7_turn_2 (by decide) ?_
  refine vp_callSi (W.runS (As := [.int (nI q), .int 0, .int 3]) (rest := []) ⟨hx, hb, hml, hown, hts⟩ (c_X7_in l (nI q) 0 3) (va_cwS 3 hts gX7_turn_X7_in rfl rfl rfl (by decide +kernel) ⟨Nat.le_of_ble_eq_true rfl, Nat.le_of_ble_eq_true rfl⟩) ⟨px_blind0, fun U hU hW => ⟨rfl, trivial⟩⟩ rfl rfl hl.1 rfl (lv_room (Nat.le_of_ble_eq_true rfl)) dX7_turn_3 ⟨(Nat.le_of_ble_eq_true rfl), (Nat.le_of_ble_eq_true rfl)⟩) (fun r3 er3 => ?_)
  obtain rfl := er3.symm
  refine pk_b (P := 0 ≤ (nI q) ∧ (nI q) ≤ 3) (fun b3 => ?_) (fun b3 => ?_)
  · refine lv_istore_n (lv' := [(3, .int 1), (0, .ref h0), (1, .int (nI q)), (2, .int (nI wy))]) hx hb dX7_turn_6 rfl hl (by decide) rfl (fun ls hl => ?_)
    refine lv_aload_n hx hb dX7_turn_7 rfl (lv_at hl 1 rfl) ?_
    refine lv_iload_n hx hb dX7_turn_8 rfl (lv_at hl 0 rfl) ?_
    refine lv_if_ne (tgt := 16) hx hb dX7_turn_9 (by decide) (fun c9 => ?_) (fun c9 => ?_)
    · refine lv_iload_n hx hb dX7_turn_16 rfl (lv_at hl 3 rfl) ?_
      refine lv_iconst (v := 0) hx hb dX7_turn_17 (by decide) ?_
      refine lv_iconst (v := 1) hx hb dX7_turn_18 (by decide) ?_
      refine vp_callSi (W.runS (As := [.int (nI wy), .int 0, .int 1]) (rest := [.ref h0]) ⟨hx, hb, hml, hown, hts⟩ (c_X7_in l (nI wy) 0 1) (va_cwS 3 hts gX7_turn_X7_in rfl rfl rfl (by decide +kernel) ⟨Nat.le_of_ble_eq_true rfl, Nat.le_of_ble_eq_true rfl⟩) ⟨px_blind0, fun U hU hW => ⟨rfl, trivial⟩⟩ rfl rfl hl.1 rfl (lv_room (Nat.le_of_ble_eq_true rfl)) dX7_turn_19 ⟨(Nat.le_of_ble_eq_true rfl), (Nat.le_of_ble_eq_true rfl)⟩) (fun r19 er19 => ?_)
      obtain rfl := er19.symm
      refine pk_b (P := 0 ≤ (nI wy) ∧ (nI wy) ≤ 1) (fun b19 => ?_) (fun b19 => ?_)
      · refine lv_if_ne (tgt := 29) hx hb dX7_turn_22 (by decide) (fun c22 => ?_) (fun c22 => ?_)
        · refine lv_aload_n hx hb dX7_turn_29 rfl (lv_at hl 1 rfl) ?_
          refine va_get (D := D) (ci := 4) (v := .int 0) (C := RX7) (T := TX7) (N := 15) hx hb hts hinX7 hown hK hP 0 rfl rfl 2 (by decide) hfl73 (fun _ h9 => h9) rfl dX7_turn_30 ?_
          refine lv_if_ne (tgt := 43) hx hb dX7_turn_33 (by decide) (fun c33 => ?_) (fun c33 => ?_)
          · exact absurd c33 (by decide)
          · refine lv_aload_n hx hb dX7_turn_36 rfl (lv_at hl 1 rfl) ?_
            refine va_get (D := D) (ci := 4) (v := .int 1) (C := RX7) (T := TX7) (N := 15) hx hb hts hinX7 hown hK hP 0 rfl rfl 4 (by decide) hfl76 (fun _ h9 => h9) rfl dX7_turn_37 ?_
            refine lv_if_ne (tgt := 47) hx hb dX7_turn_40 (by decide) (fun c40 => ?_) (fun c40 => ?_)
            · refine lv_iconst (v := 0) hx hb dX7_turn_47 (by decide) ?_
              have hPc := hP.sub (ws' := [(h0, .inr (4, [.int th, .ref ow, .int 0, .int (nI w), .int 1, .ref cl, .ref tu, .int (nI k), .ref lk, .ref f1, .ref s2, .ref ms, .ref nx, .ref bs, .int fd])), (ow, .inl (cJ, 3, .inr (.inl fo))), (cl, .inl (cI, 36, .inl cs)), (tu, .inl (cI, 36, .inl ts)), (lk, .inl (cJ, 3, .inr (.inl lo))), (f1, .inl (cJ, 6, .inr (.inl ff))), (s2, .inl (cJ, 6, .inr (.inl sf))), (ms, .inl (cI, 6, .inl mm)), (nx, .inl (cI, 6, .inl nf)), (bs, .inl (cI, 6, .inl bf))]) [0, 1, 2, 3, 4, 5, 6, 7, 8, 9] rfl
              have hDc := hD.sub (ws' := [(h0, .inr (4, [.int th, .ref ow, .int 0, .int (nI w), .int 1, .ref cl, .ref tu, .int (nI k), .ref lk, .ref f1, .ref s2, .ref ms, .ref nx, .ref bs, .int fd])), (ow, .inl (cJ, 3, .inr (.inl fo))), (cl, .inl (cI, 36, .inl cs)), (tu, .inl (cI, 36, .inl ts)), (lk, .inl (cJ, 3, .inr (.inl lo))), (f1, .inl (cJ, 6, .inr (.inl ff))), (s2, .inl (cJ, 6, .inr (.inl sf))), (ms, .inl (cI, 6, .inl mm)), (nx, .inl (cI, 6, .inl nf)), (bs, .inl (cI, 6, .inl bf))]) [0, 1, 2, 3, 4, 5, 6, 7, 8, 9] (by decide) rfl
              have hFc := va_free (wc := [(h0, .inr (4, [.int th, .ref ow, .int 0, .int (nI w), .int 1, .ref cl, .ref tu, .int (nI k), .ref lk, .ref f1, .ref s2, .ref ms, .ref nx, .ref bs, .int fd])), (ow, .inl (cJ, 3, .inr (.inl fo))), (cl, .inl (cI, 36, .inl cs)), (tu, .inl (cI, 36, .inl ts)), (lk, .inl (cJ, 3, .inr (.inl lo))), (f1, .inl (cJ, 6, .inr (.inl ff))), (s2, .inl (cJ, 6, .inr (.inl sf))), (ms, .inl (cI, 6, .inl mm)), (nx, .inl (cI, 6, .inl nf)), (bs, .inl (cI, 6, .inl bf))]) hD hS hA [0, 1, 2, 3, 4, 5, 6, 7, 8, 9] rfl
              refine va_calli (va_runV (As := [.int 0]) (rest := []) ⟨hx, hb, hml, hown, hts⟩ (c_X7_goesWell l D cI cJ s.heap.size  h0 ow cl tu lk f1 s2 ms nx bs th 0 1 fd w k fo lo ff sf cs ts mm nf bf 0) (cwV 1 hts gX7_turn_X7_goesWell rfl rfl rfl (by decide +kernel) ⟨Nat.le_of_ble_eq_true rfl, Nat.le_of_ble_eq_true rfl⟩) ⟨pv_blind, va_recv hK hPc (ci := 4) (q0 := 0) rfl rfl, fun U hU hW => ⟨rfl, by rw [hU], by rw [hU]; exact hPc, va_K.moved hW.alike hK, hDc.weaken (fun _ _ _ _ => trivial)⟩⟩ rfl rfl hl.1 rfl (lv_room (Nat.le_of_ble_eq_true rfl)) dX7_turn_48 ⟨(Nat.le_of_ble_eq_true rfl), (Nat.le_of_ble_eq_true rfl)⟩) hS (fun q _ h => hFc q h) hFc (fun r48 u t9 H1 locs hth hvm hw48 hB hz1 hk1 hS => ?_)
              try dsimp only at hw48
              obtain ⟨hP1, hK1, hD1⟩ := hB
              rw [hth] at hP1
              obtain ⟨hP, hD⟩ := va_join (wr := []) (w1 := [(h0, .inr (4, [.int 0, .ref ow, .int 0, .int (nI w), .int 1, .ref cl, .ref tu, .int (nI k), .ref lk, .ref f1, .ref s2, .ref ms, .ref nx, .ref bs, .int fd])), (ow, .inl (cJ, 3, .inr (.inl fo))), (cl, .inl (cI, 36, .inl cs)), (tu, .inl (cI, 36, .inl ts)), (lk, .inl (cJ, 3, .inr (.inl lo))), (f1, .inl (cJ, 6, .inr (.inl ff))), (s2, .inl (cJ, 6, .inr (.inl sf))), (ms, .inl (cI, 6, .inl mm)), (nx, .inl (cI, 6, .inl nf)), (bs, .inl (cI, 6, .inl bf))]) hP hD [0, 1, 2, 3, 4, 5, 6, 7, 8, 9] [] rfl rfl (by decide) (by decide) hk1 hFc hP1 hD1
              generalize H1 = H at hP hS ⊢
              have hP : va_P D vwCl [(h0, .inr (4, [.int 0, .ref ow, .int 0, .int (nI w), .int 1, .ref cl, .ref tu, .int (nI k), .ref lk, .ref f1, .ref s2, .ref ms, .ref nx, .ref bs, .int fd])), (ow, .inl (cJ, 3, .inr (.inl fo))), (cl, .inl (cI, 36, .inl cs)), (tu, .inl (cI, 36, .inl ts)), (lk, .inl (cJ, 3, .inr (.inl lo))), (f1, .inl (cJ, 6, .inr (.inl ff))), (s2, .inl (cJ, 6, .inr (.inl sf))), (ms, .inl (cI, 6, .inl mm)), (nx, .inl (cI, 6, .inl nf)), (bs, .inl (cI, 6, .inl bf))] H := hP.sub (ws' := [(h0, .inr (4, [.int 0, .ref ow, .int 0, .int (nI w), .int 1, .ref cl, .ref tu, .int (nI k), .ref lk, .ref f1, .ref s2, .ref ms, .ref nx, .ref bs, .int fd])), (ow, .inl (cJ, 3, .inr (.inl fo))), (cl, .inl (cI, 36, .inl cs)), (tu, .inl (cI, 36, .inl ts)), (lk, .inl (cJ, 3, .inr (.inl lo))), (f1, .inl (cJ, 6, .inr (.inl ff))), (s2, .inl (cJ, 6, .inr (.inl sf))), (ms, .inl (cI, 6, .inl mm)), (nx, .inl (cI, 6, .inl nf)), (bs, .inl (cI, 6, .inl bf))]) [0, 1, 2, 3, 4, 5, 6, 7, 8, 9] rfl
              have hD : va_D A [(h0, .inr (4, [.int 0, .ref ow, .int 0, .int (nI w), .int 1, .ref cl, .ref tu, .int (nI k), .ref lk, .ref f1, .ref s2, .ref ms, .ref nx, .ref bs, .int fd])), (ow, .inl (cJ, 3, .inr (.inl fo))), (cl, .inl (cI, 36, .inl cs)), (tu, .inl (cI, 36, .inl ts)), (lk, .inl (cJ, 3, .inr (.inl lo))), (f1, .inl (cJ, 6, .inr (.inl ff))), (s2, .inl (cJ, 6, .inr (.inl sf))), (ms, .inl (cI, 6, .inl mm)), (nx, .inl (cI, 6, .inl nf)), (bs, .inl (cI, 6, .inl bf))] := hD.sub (ws' := [(h0, .inr (4, [.int 0, .ref ow, .int 0, .int (nI w), .int 1, .ref cl, .ref tu, .int (nI k), .ref lk, .ref f1, .ref s2, .ref ms, .ref nx, .ref bs, .int fd])), (ow, .inl (cJ, 3, .inr (.inl fo))), (cl, .inl (cI, 36, .inl cs)), (tu, .inl (cI, 36, .inl ts)), (lk, .inl (cJ, 3, .inr (.inl lo))), (f1, .inl (cJ, 6, .inr (.inl ff))), (s2, .inl (cJ, 6, .inr (.inl sf))), (ms, .inl (cI, 6, .inl mm)), (nx, .inl (cI, 6, .inl nf)), (bs, .inl (cI, 6, .inl bf))]) [0, 1, 2, 3, 4, 5, 6, 7, 8, 9] (by decide) rfl
              obtain rfl := hw48.symm
              refine pk_ti (y := 1) (if_pos (by decide)) ?_
              refine lv_if_ne (tgt := 56) hx hb dX7_turn_51 (by decide) (fun c51 => ?_) (fun c51 => ?_)
              · refine lv_aload_n hx hb dX7_turn_56 rfl (lv_at hl 1 rfl) ?_
                refine lv_iload_n hx hb dX7_turn_57 rfl (lv_at hl 2 rfl) ?_
                refine lv_iload_n hx hb dX7_turn_58 rfl (lv_at hl 3 rfl) ?_
                have hPc := hP.sub (ws' := [(h0, .inr (4, [.int 0, .ref ow, .int 0, .int (nI w), .int 1, .ref cl, .ref tu, .int (nI k), .ref lk, .ref f1, .ref s2, .ref ms, .ref nx, .ref bs, .int fd])), (ow, .inl (cJ, 3, .inr (.inl fo))), (cl, .inl (cI, 36, .inl cs)), (tu, .inl (cI, 36, .inl ts)), (lk, .inl (cJ, 3, .inr (.inl lo))), (f1, .inl (cJ, 6, .inr (.inl ff))), (s2, .inl (cJ, 6, .inr (.inl sf))), (ms, .inl (cI, 6, .inl mm)), (nx, .inl (cI, 6, .inl nf)), (bs, .inl (cI, 6, .inl bf))]) [0, 1, 2, 3, 4, 5, 6, 7, 8, 9] rfl
                have hDc := hD.sub (ws' := [(h0, .inr (4, [.int 0, .ref ow, .int 0, .int (nI w), .int 1, .ref cl, .ref tu, .int (nI k), .ref lk, .ref f1, .ref s2, .ref ms, .ref nx, .ref bs, .int fd])), (ow, .inl (cJ, 3, .inr (.inl fo))), (cl, .inl (cI, 36, .inl cs)), (tu, .inl (cI, 36, .inl ts)), (lk, .inl (cJ, 3, .inr (.inl lo))), (f1, .inl (cJ, 6, .inr (.inl ff))), (s2, .inl (cJ, 6, .inr (.inl sf))), (ms, .inl (cI, 6, .inl mm)), (nx, .inl (cI, 6, .inl nf)), (bs, .inl (cI, 6, .inl bf))]) [0, 1, 2, 3, 4, 5, 6, 7, 8, 9] (by decide) rfl
                have hFc := va_free (wc := [(h0, .inr (4, [.int 0, .ref ow, .int 0, .int (nI w), .int 1, .ref cl, .ref tu, .int (nI k), .ref lk, .ref f1, .ref s2, .ref ms, .ref nx, .ref bs, .int fd])), (ow, .inl (cJ, 3, .inr (.inl fo))), (cl, .inl (cI, 36, .inl cs)), (tu, .inl (cI, 36, .inl ts)), (lk, .inl (cJ, 3, .inr (.inl lo))), (f1, .inl (cJ, 6, .inr (.inl ff))), (s2, .inl (cJ, 6, .inr (.inl sf))), (ms, .inl (cI, 6, .inl mm)), (nx, .inl (cI, 6, .inl nf)), (bs, .inl (cI, 6, .inl bf))]) hD hS hA [0, 1, 2, 3, 4, 5, 6, 7, 8, 9] rfl
                refine va_callv (va_runV (As := [.int (nI q), .int (nI wy)]) (rest := []) ⟨hx, hb, hml, hown, hts⟩ (c_X7_turnOwn l D cI cJ H.size  h0 ow cl tu lk f1 s2 ms nx bs 0 0 1 fd w k fo lo ff sf cs ts mm nf bf q wy (by omega) (by omega)) (cwV 2 hts gX7_turn_X7_turnOwn rfl rfl rfl (by decide +kernel) ⟨Nat.le_of_ble_eq_true rfl, Nat.le_of_ble_eq_true rfl⟩) ⟨pv_blind, va_recv hK hPc (ci := 4) (q0 := 0) rfl rfl, fun U hU hW => ⟨rfl, by rw [hU], by rw [hU]; exact hPc, va_K.moved hW.alike hK, hDc.weaken (fun _ _ _ _ => trivial)⟩⟩ rfl rfl hl.1 rfl (lv_room (Nat.le_of_ble_eq_true rfl)) dX7_turn_59 ⟨(Nat.le_of_ble_eq_true rfl), (Nat.le_of_ble_eq_true rfl)⟩) hS (fun q _ h => hFc q h) hFc (fun u t9 H1 locs hth hvm hw59 hB hz1 hk1 hS => ?_)
                try dsimp only at hw59
                obtain ⟨hP1, hK1, hD1⟩ := hB
                rw [hth] at hP1
                obtain ⟨hP, hD⟩ := va_join (wr := []) (w1 := [(h0, .inr (4, [.int 0, .ref ow, .int 0, .int (nI w), .int 1, .ref cl, .ref tu, .int (nI k), .ref lk, .ref f1, .ref s2, .ref ms, .ref nx, .ref bs, .int fd])), (ow, .inl (cJ, 3, .inr (.inl (vp_updL (vp_updL fo 1 (mturned (fo 1) q wy)) 2 (mturned (fo 2) q wy))))), (cl, .inl (cI, 36, .inl cs)), (tu, .inl (cI, 36, .inl ts)), (lk, .inl (cJ, 3, .inr (.inl lo))), (f1, .inl (cJ, 6, .inr (.inl ff))), (s2, .inl (cJ, 6, .inr (.inl sf))), (ms, .inl (cI, 6, .inl mm)), (nx, .inl (cI, 6, .inl nf)), (bs, .inl (cI, 6, .inl bf))]) hP hD [0, 1, 2, 3, 4, 5, 6, 7, 8, 9] [] rfl rfl (by decide) (by decide) hk1 hFc hP1 hD1
                generalize H1 = H at hP hS ⊢
                have hP : va_P D vwCl [(h0, .inr (4, [.int 0, .ref ow, .int 0, .int (nI w), .int 1, .ref cl, .ref tu, .int (nI k), .ref lk, .ref f1, .ref s2, .ref ms, .ref nx, .ref bs, .int fd])), (ow, .inl (cJ, 3, .inr (.inl (vp_updL (vp_updL fo 1 (mturned (fo 1) q wy)) 2 (mturned (fo 2) q wy))))), (cl, .inl (cI, 36, .inl cs)), (tu, .inl (cI, 36, .inl ts)), (lk, .inl (cJ, 3, .inr (.inl lo))), (f1, .inl (cJ, 6, .inr (.inl ff))), (s2, .inl (cJ, 6, .inr (.inl sf))), (ms, .inl (cI, 6, .inl mm)), (nx, .inl (cI, 6, .inl nf)), (bs, .inl (cI, 6, .inl bf))] H := hP.sub (ws' := [(h0, .inr (4, [.int 0, .ref ow, .int 0, .int (nI w), .int 1, .ref cl, .ref tu, .int (nI k), .ref lk, .ref f1, .ref s2, .ref ms, .ref nx, .ref bs, .int fd])), (ow, .inl (cJ, 3, .inr (.inl (vp_updL (vp_updL fo 1 (mturned (fo 1) q wy)) 2 (mturned (fo 2) q wy))))), (cl, .inl (cI, 36, .inl cs)), (tu, .inl (cI, 36, .inl ts)), (lk, .inl (cJ, 3, .inr (.inl lo))), (f1, .inl (cJ, 6, .inr (.inl ff))), (s2, .inl (cJ, 6, .inr (.inl sf))), (ms, .inl (cI, 6, .inl mm)), (nx, .inl (cI, 6, .inl nf)), (bs, .inl (cI, 6, .inl bf))]) [0, 1, 2, 3, 4, 5, 6, 7, 8, 9] rfl
                have hD : va_D A [(h0, .inr (4, [.int 0, .ref ow, .int 0, .int (nI w), .int 1, .ref cl, .ref tu, .int (nI k), .ref lk, .ref f1, .ref s2, .ref ms, .ref nx, .ref bs, .int fd])), (ow, .inl (cJ, 3, .inr (.inl (vp_updL (vp_updL fo 1 (mturned (fo 1) q wy)) 2 (mturned (fo 2) q wy))))), (cl, .inl (cI, 36, .inl cs)), (tu, .inl (cI, 36, .inl ts)), (lk, .inl (cJ, 3, .inr (.inl lo))), (f1, .inl (cJ, 6, .inr (.inl ff))), (s2, .inl (cJ, 6, .inr (.inl sf))), (ms, .inl (cI, 6, .inl mm)), (nx, .inl (cI, 6, .inl nf)), (bs, .inl (cI, 6, .inl bf))] := hD.sub (ws' := [(h0, .inr (4, [.int 0, .ref ow, .int 0, .int (nI w), .int 1, .ref cl, .ref tu, .int (nI k), .ref lk, .ref f1, .ref s2, .ref ms, .ref nx, .ref bs, .int fd])), (ow, .inl (cJ, 3, .inr (.inl (vp_updL (vp_updL fo 1 (mturned (fo 1) q wy)) 2 (mturned (fo 2) q wy))))), (cl, .inl (cI, 36, .inl cs)), (tu, .inl (cI, 36, .inl ts)), (lk, .inl (cJ, 3, .inr (.inl lo))), (f1, .inl (cJ, 6, .inr (.inl ff))), (s2, .inl (cJ, 6, .inr (.inl sf))), (ms, .inl (cI, 6, .inl mm)), (nx, .inl (cI, 6, .inl nf)), (bs, .inl (cI, 6, .inl bf))]) [0, 1, 2, 3, 4, 5, 6, 7, 8, 9] (by decide) rfl
                refine lv_aload_n hx hb dX7_turn_62 rfl (lv_at hl 1 rfl) ?_
                refine va_get (D := D) (ci := 4) (v := .ref tu) (C := RX7) (T := TX7) (N := 15) hx hb hts hinX7 hown hK hP 0 rfl rfl 6 (by decide) hfl21 (fun _ h9 => h9) rfl dX7_turn_63 ?_
                refine lv_aload_n hx hb dX7_turn_66 rfl (lv_at hl 1 rfl) ?_
                refine va_get (D := D) (ci := 4) (v := .int (nI k)) (C := RX7) (T := TX7) (N := 15) hx hb hts hinX7 hown hK hP 0 rfl rfl 7 (by decide) hfl83 (fun _ h9 => h9) rfl dX7_turn_67 ?_
                refine lv_iconst (v := 1) hx hb dX7_turn_70 (by decide) ?_
                refine lv_isub hx hb dX7_turn_71 ?_
                refine pk_ti (y := nI (k - 1)) (pk_sub (a := k) (b := 1) (by omega)) ?_
                refine lv_iconst (v := 2) hx hb dX7_turn_72 (by decide) ?_
                refine lv_iload_n hx hb dX7_turn_73 rfl (lv_at hl 2 rfl) ?_
                refine lv_imul hx hb dX7_turn_74 ?_
                refine pk_ti (y := nI (2 * q)) (pk_mul 2 q) ?_
                refine lv_iload_n hx hb dX7_turn_75 rfl (lv_at hl 3 rfl) ?_
                refine lv_iadd hx hb dX7_turn_76 ?_
                refine pk_ti (y := nI (2 * q + wy)) (nI_add _ _) ?_
                refine va_iast hx hb hK hP hD hS 3 0 rfl rfl (vp_in_nI (n := (k - 1)) (N := 36) (by omega) (by decide)) dX7_turn_77 (fun H locs hP hD hS => ?_)
                have hu77 : ((nI (k - 1)) : Int32).toNatClampNeg = k - 1 := pk_cl (k - 1)
                rw [hu77] at hP hD
                have hP : va_P D vwCl [(h0, .inr (4, [.int 0, .ref ow, .int 0, .int (nI w), .int 1, .ref cl, .ref tu, .int (nI k), .ref lk, .ref f1, .ref s2, .ref ms, .ref nx, .ref bs, .int fd])), (ow, .inl (cJ, 3, .inr (.inl (vp_updL (vp_updL fo 1 (mturned (fo 1) q wy)) 2 (mturned (fo 2) q wy))))), (cl, .inl (cI, 36, .inl cs)), (tu, .inl (cI, 36, .inl (upd ts (k - 1) (nI (2 * q + wy))))), (lk, .inl (cJ, 3, .inr (.inl lo))), (f1, .inl (cJ, 6, .inr (.inl ff))), (s2, .inl (cJ, 6, .inr (.inl sf))), (ms, .inl (cI, 6, .inl mm)), (nx, .inl (cI, 6, .inl nf)), (bs, .inl (cI, 6, .inl bf))] H := hP
                have hD : va_D A [(h0, .inr (4, [.int 0, .ref ow, .int 0, .int (nI w), .int 1, .ref cl, .ref tu, .int (nI k), .ref lk, .ref f1, .ref s2, .ref ms, .ref nx, .ref bs, .int fd])), (ow, .inl (cJ, 3, .inr (.inl (vp_updL (vp_updL fo 1 (mturned (fo 1) q wy)) 2 (mturned (fo 2) q wy))))), (cl, .inl (cI, 36, .inl cs)), (tu, .inl (cI, 36, .inl (upd ts (k - 1) (nI (2 * q + wy))))), (lk, .inl (cJ, 3, .inr (.inl lo))), (f1, .inl (cJ, 6, .inr (.inl ff))), (s2, .inl (cJ, 6, .inr (.inl sf))), (ms, .inl (cI, 6, .inl mm)), (nx, .inl (cI, 6, .inl nf)), (bs, .inl (cI, 6, .inl bf))] := hD
                refine lv_aload_n hx hb dX7_turn_78 rfl (lv_at hl 1 rfl) ?_
                refine lv_iconst (v := 0) hx hb dX7_turn_79 (by decide) ?_
                refine va_put (D := D) (ci := 4) (v := .int 0) (ty := .boolean) (C := RX7) (T := TX7) (N := 15) hx hb hts hinX7 tyX7 tyX7_ok nmX7 hown hK hP hD hS 0 rfl rfl 4 (by decide) hfl76 (fun _ h9 => h9) rfl (by decide +kernel) rfl rfl (Nat.le_of_ble_eq_true rfl) dX7_turn_80 (fun H locs hP hD hS => ?_)
                have hP : va_P D vwCl [(h0, .inr (4, [.int 0, .ref ow, .int 0, .int (nI w), .int 0, .ref cl, .ref tu, .int (nI k), .ref lk, .ref f1, .ref s2, .ref ms, .ref nx, .ref bs, .int fd])), (ow, .inl (cJ, 3, .inr (.inl (vp_updL (vp_updL fo 1 (mturned (fo 1) q wy)) 2 (mturned (fo 2) q wy))))), (cl, .inl (cI, 36, .inl cs)), (tu, .inl (cI, 36, .inl (upd ts (k - 1) (nI (2 * q + wy))))), (lk, .inl (cJ, 3, .inr (.inl lo))), (f1, .inl (cJ, 6, .inr (.inl ff))), (s2, .inl (cJ, 6, .inr (.inl sf))), (ms, .inl (cI, 6, .inl mm)), (nx, .inl (cI, 6, .inl nf)), (bs, .inl (cI, 6, .inl bf))] H := hP
                have hD : va_D A [(h0, .inr (4, [.int 0, .ref ow, .int 0, .int (nI w), .int 0, .ref cl, .ref tu, .int (nI k), .ref lk, .ref f1, .ref s2, .ref ms, .ref nx, .ref bs, .int fd])), (ow, .inl (cJ, 3, .inr (.inl (vp_updL (vp_updL fo 1 (mturned (fo 1) q wy)) 2 (mturned (fo 2) q wy))))), (cl, .inl (cI, 36, .inl cs)), (tu, .inl (cI, 36, .inl (upd ts (k - 1) (nI (2 * q + wy))))), (lk, .inl (cJ, 3, .inr (.inl lo))), (f1, .inl (cJ, 6, .inr (.inl ff))), (s2, .inl (cJ, 6, .inr (.inl sf))), (ms, .inl (cI, 6, .inl mm)), (nx, .inl (cI, 6, .inl nf)), (bs, .inl (cI, 6, .inl bf))] := hD
                refine lv_aload_n hx hb dX7_turn_83 rfl (lv_at hl 1 rfl) ?_
                refine lv_iconst (v := 3) hx hb dX7_turn_84 (by decide) ?_
                refine lv_aload_n hx hb dX7_turn_85 rfl (lv_at hl 1 rfl) ?_
                refine va_get (D := D) (ci := 4) (v := .int (nI w)) (C := RX7) (T := TX7) (N := 15) hx hb hts hinX7 hown hK hP 0 rfl rfl 3 (by decide) hfl13 (fun _ h9 => h9) rfl dX7_turn_86 ?_
                refine lv_isub hx hb dX7_turn_89 ?_
                refine pk_ti (y := nI (3 - w)) (pk_sub (a := 3) (b := w) (by omega)) ?_
                refine va_put (D := D) (ci := 4) (v := .int (nI (3 - w))) (ty := .int) (C := RX7) (T := TX7) (N := 15) hx hb hts hinX7 tyX7 tyX7_ok nmX7 hown hK hP hD hS 0 rfl rfl 3 (by decide) hfl13 (fun _ h9 => h9) rfl (by decide +kernel) rfl rfl (Nat.le_of_ble_eq_true rfl) dX7_turn_90 (fun H locs hP hD hS => ?_)
                have hP : va_P D vwCl [(h0, .inr (4, [.int 0, .ref ow, .int 0, .int (nI (3 - w)), .int 0, .ref cl, .ref tu, .int (nI k), .ref lk, .ref f1, .ref s2, .ref ms, .ref nx, .ref bs, .int fd])), (ow, .inl (cJ, 3, .inr (.inl (vp_updL (vp_updL fo 1 (mturned (fo 1) q wy)) 2 (mturned (fo 2) q wy))))), (cl, .inl (cI, 36, .inl cs)), (tu, .inl (cI, 36, .inl (upd ts (k - 1) (nI (2 * q + wy))))), (lk, .inl (cJ, 3, .inr (.inl lo))), (f1, .inl (cJ, 6, .inr (.inl ff))), (s2, .inl (cJ, 6, .inr (.inl sf))), (ms, .inl (cI, 6, .inl mm)), (nx, .inl (cI, 6, .inl nf)), (bs, .inl (cI, 6, .inl bf))] H := hP
                have hD : va_D A [(h0, .inr (4, [.int 0, .ref ow, .int 0, .int (nI (3 - w)), .int 0, .ref cl, .ref tu, .int (nI k), .ref lk, .ref f1, .ref s2, .ref ms, .ref nx, .ref bs, .int fd])), (ow, .inl (cJ, 3, .inr (.inl (vp_updL (vp_updL fo 1 (mturned (fo 1) q wy)) 2 (mturned (fo 2) q wy))))), (cl, .inl (cI, 36, .inl cs)), (tu, .inl (cI, 36, .inl (upd ts (k - 1) (nI (2 * q + wy))))), (lk, .inl (cJ, 3, .inr (.inl lo))), (f1, .inl (cJ, 6, .inr (.inl ff))), (s2, .inl (cJ, 6, .inr (.inl sf))), (ms, .inl (cI, 6, .inl mm)), (nx, .inl (cI, 6, .inl nf)), (bs, .inl (cI, 6, .inl bf))] := hD
                refine lv_aload_n hx hb dX7_turn_93 rfl (lv_at hl 1 rfl) ?_
                refine lv_aload_n hx hb dX7_turn_94 rfl (lv_at hl 1 rfl) ?_
                refine va_get (D := D) (ci := 4) (v := .ref ow) (C := RX7) (T := TX7) (N := 15) hx hb hts hinX7 hown hK hP 0 rfl rfl 1 (by decide) hfl7 (fun _ h9 => h9) rfl dX7_turn_95 ?_
                refine lv_iconst (v := 1) hx hb dX7_turn_98 (by decide) ?_
                refine va_lald hx hb hK hP 1 1 rfl rfl (vp_in_nI (n := 1) (N := 3) (by omega) (by decide)) dX7_turn_99 ?_
                refine pk_tl (y := (mturned (fo 1) q wy)) ((congrArg (vp_updL (vp_updL fo 1 (mturned (fo 1) q wy)) 2 (mturned (fo 2) q wy)) (pk_cl 1)).trans ((pk_uLn (by decide)).trans pk_uLs)) ?_
                refine lv_aload_n hx hb dX7_turn_100 rfl (lv_at hl 1 rfl) ?_
                refine va_get (D := D) (ci := 4) (v := .ref ow) (C := RX7) (T := TX7) (N := 15) hx hb hts hinX7 hown hK hP 0 rfl rfl 1 (by decide) hfl7 (fun _ h9 => h9) rfl dX7_turn_101 ?_
                refine lv_iconst (v := 2) hx hb dX7_turn_104 (by decide) ?_
                refine va_lald hx hb hK hP 1 1 rfl rfl (vp_in_nI (n := 2) (N := 3) (by omega) (by decide)) dX7_turn_105 ?_
                refine pk_tl (y := (mturned (fo 2) q wy)) ((congrArg (vp_updL (vp_updL fo 1 (mturned (fo 1) q wy)) 2 (mturned (fo 2) q wy)) (pk_cl 2)).trans (pk_uLs)) ?_
                refine vp_callSi (W.runS (As := [.long (mturned (fo 1) q wy), .long (mturned (fo 2) q wy)]) (rest := [.ref h0]) ⟨hx, hb, hml, hown, hts⟩ (c_X7_judge l (mturned (fo 1) q wy) (mturned (fo 2) q wy)) (va_cwS 2 hts gX7_turn_X7_judge rfl rfl rfl (by decide +kernel) ⟨Nat.le_of_ble_eq_true rfl, Nat.le_of_ble_eq_true rfl⟩) ⟨px_blind0, fun U hU hW => ⟨rfl, trivial⟩⟩ rfl rfl hl.1 rfl (lv_room (Nat.le_of_ble_eq_true rfl)) dX7_turn_106 ⟨(Nat.le_of_ble_eq_true rfl), (Nat.le_of_ble_eq_true rfl)⟩) (fun r106 er106 => ?_)
                obtain rfl := er106.symm
                refine va_put (D := D) (ci := 4) (v := .int (mjudge (mturned (fo 1) q wy) (mturned (fo 2) q wy))) (ty := .int) (C := RX7) (T := TX7) (N := 15) hx hb hts hinX7 tyX7 tyX7_ok nmX7 hown hK hP hD hS 0 rfl rfl 2 (by decide) hfl73 (fun _ h9 => h9) rfl (by decide +kernel) rfl rfl (Nat.le_of_ble_eq_true rfl) dX7_turn_109 (fun H locs hP hD hS => ?_)
                have hP : va_P D vwCl [(h0, .inr (4, [.int 0, .ref ow, .int (mjudge (mturned (fo 1) q wy) (mturned (fo 2) q wy)), .int (nI (3 - w)), .int 0, .ref cl, .ref tu, .int (nI k), .ref lk, .ref f1, .ref s2, .ref ms, .ref nx, .ref bs, .int fd])), (ow, .inl (cJ, 3, .inr (.inl (vp_updL (vp_updL fo 1 (mturned (fo 1) q wy)) 2 (mturned (fo 2) q wy))))), (cl, .inl (cI, 36, .inl cs)), (tu, .inl (cI, 36, .inl (upd ts (k - 1) (nI (2 * q + wy))))), (lk, .inl (cJ, 3, .inr (.inl lo))), (f1, .inl (cJ, 6, .inr (.inl ff))), (s2, .inl (cJ, 6, .inr (.inl sf))), (ms, .inl (cI, 6, .inl mm)), (nx, .inl (cI, 6, .inl nf)), (bs, .inl (cI, 6, .inl bf))] H := hP
                have hD : va_D A [(h0, .inr (4, [.int 0, .ref ow, .int (mjudge (mturned (fo 1) q wy) (mturned (fo 2) q wy)), .int (nI (3 - w)), .int 0, .ref cl, .ref tu, .int (nI k), .ref lk, .ref f1, .ref s2, .ref ms, .ref nx, .ref bs, .int fd])), (ow, .inl (cJ, 3, .inr (.inl (vp_updL (vp_updL fo 1 (mturned (fo 1) q wy)) 2 (mturned (fo 2) q wy))))), (cl, .inl (cI, 36, .inl cs)), (tu, .inl (cI, 36, .inl (upd ts (k - 1) (nI (2 * q + wy))))), (lk, .inl (cJ, 3, .inr (.inl lo))), (f1, .inl (cJ, 6, .inr (.inl ff))), (s2, .inl (cJ, 6, .inr (.inl sf))), (ms, .inl (cI, 6, .inl mm)), (nx, .inl (cI, 6, .inl nf)), (bs, .inl (cI, 6, .inl bf))] := hD
                refine lv_aload_n hx hb dX7_turn_112 rfl (lv_at hl 1 rfl) ?_
                refine va_get (D := D) (ci := 4) (v := .int (mjudge (mturned (fo 1) q wy) (mturned (fo 2) q wy))) (C := RX7) (T := TX7) (N := 15) hx hb hts hinX7 hown hK hP 0 rfl rfl 2 (by decide) hfl73 (fun _ h9 => h9) rfl dX7_turn_113 ?_
                refine W.iret (v := (mjudge (mturned (fo 1) q wy) (mturned (fo 2) q wy))) hx hb hr (fun tt ht hW => ⟨⟨(mjudge (mturned (fo 1) q wy) (mturned (fo 2) q wy)), (), rfl, ?_, by rw [ht]; exact hP, va_K.moved hW.alike hK, hD⟩, hS.F ht⟩) hS.2.2 dX7_turn_116
                exact rfl
              · exact absurd c51 (by decide)
            · exact absurd c40 (by decide)
        · exact absurd c22 (by decide)
      · exact absurd (w_ok hwy) b19
    · exact absurd c9 (by decide)
  · exact absurd (q_ok hq) b3

set_option maxHeartbeats 400000 in
set_option maxRecDepth 100000 in
theorem c_X7_undo_bad (l : Launch) (D : va_G) (cI cJ : ClassId) (sz : Nat) (h0 ow cl tu lk f1 s2 ms nx bs : Nat) (th re mt fd : Int32) (w : Nat) (fo lo ff sf : Nat → Int64) (cs ts mm nf bf : Nat → Int32)  : Met l yX7_undo wsX7_undo ({ frames := 3, cells := 0, slots := 0, locals := 73 } : Room) (va_Pc [.ref h0] (pv_C D cI cJ [(h0, .inr (4, [.int th, .ref ow, .int re, .int (nI w), .int mt, .ref cl, .ref tu, .int 0, .ref lk, .ref f1, .ref s2, .ref ms, .ref nx, .ref bs, .int fd])), (ow, .inl (cJ, 3, .inr (.inl fo))), (cl, .inl (cI, 36, .inl cs)), (tu, .inl (cI, 36, .inl ts)), (lk, .inl (cJ, 3, .inr (.inl lo))), (f1, .inl (cJ, 6, .inr (.inl ff))), (s2, .inl (cJ, 6, .inr (.inl sf))), (ms, .inl (cI, 6, .inl mm)), (nx, .inl (cI, 6, .inl nf)), (bs, .inl (cI, 6, .inl bf))] sz)) (va_Qi (fun (r : Int32) (u : Unit) => r = 0) (fun (u : Unit) => pv_B D cI cJ (va_A [(h0, .inr (4, [.int th, .ref ow, .int re, .int (nI w), .int mt, .ref cl, .ref tu, .int 0, .ref lk, .ref f1, .ref s2, .ref ms, .ref nx, .ref bs, .int fd])), (ow, .inl (cJ, 3, .inr (.inl fo))), (cl, .inl (cI, 36, .inl cs)), (tu, .inl (cI, 36, .inl ts)), (lk, .inl (cJ, 3, .inr (.inl lo))), (f1, .inl (cJ, 6, .inr (.inl ff))), (s2, .inl (cJ, 6, .inr (.inl sf))), (ms, .inl (cI, 6, .inl mm)), (nx, .inl (cI, 6, .inl nf)), (bs, .inl (cI, 6, .inl bf))] sz) [(h0, .inr (4, [.int 1, .ref ow, .int re, .int (nI w), .int mt, .ref cl, .ref tu, .int 0, .ref lk, .ref f1, .ref s2, .ref ms, .ref nx, .ref bs, .int fd])), (ow, .inl (cJ, 3, .inr (.inl fo))), (cl, .inl (cI, 36, .inl cs)), (tu, .inl (cI, 36, .inl ts)), (lk, .inl (cJ, 3, .inr (.inl lo))), (f1, .inl (cJ, 6, .inr (.inl ff))), (s2, .inl (cJ, 6, .inr (.inl sf))), (ms, .inl (cI, 6, .inl mm)), (nx, .inl (cI, 6, .inl nf)), (bs, .inl (cI, 6, .inl bf))]) (va_A [(h0, .inr (4, [.int th, .ref ow, .int re, .int (nI w), .int mt, .ref cl, .ref tu, .int 0, .ref lk, .ref f1, .ref s2, .ref ms, .ref nx, .ref bs, .int fd])), (ow, .inl (cJ, 3, .inr (.inl fo))), (cl, .inl (cI, 36, .inl cs)), (tu, .inl (cI, 36, .inl ts)), (lk, .inl (cJ, 3, .inr (.inl lo))), (f1, .inl (cJ, 6, .inr (.inl ff))), (s2, .inl (cJ, 6, .inr (.inl sf))), (ms, .inl (cI, 6, .inl mm)), (nx, .inl (cI, 6, .inl nf)), (bs, .inl (cI, 6, .inl bf))] sz)) 0 0 (va_A [(h0, .inr (4, [.int th, .ref ow, .int re, .int (nI w), .int mt, .ref cl, .ref tu, .int 0, .ref lk, .ref f1, .ref s2, .ref ms, .ref nx, .ref bs, .int fd])), (ow, .inl (cJ, 3, .inr (.inl fo))), (cl, .inl (cI, 36, .inl cs)), (tu, .inl (cI, 36, .inl ts)), (lk, .inl (cJ, 3, .inr (.inl lo))), (f1, .inl (cJ, 6, .inr (.inl ff))), (s2, .inl (cJ, 6, .inr (.inl sf))), (ms, .inl (cI, 6, .inl mm)), (nx, .inl (cI, 6, .inl nf)), (bs, .inl (cI, 6, .inl bf))] sz) := by
  refine Met.ofW (cc := cX7_undo) (maxL := 2) (ret := (some .boolean)) (by decide) rfl ?_
  intro p e s m args below meth c s₁ B hml hv
  obtain ⟨rfl, rfl, hP, hK, hD0⟩ := hv
  have hx := B.exec
  have hb := B.bytes
  have hr := B.returns
  have hts := atoms_spec (ws := wsX7_undo) B.pre
  have hown : s.vm.findClass RX7 = some m.cls := findClass_of_methodNamed B.named
  have hlocks := B.notSynchronized
  have hD := hD0.self (sz := s.heap.size)
  generalize hAe : va_A [(h0, .inr (4, [.int th, .ref ow, .int re, .int (nI w), .int mt, .ref cl, .ref tu, .int 0, .ref lk, .ref f1, .ref s2, .ref ms, .ref nx, .ref bs, .int fd])), (ow, .inl (cJ, 3, .inr (.inl fo))), (cl, .inl (cI, 36, .inl cs)), (tu, .inl (cI, 36, .inl ts)), (lk, .inl (cJ, 3, .inr (.inl lo))), (f1, .inl (cJ, 6, .inr (.inl ff))), (s2, .inl (cJ, 6, .inr (.inl sf))), (ms, .inl (cI, 6, .inl mm)), (nx, .inl (cI, 6, .inl nf)), (bs, .inl (cI, 6, .inl bf))] s.heap.size = A at hD ⊢
  have hA : ∀ q : Nat, s.heap.size ≤ q → A q := fun q h => by rw [← hAe]; exact Or.inr h
  have hS : va_S A s.heap s.heap [] := va_S.rf
  have hinX7 : ∀ w ∈ wsX70, w ∈ wsX7_undo := by decide +kernel
  have hfl83 : (Cond.fieldLink RX7 83 "TwistquadModel" "moves" "I").before ([.ref h0] : List Value).toArray s = true := hts _ (by decide +kernel)
  have hl := lv_entry ([.ref h0]) (n := 2) (Nat.le_of_ble_eq_true rfl)
  rw [lg_entry_eq]
  generalize (lg_sl ([.ref h0]) ++ List.replicate (2 - (lg_sl ([.ref h0])).length) Slot.unset).toArray = ls at hl ⊢
  have hl : lv_has ls 2 [(0, .ref h0)] := hl
  refine lv_aload_n hx hb dX7_undo_0 rfl (lv_at hl 0 rfl) ?_
  refine lv_aload_n hx hb dX7_undo_1 rfl (lv_at hl 0 rfl) ?_
  refine va_get (D := D) (ci := 4) (v := .int 0) (C := RX7) (T := TX7) (N := 15) hx hb hts hinX7 hown hK hP 0 rfl rfl 7 (by decide) hfl83 (fun _ h9 => h9) rfl dX7_undo_2 ?_
  refine lv_if_ne (tgt := 12) hx hb dX7_undo_5 (by decide) (fun c5 => ?_) (fun c5 => ?_)
  · exact absurd c5 (by decide)
  · refine lv_iconst (v := 1) hx hb dX7_undo_8 (by decide) ?_
    refine lv_goto (tgt := 13) hx hb dX7_undo_9 (by decide) ?_
    have hPc := hP.sub (ws' := [(h0, .inr (4, [.int th, .ref ow, .int re, .int (nI w), .int mt, .ref cl, .ref tu, .int 0, .ref lk, .ref f1, .ref s2, .ref ms, .ref nx, .ref bs, .int fd])), (ow, .inl (cJ, 3, .inr (.inl fo))), (cl, .inl (cI, 36, .inl cs)), (tu, .inl (cI, 36, .inl ts)), (lk, .inl (cJ, 3, .inr (.inl lo))), (f1, .inl (cJ, 6, .inr (.inl ff))), (s2, .inl (cJ, 6, .inr (.inl sf))), (ms, .inl (cI, 6, .inl mm)), (nx, .inl (cI, 6, .inl nf)), (bs, .inl (cI, 6, .inl bf))]) [0, 1, 2, 3, 4, 5, 6, 7, 8, 9] rfl
    have hDc := hD.sub (ws' := [(h0, .inr (4, [.int th, .ref ow, .int re, .int (nI w), .int mt, .ref cl, .ref tu, .int 0, .ref lk, .ref f1, .ref s2, .ref ms, .ref nx, .ref bs, .int fd])), (ow, .inl (cJ, 3, .inr (.inl fo))), (cl, .inl (cI, 36, .inl cs)), (tu, .inl (cI, 36, .inl ts)), (lk, .inl (cJ, 3, .inr (.inl lo))), (f1, .inl (cJ, 6, .inr (.inl ff))), (s2, .inl (cJ, 6, .inr (.inl sf))), (ms, .inl (cI, 6, .inl mm)), (nx, .inl (cI, 6, .inl nf)), (bs, .inl (cI, 6, .inl bf))]) [0, 1, 2, 3, 4, 5, 6, 7, 8, 9] (by decide) rfl
    have hFc := va_free (wc := [(h0, .inr (4, [.int th, .ref ow, .int re, .int (nI w), .int mt, .ref cl, .ref tu, .int 0, .ref lk, .ref f1, .ref s2, .ref ms, .ref nx, .ref bs, .int fd])), (ow, .inl (cJ, 3, .inr (.inl fo))), (cl, .inl (cI, 36, .inl cs)), (tu, .inl (cI, 36, .inl ts)), (lk, .inl (cJ, 3, .inr (.inl lo))), (f1, .inl (cJ, 6, .inr (.inl ff))), (s2, .inl (cJ, 6, .inr (.inl sf))), (ms, .inl (cI, 6, .inl mm)), (nx, .inl (cI, 6, .inl nf)), (bs, .inl (cI, 6, .inl bf))]) hD hS hA [0, 1, 2, 3, 4, 5, 6, 7, 8, 9] rfl
    refine va_calli (va_runV (As := [.int 1]) (rest := []) ⟨hx, hb, hml, hown, hts⟩ (c_X7_goesWell l D cI cJ s.heap.size  h0 ow cl tu lk f1 s2 ms nx bs th re mt fd w 0 fo lo ff sf cs ts mm nf bf 1) (cwV 1 hts gX7_undo_X7_goesWell rfl rfl rfl (by decide +kernel) ⟨Nat.le_of_ble_eq_true rfl, Nat.le_of_ble_eq_true rfl⟩) ⟨pv_blind, va_recv hK hPc (ci := 4) (q0 := 0) rfl rfl, fun U hU hW => ⟨rfl, by rw [hU], by rw [hU]; exact hPc, va_K.moved hW.alike hK, hDc.weaken (fun _ _ _ _ => trivial)⟩⟩ rfl rfl hl.1 rfl (lv_room (Nat.le_of_ble_eq_true rfl)) dX7_undo_13 ⟨(Nat.le_of_ble_eq_true rfl), (Nat.le_of_ble_eq_true rfl)⟩) hS (fun q _ h => hFc q h) hFc (fun r13 u t9 H1 locs hth hvm hw13 hB hz1 hk1 hS => ?_)
    try dsimp only at hw13
    obtain ⟨hP1, hK1, hD1⟩ := hB
    rw [hth] at hP1
    obtain ⟨hP, hD⟩ := va_join (wr := []) (w1 := [(h0, .inr (4, [.int 1, .ref ow, .int re, .int (nI w), .int mt, .ref cl, .ref tu, .int 0, .ref lk, .ref f1, .ref s2, .ref ms, .ref nx, .ref bs, .int fd])), (ow, .inl (cJ, 3, .inr (.inl fo))), (cl, .inl (cI, 36, .inl cs)), (tu, .inl (cI, 36, .inl ts)), (lk, .inl (cJ, 3, .inr (.inl lo))), (f1, .inl (cJ, 6, .inr (.inl ff))), (s2, .inl (cJ, 6, .inr (.inl sf))), (ms, .inl (cI, 6, .inl mm)), (nx, .inl (cI, 6, .inl nf)), (bs, .inl (cI, 6, .inl bf))]) hP hD [0, 1, 2, 3, 4, 5, 6, 7, 8, 9] [] rfl rfl (by decide) (by decide) hk1 hFc hP1 hD1
    generalize H1 = H at hP hS ⊢
    have hP : va_P D vwCl [(h0, .inr (4, [.int 1, .ref ow, .int re, .int (nI w), .int mt, .ref cl, .ref tu, .int 0, .ref lk, .ref f1, .ref s2, .ref ms, .ref nx, .ref bs, .int fd])), (ow, .inl (cJ, 3, .inr (.inl fo))), (cl, .inl (cI, 36, .inl cs)), (tu, .inl (cI, 36, .inl ts)), (lk, .inl (cJ, 3, .inr (.inl lo))), (f1, .inl (cJ, 6, .inr (.inl ff))), (s2, .inl (cJ, 6, .inr (.inl sf))), (ms, .inl (cI, 6, .inl mm)), (nx, .inl (cI, 6, .inl nf)), (bs, .inl (cI, 6, .inl bf))] H := hP.sub (ws' := [(h0, .inr (4, [.int 1, .ref ow, .int re, .int (nI w), .int mt, .ref cl, .ref tu, .int 0, .ref lk, .ref f1, .ref s2, .ref ms, .ref nx, .ref bs, .int fd])), (ow, .inl (cJ, 3, .inr (.inl fo))), (cl, .inl (cI, 36, .inl cs)), (tu, .inl (cI, 36, .inl ts)), (lk, .inl (cJ, 3, .inr (.inl lo))), (f1, .inl (cJ, 6, .inr (.inl ff))), (s2, .inl (cJ, 6, .inr (.inl sf))), (ms, .inl (cI, 6, .inl mm)), (nx, .inl (cI, 6, .inl nf)), (bs, .inl (cI, 6, .inl bf))]) [0, 1, 2, 3, 4, 5, 6, 7, 8, 9] rfl
    have hD : va_D A [(h0, .inr (4, [.int 1, .ref ow, .int re, .int (nI w), .int mt, .ref cl, .ref tu, .int 0, .ref lk, .ref f1, .ref s2, .ref ms, .ref nx, .ref bs, .int fd])), (ow, .inl (cJ, 3, .inr (.inl fo))), (cl, .inl (cI, 36, .inl cs)), (tu, .inl (cI, 36, .inl ts)), (lk, .inl (cJ, 3, .inr (.inl lo))), (f1, .inl (cJ, 6, .inr (.inl ff))), (s2, .inl (cJ, 6, .inr (.inl sf))), (ms, .inl (cI, 6, .inl mm)), (nx, .inl (cI, 6, .inl nf)), (bs, .inl (cI, 6, .inl bf))] := hD.sub (ws' := [(h0, .inr (4, [.int 1, .ref ow, .int re, .int (nI w), .int mt, .ref cl, .ref tu, .int 0, .ref lk, .ref f1, .ref s2, .ref ms, .ref nx, .ref bs, .int fd])), (ow, .inl (cJ, 3, .inr (.inl fo))), (cl, .inl (cI, 36, .inl cs)), (tu, .inl (cI, 36, .inl ts)), (lk, .inl (cJ, 3, .inr (.inl lo))), (f1, .inl (cJ, 6, .inr (.inl ff))), (s2, .inl (cJ, 6, .inr (.inl sf))), (ms, .inl (cI, 6, .inl mm)), (nx, .inl (cI, 6, .inl nf)), (bs, .inl (cI, 6, .inl bf))]) [0, 1, 2, 3, 4, 5, 6, 7, 8, 9] (by decide) rfl
    obtain rfl := hw13.symm
    refine pk_ti (y := 0) (if_neg (by decide)) ?_
    refine lv_if_ne (tgt := 21) hx hb dX7_undo_16 (by decide) (fun c16 => ?_) (fun c16 => ?_)
    · exact absurd c16 (by decide)
    · refine lv_iconst (v := 0) hx hb dX7_undo_19 (by decide) ?_
      refine W.zret (v := 0) hx hb hr (rfl) (fun tt ht hW => ⟨⟨0, (), rfl, ?_, by rw [ht]; exact hP, va_K.moved hW.alike hK, hD⟩, hS.F ht⟩) hS.2.2 dX7_undo_20
      exact rfl

set_option maxHeartbeats 400000 in
set_option maxRecDepth 100000 in
theorem c_X7_undo_turn (l : Launch) (D : va_G) (cI cJ : ClassId) (sz : Nat) (h0 ow cl tu lk f1 s2 ms nx bs : Nat) (th re mt fd : Int32) (w k : Nat) (fo lo ff sf : Nat → Int64) (cs ts mm nf bf : Nat → Int32) (tn : Nat) (htn : tn < 8) (hw : w = 1 ∨ w = 2) (hk : k ≤ 36) (hk0 : 0 < k) (ht9 : ts (k - 1) = nI tn) : Met l yX7_undo wsX7_undo ({ frames := 3, cells := 0, slots := 0, locals := 73 } : Room) (va_Pc [.ref h0] (pv_C D cI cJ [(h0, .inr (4, [.int th, .ref ow, .int re, .int (nI w), .int mt, .ref cl, .ref tu, .int (nI k), .ref lk, .ref f1, .ref s2, .ref ms, .ref nx, .ref bs, .int fd])), (ow, .inl (cJ, 3, .inr (.inl fo))), (cl, .inl (cI, 36, .inl cs)), (tu, .inl (cI, 36, .inl ts)), (lk, .inl (cJ, 3, .inr (.inl lo))), (f1, .inl (cJ, 6, .inr (.inl ff))), (s2, .inl (cJ, 6, .inr (.inl sf))), (ms, .inl (cI, 6, .inl mm)), (nx, .inl (cI, 6, .inl nf)), (bs, .inl (cI, 6, .inl bf))] sz)) (va_Qi (fun (r : Int32) (u : Unit) => r = 1) (fun (u : Unit) => pv_B D cI cJ (va_A [(h0, .inr (4, [.int th, .ref ow, .int re, .int (nI w), .int mt, .ref cl, .ref tu, .int (nI k), .ref lk, .ref f1, .ref s2, .ref ms, .ref nx, .ref bs, .int fd])), (ow, .inl (cJ, 3, .inr (.inl fo))), (cl, .inl (cI, 36, .inl cs)), (tu, .inl (cI, 36, .inl ts)), (lk, .inl (cJ, 3, .inr (.inl lo))), (f1, .inl (cJ, 6, .inr (.inl ff))), (s2, .inl (cJ, 6, .inr (.inl sf))), (ms, .inl (cI, 6, .inl mm)), (nx, .inl (cI, 6, .inl nf)), (bs, .inl (cI, 6, .inl bf))] sz) [(h0, .inr (4, [.int 0, .ref ow, .int 0, .int (nI (3 - w)), .int 1, .ref cl, .ref tu, .int (nI k), .ref lk, .ref f1, .ref s2, .ref ms, .ref nx, .ref bs, .int fd])), (ow, .inl (cJ, 3, .inr (.inl (vp_updL (vp_updL fo 1 (mturned (fo 1) (tn / 2) (1 - tn % 2))) 2 (mturned (fo 2) (tn / 2) (1 - tn % 2)))))), (cl, .inl (cI, 36, .inl cs)), (tu, .inl (cI, 36, .inl (upd ts (k - 1) (-1)))), (lk, .inl (cJ, 3, .inr (.inl lo))), (f1, .inl (cJ, 6, .inr (.inl ff))), (s2, .inl (cJ, 6, .inr (.inl sf))), (ms, .inl (cI, 6, .inl mm)), (nx, .inl (cI, 6, .inl nf)), (bs, .inl (cI, 6, .inl bf))]) (va_A [(h0, .inr (4, [.int th, .ref ow, .int re, .int (nI w), .int mt, .ref cl, .ref tu, .int (nI k), .ref lk, .ref f1, .ref s2, .ref ms, .ref nx, .ref bs, .int fd])), (ow, .inl (cJ, 3, .inr (.inl fo))), (cl, .inl (cI, 36, .inl cs)), (tu, .inl (cI, 36, .inl ts)), (lk, .inl (cJ, 3, .inr (.inl lo))), (f1, .inl (cJ, 6, .inr (.inl ff))), (s2, .inl (cJ, 6, .inr (.inl sf))), (ms, .inl (cI, 6, .inl mm)), (nx, .inl (cI, 6, .inl nf)), (bs, .inl (cI, 6, .inl bf))] sz)) 0 0 (va_A [(h0, .inr (4, [.int th, .ref ow, .int re, .int (nI w), .int mt, .ref cl, .ref tu, .int (nI k), .ref lk, .ref f1, .ref s2, .ref ms, .ref nx, .ref bs, .int fd])), (ow, .inl (cJ, 3, .inr (.inl fo))), (cl, .inl (cI, 36, .inl cs)), (tu, .inl (cI, 36, .inl ts)), (lk, .inl (cJ, 3, .inr (.inl lo))), (f1, .inl (cJ, 6, .inr (.inl ff))), (s2, .inl (cJ, 6, .inr (.inl sf))), (ms, .inl (cI, 6, .inl mm)), (nx, .inl (cI, 6, .inl nf)), (bs, .inl (cI, 6, .inl bf))] sz) := by
  refine Met.ofW (cc := cX7_undo) (maxL := 2) (ret := (some .boolean)) (by decide) rfl ?_
  intro p e s m args below meth c s₁ B hml hv
  obtain ⟨rfl, rfl, hP, hK, hD0⟩ := hv
  have hx := B.exec
  have hb := B.bytes
  have hr := B.returns
  have hts := atoms_spec (ws := wsX7_undo) B.pre
  have hown : s.vm.findClass RX7 = some m.cls := findClass_of_methodNamed B.named
  have hlocks := B.notSynchronized
  have hD := hD0.self (sz := s.heap.size)
  generalize hAe : va_A [(h0, .inr (4, [.int th, .ref ow, .int re, .int (nI w), .int mt, .ref cl, .ref tu, .int (nI k), .ref lk, .ref f1, .ref s2, .ref ms, .ref nx, .ref bs, .int fd])), (ow, .inl (cJ, 3, .inr (.inl fo))), (cl, .inl (cI, 36, .inl cs)), (tu, .inl (cI, 36, .inl ts)), (lk, .inl (cJ, 3, .inr (.inl lo))), (f1, .inl (cJ, 6, .inr (.inl ff))), (s2, .inl (cJ, 6, .inr (.inl sf))), (ms, .inl (cI, 6, .inl mm)), (nx, .inl (cI, 6, .inl nf)), (bs, .inl (cI, 6, .inl bf))] s.heap.size = A at hD ⊢
  have hA : ∀ q : Nat, s.heap.size ≤ q → A q := fun q h => by rw [← hAe]; exact Or.inr h
  have hS : va_S A s.heap s.heap [] := va_S.rf
  have hinX7 : ∀ w ∈ wsX70, w ∈ wsX7_undo := by decide +kernel
  have hfl83 : (Cond.fieldLink RX7 83 "TwistquadModel" "moves" "I").before ([.ref h0] : List Value).toArray s = true := hts _ (by decide +kernel)
  have hfl73 : (Cond.fieldLink RX7 73 "TwistquadModel" "result" "I").before ([.ref h0] : List Value).toArray s = true := hts _ (by decide +kernel)
  have hfl21 : (Cond.fieldLink RX7 21 "TwistquadModel" "turns" "[I").before ([.ref h0] : List Value).toArray s = true := hts _ (by decide +kernel)
  have hfl76 : (Cond.fieldLink RX7 76 "TwistquadModel" "mustTurn" "Z").before ([.ref h0] : List Value).toArray s = true := hts _ (by decide +kernel)
  have hfl13 : (Cond.fieldLink RX7 13 "TwistquadModel" "mover" "I").before ([.ref h0] : List Value).toArray s = true := hts _ (by decide +kernel)
  have hl := lv_entry ([.ref h0]) (n := 2) (Nat.le_of_ble_eq_true rfl)
  rw [lg_entry_eq]
  generalize (lg_sl ([.ref h0]) ++ List.replicate (2 - (lg_sl ([.ref h0])).length) Slot.unset).toArray = ls at hl ⊢
  have hl : lv_has ls 2 [(0, .ref h0)] := hl
  refine lv_aload_n hx hb dX7_undo_0 rfl (lv_at hl 0 rfl) ?_
  refine lv_aload_n hx hb dX7_undo_1 rfl (lv_at hl 0 rfl) ?_
  refine va_get (D := D) (ci := 4) (v := .int (nI k)) (C := RX7) (T := TX7) (N := 15) hx hb hts hinX7 hown hK hP 0 rfl rfl 7 (by decide) hfl83 (fun _ h9 => h9) rfl dX7_undo_2 ?_
  refine lv_if_ne (tgt := 12) hx hb dX7_undo_5 (by decide) (fun c5 => ?_) (fun c5 => ?_)
  · have c5 : ¬ k = 0 := _root_.mt (nq_eq (a := k) (b := 0) (by omega) (by omega)).mpr c5
    refine lv_iconst (v := 0) hx hb dX7_undo_12 (by decide) ?_
    have hPc := hP.sub (ws' := [(h0, .inr (4, [.int th, .ref ow, .int re, .int (nI w), .int mt, .ref cl, .ref tu, .int (nI k), .ref lk, .ref f1, .ref s2, .ref ms, .ref nx, .ref bs, .int fd])), (ow, .inl (cJ, 3, .inr (.inl fo))), (cl, .inl (cI, 36, .inl cs)), (tu, .inl (cI, 36, .inl ts)), (lk, .inl (cJ, 3, .inr (.inl lo))), (f1, .inl (cJ, 6, .inr (.inl ff))), (s2, .inl (cJ, 6, .inr (.inl sf))), (ms, .inl (cI, 6, .inl mm)), (nx, .inl (cI, 6, .inl nf)), (bs, .inl (cI, 6, .inl bf))]) [0, 1, 2, 3, 4, 5, 6, 7, 8, 9] rfl
    have hDc := hD.sub (ws' := [(h0, .inr (4, [.int th, .ref ow, .int re, .int (nI w), .int mt, .ref cl, .ref tu, .int (nI k), .ref lk, .ref f1, .ref s2, .ref ms, .ref nx, .ref bs, .int fd])), (ow, .inl (cJ, 3, .inr (.inl fo))), (cl, .inl (cI, 36, .inl cs)), (tu, .inl (cI, 36, .inl ts)), (lk, .inl (cJ, 3, .inr (.inl lo))), (f1, .inl (cJ, 6, .inr (.inl ff))), (s2, .inl (cJ, 6, .inr (.inl sf))), (ms, .inl (cI, 6, .inl mm)), (nx, .inl (cI, 6, .inl nf)), (bs, .inl (cI, 6, .inl bf))]) [0, 1, 2, 3, 4, 5, 6, 7, 8, 9] (by decide) rfl
    have hFc := va_free (wc := [(h0, .inr (4, [.int th, .ref ow, .int re, .int (nI w), .int mt, .ref cl, .ref tu, .int (nI k), .ref lk, .ref f1, .ref s2, .ref ms, .ref nx, .ref bs, .int fd])), (ow, .inl (cJ, 3, .inr (.inl fo))), (cl, .inl (cI, 36, .inl cs)), (tu, .inl (cI, 36, .inl ts)), (lk, .inl (cJ, 3, .inr (.inl lo))), (f1, .inl (cJ, 6, .inr (.inl ff))), (s2, .inl (cJ, 6, .inr (.inl sf))), (ms, .inl (cI, 6, .inl mm)), (nx, .inl (cI, 6, .inl nf)), (bs, .inl (cI, 6, .inl bf))]) hD hS hA [0, 1, 2, 3, 4, 5, 6, 7, 8, 9] rfl
    refine va_calli (va_runV (As := [.int 0]) (rest := []) ⟨hx, hb, hml, hown, hts⟩ (c_X7_goesWell l D cI cJ s.heap.size  h0 ow cl tu lk f1 s2 ms nx bs th re mt fd w k fo lo ff sf cs ts mm nf bf 0) (cwV 1 hts gX7_undo_X7_goesWell rfl rfl rfl (by decide +kernel) ⟨Nat.le_of_ble_eq_true rfl, Nat.le_of_ble_eq_true rfl⟩) ⟨pv_blind, va_recv hK hPc (ci := 4) (q0 := 0) rfl rfl, fun U hU hW => ⟨rfl, by rw [hU], by rw [hU]; exact hPc, va_K.moved hW.alike hK, hDc.weaken (fun _ _ _ _ => trivial)⟩⟩ rfl rfl hl.1 rfl (lv_room (Nat.le_of_ble_eq_true rfl)) dX7_undo_13 ⟨(Nat.le_of_ble_eq_true rfl), (Nat.le_of_ble_eq_true rfl)⟩) hS (fun q _ h => hFc q h) hFc (fun r13 u t9 H1 locs hth hvm hw13 hB hz1 hk1 hS => ?_)
    try dsimp only at hw13
    obtain ⟨hP1, hK1, hD1⟩ := hB
    rw [hth] at hP1
    obtain ⟨hP, hD⟩ := va_join (wr := []) (w1 := [(h0, .inr (4, [.int 0, .ref ow, .int re, .int (nI w), .int mt, .ref cl, .ref tu, .int (nI k), .ref lk, .ref f1, .ref s2, .ref ms, .ref nx, .ref bs, .int fd])), (ow, .inl (cJ, 3, .inr (.inl fo))), (cl, .inl (cI, 36, .inl cs)), (tu, .inl (cI, 36, .inl ts)), (lk, .inl (cJ, 3, .inr (.inl lo))), (f1, .inl (cJ, 6, .inr (.inl ff))), (s2, .inl (cJ, 6, .inr (.inl sf))), (ms, .inl (cI, 6, .inl mm)), (nx, .inl (cI, 6, .inl nf)), (bs, .inl (cI, 6, .inl bf))]) hP hD [0, 1, 2, 3, 4, 5, 6, 7, 8, 9] [] rfl rfl (by decide) (by decide) hk1 hFc hP1 hD1
    generalize H1 = H at hP hS ⊢
    have hP : va_P D vwCl [(h0, .inr (4, [.int 0, .ref ow, .int re, .int (nI w), .int mt, .ref cl, .ref tu, .int (nI k), .ref lk, .ref f1, .ref s2, .ref ms, .ref nx, .ref bs, .int fd])), (ow, .inl (cJ, 3, .inr (.inl fo))), (cl, .inl (cI, 36, .inl cs)), (tu, .inl (cI, 36, .inl ts)), (lk, .inl (cJ, 3, .inr (.inl lo))), (f1, .inl (cJ, 6, .inr (.inl ff))), (s2, .inl (cJ, 6, .inr (.inl sf))), (ms, .inl (cI, 6, .inl mm)), (nx, .inl (cI, 6, .inl nf)), (bs, .inl (cI, 6, .inl bf))] H := hP.sub (ws' := [(h0, .inr (4, [.int 0, .ref ow, .int re, .int (nI w), .int mt, .ref cl, .ref tu, .int (nI k), .ref lk, .ref f1, .ref s2, .ref ms, .ref nx, .ref bs, .int fd])), (ow, .inl (cJ, 3, .inr (.inl fo))), (cl, .inl (cI, 36, .inl cs)), (tu, .inl (cI, 36, .inl ts)), (lk, .inl (cJ, 3, .inr (.inl lo))), (f1, .inl (cJ, 6, .inr (.inl ff))), (s2, .inl (cJ, 6, .inr (.inl sf))), (ms, .inl (cI, 6, .inl mm)), (nx, .inl (cI, 6, .inl nf)), (bs, .inl (cI, 6, .inl bf))]) [0, 1, 2, 3, 4, 5, 6, 7, 8, 9] rfl
    have hD : va_D A [(h0, .inr (4, [.int 0, .ref ow, .int re, .int (nI w), .int mt, .ref cl, .ref tu, .int (nI k), .ref lk, .ref f1, .ref s2, .ref ms, .ref nx, .ref bs, .int fd])), (ow, .inl (cJ, 3, .inr (.inl fo))), (cl, .inl (cI, 36, .inl cs)), (tu, .inl (cI, 36, .inl ts)), (lk, .inl (cJ, 3, .inr (.inl lo))), (f1, .inl (cJ, 6, .inr (.inl ff))), (s2, .inl (cJ, 6, .inr (.inl sf))), (ms, .inl (cI, 6, .inl mm)), (nx, .inl (cI, 6, .inl nf)), (bs, .inl (cI, 6, .inl bf))] := hD.sub (ws' := [(h0, .inr (4, [.int 0, .ref ow, .int re, .int (nI w), .int mt, .ref cl, .ref tu, .int (nI k), .ref lk, .ref f1, .ref s2, .ref ms, .ref nx, .ref bs, .int fd])), (ow, .inl (cJ, 3, .inr (.inl fo))), (cl, .inl (cI, 36, .inl cs)), (tu, .inl (cI, 36, .inl ts)), (lk, .inl (cJ, 3, .inr (.inl lo))), (f1, .inl (cJ, 6, .inr (.inl ff))), (s2, .inl (cJ, 6, .inr (.inl sf))), (ms, .inl (cI, 6, .inl mm)), (nx, .inl (cI, 6, .inl nf)), (bs, .inl (cI, 6, .inl bf))]) [0, 1, 2, 3, 4, 5, 6, 7, 8, 9] (by decide) rfl
    obtain rfl := hw13.symm
    refine pk_ti (y := 1) (if_pos (by decide)) ?_
    refine lv_if_ne (tgt := 21) hx hb dX7_undo_16 (by decide) (fun c16 => ?_) (fun c16 => ?_)
    · refine lv_aload_n hx hb dX7_undo_21 rfl (lv_at hl 0 rfl) ?_
      refine lv_iconst (v := 0) hx hb dX7_undo_22 (by decide) ?_
      refine va_put (D := D) (ci := 4) (v := .int 0) (ty := .int) (C := RX7) (T := TX7) (N := 15) hx hb hts hinX7 tyX7 tyX7_ok nmX7 hown hK hP hD hS 0 rfl rfl 2 (by decide) hfl73 (fun _ h9 => h9) rfl (by decide +kernel) rfl rfl (Nat.le_of_ble_eq_true rfl) dX7_undo_23 (fun H locs hP hD hS => ?_)
      have hP : va_P D vwCl [(h0, .inr (4, [.int 0, .ref ow, .int 0, .int (nI w), .int mt, .ref cl, .ref tu, .int (nI k), .ref lk, .ref f1, .ref s2, .ref ms, .ref nx, .ref bs, .int fd])), (ow, .inl (cJ, 3, .inr (.inl fo))), (cl, .inl (cI, 36, .inl cs)), (tu, .inl (cI, 36, .inl ts)), (lk, .inl (cJ, 3, .inr (.inl lo))), (f1, .inl (cJ, 6, .inr (.inl ff))), (s2, .inl (cJ, 6, .inr (.inl sf))), (ms, .inl (cI, 6, .inl mm)), (nx, .inl (cI, 6, .inl nf)), (bs, .inl (cI, 6, .inl bf))] H := hP
      have hD : va_D A [(h0, .inr (4, [.int 0, .ref ow, .int 0, .int (nI w), .int mt, .ref cl, .ref tu, .int (nI k), .ref lk, .ref f1, .ref s2, .ref ms, .ref nx, .ref bs, .int fd])), (ow, .inl (cJ, 3, .inr (.inl fo))), (cl, .inl (cI, 36, .inl cs)), (tu, .inl (cI, 36, .inl ts)), (lk, .inl (cJ, 3, .inr (.inl lo))), (f1, .inl (cJ, 6, .inr (.inl ff))), (s2, .inl (cJ, 6, .inr (.inl sf))), (ms, .inl (cI, 6, .inl mm)), (nx, .inl (cI, 6, .inl nf)), (bs, .inl (cI, 6, .inl bf))] := hD
      refine lv_aload_n hx hb dX7_undo_26 rfl (lv_at hl 0 rfl) ?_
      refine va_get (D := D) (ci := 4) (v := .ref tu) (C := RX7) (T := TX7) (N := 15) hx hb hts hinX7 hown hK hP 0 rfl rfl 6 (by decide) hfl21 (fun _ h9 => h9) rfl dX7_undo_27 ?_
      refine lv_aload_n hx hb dX7_undo_30 rfl (lv_at hl 0 rfl) ?_
      refine va_get (D := D) (ci := 4) (v := .int (nI k)) (C := RX7) (T := TX7) (N := 15) hx hb hts hinX7 hown hK hP 0 rfl rfl 7 (by decide) hfl83 (fun _ h9 => h9) rfl dX7_undo_31 ?_
      refine lv_iconst (v := 1) hx hb dX7_undo_34 (by decide) ?_
      refine lv_isub hx hb dX7_undo_35 ?_
      refine pk_ti (y := nI (k - 1)) (pk_sub (a := k) (b := 1) (by omega)) ?_
      refine va_iald hx hb hK hP 3 0 rfl rfl (vp_in_nI (n := (k - 1)) (N := 36) (by omega) (by decide)) dX7_undo_36 ?_
      refine pk_ti (y := (nI tn)) ((congrArg ts (pk_cl (k - 1))).trans (ht9)) ?_
      refine lv_istore_n (lv' := [(1, .int (nI tn)), (0, .ref h0)]) hx hb dX7_undo_37 rfl hl (by decide) rfl (fun ls hl => ?_)
      refine lv_iload_n hx hb dX7_undo_38 rfl (lv_at hl 0 rfl) ?_
      refine lv_iconst (v := (-1)) hx hb dX7_undo_39 (by decide) ?_
      refine lv_icmp_eq (tgt := 84) hx hb dX7_undo_40 (by decide) (fun c40 => ?_) (fun c40 => ?_)
      · exact absurd c40 (nI_ne_m1 (by omega))
      · refine lv_aload_n hx hb dX7_undo_43 rfl (lv_at hl 1 rfl) ?_
        refine lv_iload_n hx hb dX7_undo_44 rfl (lv_at hl 0 rfl) ?_
        refine lv_iconst (v := 2) hx hb dX7_undo_45 (by decide) ?_
        refine lv_idiv hx hb dX7_undo_46 (by decide) ?_
        refine pk_ti (y := nI (tn / 2)) (pk_div (a := tn) (d := 2) (by omega) (by omega) (by omega)) ?_
        refine lv_iconst (v := 1) hx hb dX7_undo_47 (by decide) ?_
        refine lv_iload_n hx hb dX7_undo_48 rfl (lv_at hl 0 rfl) ?_
        refine lv_iconst (v := 2) hx hb dX7_undo_49 (by decide) ?_
        refine lv_irem hx hb dX7_undo_50 (by decide) ?_
        refine pk_ti (y := nI (tn % 2)) (pk_rem (a := tn) (d := 2) (by omega) (by omega) (by omega)) ?_
        refine lv_isub hx hb dX7_undo_51 ?_
        refine pk_ti (y := nI (1 - (tn % 2))) (pk_sub (a := 1) (b := (tn % 2)) (by omega)) ?_
        have hPc := hP.sub (ws' := [(h0, .inr (4, [.int 0, .ref ow, .int 0, .int (nI w), .int mt, .ref cl, .ref tu, .int (nI k), .ref lk, .ref f1, .ref s2, .ref ms, .ref nx, .ref bs, .int fd])), (ow, .inl (cJ, 3, .inr (.inl fo))), (cl, .inl (cI, 36, .inl cs)), (tu, .inl (cI, 36, .inl ts)), (lk, .inl (cJ, 3, .inr (.inl lo))), (f1, .inl (cJ, 6, .inr (.inl ff))), (s2, .inl (cJ, 6, .inr (.inl sf))), (ms, .inl (cI, 6, .inl mm)), (nx, .inl (cI, 6, .inl nf)), (bs, .inl (cI, 6, .inl bf))]) [0, 1, 2, 3, 4, 5, 6, 7, 8, 9] rfl
        have hDc := hD.sub (ws' := [(h0, .inr (4, [.int 0, .ref ow, .int 0, .int (nI w), .int mt, .ref cl, .ref tu, .int (nI k), .ref lk, .ref f1, .ref s2, .ref ms, .ref nx, .ref bs, .int fd])), (ow, .inl (cJ, 3, .inr (.inl fo))), (cl, .inl (cI, 36, .inl cs)), (tu, .inl (cI, 36, .inl ts)), (lk, .inl (cJ, 3, .inr (.inl lo))), (f1, .inl (cJ, 6, .inr (.inl ff))), (s2, .inl (cJ, 6, .inr (.inl sf))), (ms, .inl (cI, 6, .inl mm)), (nx, .inl (cI, 6, .inl nf)), (bs, .inl (cI, 6, .inl bf))]) [0, 1, 2, 3, 4, 5, 6, 7, 8, 9] (by decide) rfl
        have hFc := va_free (wc := [(h0, .inr (4, [.int 0, .ref ow, .int 0, .int (nI w), .int mt, .ref cl, .ref tu, .int (nI k), .ref lk, .ref f1, .ref s2, .ref ms, .ref nx, .ref bs, .int fd])), (ow, .inl (cJ, 3, .inr (.inl fo))), (cl, .inl (cI, 36, .inl cs)), (tu, .inl (cI, 36, .inl ts)), (lk, .inl (cJ, 3, .inr (.inl lo))), (f1, .inl (cJ, 6, .inr (.inl ff))), (s2, .inl (cJ, 6, .inr (.inl sf))), (ms, .inl (cI, 6, .inl mm)), (nx, .inl (cI, 6, .inl nf)), (bs, .inl (cI, 6, .inl bf))]) hD hS hA [0, 1, 2, 3, 4, 5, 6, 7, 8, 9] rfl
        refine va_callv (va_runV (As := [.int (nI (tn / 2)), .int (nI (1 - (tn % 2)))]) (rest := []) ⟨hx, hb, hml, hown, hts⟩ (c_X7_turnOwn l D cI cJ H.size  h0 ow cl tu lk f1 s2 ms nx bs 0 0 mt fd w k fo lo ff sf cs ts mm nf bf (tn / 2) (1 - (tn % 2)) (by omega) (by omega)) (cwV 2 hts gX7_undo_X7_turnOwn rfl rfl rfl (by decide +kernel) ⟨Nat.le_of_ble_eq_true rfl, Nat.le_of_ble_eq_true rfl⟩) ⟨pv_blind, va_recv hK hPc (ci := 4) (q0 := 0) rfl rfl, fun U hU hW => ⟨rfl, by rw [hU], by rw [hU]; exact hPc, va_K.moved hW.alike hK, hDc.weaken (fun _ _ _ _ => trivial)⟩⟩ rfl rfl hl.1 rfl (lv_room (Nat.le_of_ble_eq_true rfl)) dX7_undo_52 ⟨(Nat.le_of_ble_eq_true rfl), (Nat.le_of_ble_eq_true rfl)⟩) hS (fun q _ h => hFc q h) hFc (fun u t9 H1 locs hth hvm hw52 hB hz1 hk1 hS => ?_)
        try dsimp only at hw52
        obtain ⟨hP1, hK1, hD1⟩ := hB
        rw [hth] at hP1
        obtain ⟨hP, hD⟩ := va_join (wr := []) (w1 := [(h0, .inr (4, [.int 0, .ref ow, .int 0, .int (nI w), .int mt, .ref cl, .ref tu, .int (nI k), .ref lk, .ref f1, .ref s2, .ref ms, .ref nx, .ref bs, .int fd])), (ow, .inl (cJ, 3, .inr (.inl (vp_updL (vp_updL fo 1 (mturned (fo 1) (tn / 2) (1 - (tn % 2)))) 2 (mturned (fo 2) (tn / 2) (1 - (tn % 2))))))), (cl, .inl (cI, 36, .inl cs)), (tu, .inl (cI, 36, .inl ts)), (lk, .inl (cJ, 3, .inr (.inl lo))), (f1, .inl (cJ, 6, .inr (.inl ff))), (s2, .inl (cJ, 6, .inr (.inl sf))), (ms, .inl (cI, 6, .inl mm)), (nx, .inl (cI, 6, .inl nf)), (bs, .inl (cI, 6, .inl bf))]) hP hD [0, 1, 2, 3, 4, 5, 6, 7, 8, 9] [] rfl rfl (by decide) (by decide) hk1 hFc hP1 hD1
        generalize H1 = H at hP hS ⊢
        have hP : va_P D vwCl [(h0, .inr (4, [.int 0, .ref ow, .int 0, .int (nI w), .int mt, .ref cl, .ref tu, .int (nI k), .ref lk, .ref f1, .ref s2, .ref ms, .ref nx, .ref bs, .int fd])), (ow, .inl (cJ, 3, .inr (.inl (vp_updL (vp_updL fo 1 (mturned (fo 1) (tn / 2) (1 - (tn % 2)))) 2 (mturned (fo 2) (tn / 2) (1 - (tn % 2))))))), (cl, .inl (cI, 36, .inl cs)), (tu, .inl (cI, 36, .inl ts)), (lk, .inl (cJ, 3, .inr (.inl lo))), (f1, .inl (cJ, 6, .inr (.inl ff))), (s2, .inl (cJ, 6, .inr (.inl sf))), (ms, .inl (cI, 6, .inl mm)), (nx, .inl (cI, 6, .inl nf)), (bs, .inl (cI, 6, .inl bf))] H := hP.sub (ws' := [(h0, .inr (4, [.int 0, .ref ow, .int 0, .int (nI w), .int mt, .ref cl, .ref tu, .int (nI k), .ref lk, .ref f1, .ref s2, .ref ms, .ref nx, .ref bs, .int fd])), (ow, .inl (cJ, 3, .inr (.inl (vp_updL (vp_updL fo 1 (mturned (fo 1) (tn / 2) (1 - (tn % 2)))) 2 (mturned (fo 2) (tn / 2) (1 - (tn % 2))))))), (cl, .inl (cI, 36, .inl cs)), (tu, .inl (cI, 36, .inl ts)), (lk, .inl (cJ, 3, .inr (.inl lo))), (f1, .inl (cJ, 6, .inr (.inl ff))), (s2, .inl (cJ, 6, .inr (.inl sf))), (ms, .inl (cI, 6, .inl mm)), (nx, .inl (cI, 6, .inl nf)), (bs, .inl (cI, 6, .inl bf))]) [0, 1, 2, 3, 4, 5, 6, 7, 8, 9] rfl
        have hD : va_D A [(h0, .inr (4, [.int 0, .ref ow, .int 0, .int (nI w), .int mt, .ref cl, .ref tu, .int (nI k), .ref lk, .ref f1, .ref s2, .ref ms, .ref nx, .ref bs, .int fd])), (ow, .inl (cJ, 3, .inr (.inl (vp_updL (vp_updL fo 1 (mturned (fo 1) (tn / 2) (1 - (tn % 2)))) 2 (mturned (fo 2) (tn / 2) (1 - (tn % 2))))))), (cl, .inl (cI, 36, .inl cs)), (tu, .inl (cI, 36, .inl ts)), (lk, .inl (cJ, 3, .inr (.inl lo))), (f1, .inl (cJ, 6, .inr (.inl ff))), (s2, .inl (cJ, 6, .inr (.inl sf))), (ms, .inl (cI, 6, .inl mm)), (nx, .inl (cI, 6, .inl nf)), (bs, .inl (cI, 6, .inl bf))] := hD.sub (ws' := [(h0, .inr (4, [.int 0, .ref ow, .int 0, .int (nI w), .int mt, .ref cl, .ref tu, .int (nI k), .ref lk, .ref f1, .ref s2, .ref ms, .ref nx, .ref bs, .int fd])), (ow, .inl (cJ, 3, .inr (.inl (vp_updL (vp_updL fo 1 (mturned (fo 1) (tn / 2) (1 - (tn % 2)))) 2 (mturned (fo 2) (tn / 2) (1 - (tn % 2))))))), (cl, .inl (cI, 36, .inl cs)), (tu, .inl (cI, 36, .inl ts)), (lk, .inl (cJ, 3, .inr (.inl lo))), (f1, .inl (cJ, 6, .inr (.inl ff))), (s2, .inl (cJ, 6, .inr (.inl sf))), (ms, .inl (cI, 6, .inl mm)), (nx, .inl (cI, 6, .inl nf)), (bs, .inl (cI, 6, .inl bf))]) [0, 1, 2, 3, 4, 5, 6, 7, 8, 9] (by decide) rfl
        refine lv_aload_n hx hb dX7_undo_55 rfl (lv_at hl 1 rfl) ?_
        refine va_get (D := D) (ci := 4) (v := .ref tu) (C := RX7) (T := TX7) (N := 15) hx hb hts hinX7 hown hK hP 0 rfl rfl 6 (by decide) hfl21 (fun _ h9 => h9) rfl dX7_undo_56 ?_
        refine lv_aload_n hx hb dX7_undo_59 rfl (lv_at hl 1 rfl) ?_
        refine va_get (D := D) (ci := 4) (v := .int (nI k)) (C := RX7) (T := TX7) (N := 15) hx hb hts hinX7 hown hK hP 0 rfl rfl 7 (by decide) hfl83 (fun _ h9 => h9) rfl dX7_undo_60 ?_
        refine lv_iconst (v := 1) hx hb dX7_undo_63 (by decide) ?_
        refine lv_isub hx hb dX7_undo_64 ?_
        refine pk_ti (y := nI (k - 1)) (pk_sub (a := k) (b := 1) (by omega)) ?_
        refine lv_iconst (v := (-1)) hx hb dX7_undo_65 (by decide) ?_
        refine va_iast hx hb hK hP hD hS 3 0 rfl rfl (vp_in_nI (n := (k - 1)) (N := 36) (by omega) (by decide)) dX7_undo_66 (fun H locs hP hD hS => ?_)
        have hu66 : ((nI (k - 1)) : Int32).toNatClampNeg = k - 1 := pk_cl (k - 1)
        rw [hu66] at hP hD
        have hP : va_P D vwCl [(h0, .inr (4, [.int 0, .ref ow, .int 0, .int (nI w), .int mt, .ref cl, .ref tu, .int (nI k), .ref lk, .ref f1, .ref s2, .ref ms, .ref nx, .ref bs, .int fd])), (ow, .inl (cJ, 3, .inr (.inl (vp_updL (vp_updL fo 1 (mturned (fo 1) (tn / 2) (1 - (tn % 2)))) 2 (mturned (fo 2) (tn / 2) (1 - (tn % 2))))))), (cl, .inl (cI, 36, .inl cs)), (tu, .inl (cI, 36, .inl (upd ts (k - 1) (-1)))), (lk, .inl (cJ, 3, .inr (.inl lo))), (f1, .inl (cJ, 6, .inr (.inl ff))), (s2, .inl (cJ, 6, .inr (.inl sf))), (ms, .inl (cI, 6, .inl mm)), (nx, .inl (cI, 6, .inl nf)), (bs, .inl (cI, 6, .inl bf))] H := hP
        have hD : va_D A [(h0, .inr (4, [.int 0, .ref ow, .int 0, .int (nI w), .int mt, .ref cl, .ref tu, .int (nI k), .ref lk, .ref f1, .ref s2, .ref ms, .ref nx, .ref bs, .int fd])), (ow, .inl (cJ, 3, .inr (.inl (vp_updL (vp_updL fo 1 (mturned (fo 1) (tn / 2) (1 - (tn % 2)))) 2 (mturned (fo 2) (tn / 2) (1 - (tn % 2))))))), (cl, .inl (cI, 36, .inl cs)), (tu, .inl (cI, 36, .inl (upd ts (k - 1) (-1)))), (lk, .inl (cJ, 3, .inr (.inl lo))), (f1, .inl (cJ, 6, .inr (.inl ff))), (s2, .inl (cJ, 6, .inr (.inl sf))), (ms, .inl (cI, 6, .inl mm)), (nx, .inl (cI, 6, .inl nf)), (bs, .inl (cI, 6, .inl bf))] := hD
        refine lv_aload_n hx hb dX7_undo_67 rfl (lv_at hl 1 rfl) ?_
        refine lv_iconst (v := 1) hx hb dX7_undo_68 (by decide) ?_
        refine va_put (D := D) (ci := 4) (v := .int 1) (ty := .boolean) (C := RX7) (T := TX7) (N := 15) hx hb hts hinX7 tyX7 tyX7_ok nmX7 hown hK hP hD hS 0 rfl rfl 4 (by decide) hfl76 (fun _ h9 => h9) rfl (by decide +kernel) rfl rfl (Nat.le_of_ble_eq_true rfl) dX7_undo_69 (fun H locs hP hD hS => ?_)
        have hP : va_P D vwCl [(h0, .inr (4, [.int 0, .ref ow, .int 0, .int (nI w), .int 1, .ref cl, .ref tu, .int (nI k), .ref lk, .ref f1, .ref s2, .ref ms, .ref nx, .ref bs, .int fd])), (ow, .inl (cJ, 3, .inr (.inl (vp_updL (vp_updL fo 1 (mturned (fo 1) (tn / 2) (1 - (tn % 2)))) 2 (mturned (fo 2) (tn / 2) (1 - (tn % 2))))))), (cl, .inl (cI, 36, .inl cs)), (tu, .inl (cI, 36, .inl (upd ts (k - 1) (-1)))), (lk, .inl (cJ, 3, .inr (.inl lo))), (f1, .inl (cJ, 6, .inr (.inl ff))), (s2, .inl (cJ, 6, .inr (.inl sf))), (ms, .inl (cI, 6, .inl mm)), (nx, .inl (cI, 6, .inl nf)), (bs, .inl (cI, 6, .inl bf))] H := hP
        have hD : va_D A [(h0, .inr (4, [.int 0, .ref ow, .int 0, .int (nI w), .int 1, .ref cl, .ref tu, .int (nI k), .ref lk, .ref f1, .ref s2, .ref ms, .ref nx, .ref bs, .int fd])), (ow, .inl (cJ, 3, .inr (.inl (vp_updL (vp_updL fo 1 (mturned (fo 1) (tn / 2) (1 - (tn % 2)))) 2 (mturned (fo 2) (tn / 2) (1 - (tn % 2))))))), (cl, .inl (cI, 36, .inl cs)), (tu, .inl (cI, 36, .inl (upd ts (k - 1) (-1)))), (lk, .inl (cJ, 3, .inr (.inl lo))), (f1, .inl (cJ, 6, .inr (.inl ff))), (s2, .inl (cJ, 6, .inr (.inl sf))), (ms, .inl (cI, 6, .inl mm)), (nx, .inl (cI, 6, .inl nf)), (bs, .inl (cI, 6, .inl bf))] := hD
        refine lv_aload_n hx hb dX7_undo_72 rfl (lv_at hl 1 rfl) ?_
        refine lv_iconst (v := 3) hx hb dX7_undo_73 (by decide) ?_
        refine lv_aload_n hx hb dX7_undo_74 rfl (lv_at hl 1 rfl) ?_
        refine va_get (D := D) (ci := 4) (v := .int (nI w)) (C := RX7) (T := TX7) (N := 15) hx hb hts hinX7 hown hK hP 0 rfl rfl 3 (by decide) hfl13 (fun _ h9 => h9) rfl dX7_undo_75 ?_
        refine lv_isub hx hb dX7_undo_78 ?_
        refine pk_ti (y := nI (3 - w)) (pk_sub (a := 3) (b := w) (by omega)) ?_
        refine va_put (D := D) (ci := 4) (v := .int (nI (3 - w))) (ty := .int) (C := RX7) (T := TX7) (N := 15) hx hb hts hinX7 tyX7 tyX7_ok nmX7 hown hK hP hD hS 0 rfl rfl 3 (by decide) hfl13 (fun _ h9 => h9) rfl (by decide +kernel) rfl rfl (Nat.le_of_ble_eq_true rfl) dX7_undo_79 (fun H locs hP hD hS => ?_)
        have hP : va_P D vwCl [(h0, .inr (4, [.int 0, .ref ow, .int 0, .int (nI (3 - w)), .int 1, .ref cl, .ref tu, .int (nI k), .ref lk, .ref f1, .ref s2, .ref ms, .ref nx, .ref bs, .int fd])), (ow, .inl (cJ, 3, .inr (.inl (vp_updL (vp_updL fo 1 (mturned (fo 1) (tn / 2) (1 - (tn % 2)))) 2 (mturned (fo 2) (tn / 2) (1 - (tn % 2))))))), (cl, .inl (cI, 36, .inl cs)), (tu, .inl (cI, 36, .inl (upd ts (k - 1) (-1)))), (lk, .inl (cJ, 3, .inr (.inl lo))), (f1, .inl (cJ, 6, .inr (.inl ff))), (s2, .inl (cJ, 6, .inr (.inl sf))), (ms, .inl (cI, 6, .inl mm)), (nx, .inl (cI, 6, .inl nf)), (bs, .inl (cI, 6, .inl bf))] H := hP
        have hD : va_D A [(h0, .inr (4, [.int 0, .ref ow, .int 0, .int (nI (3 - w)), .int 1, .ref cl, .ref tu, .int (nI k), .ref lk, .ref f1, .ref s2, .ref ms, .ref nx, .ref bs, .int fd])), (ow, .inl (cJ, 3, .inr (.inl (vp_updL (vp_updL fo 1 (mturned (fo 1) (tn / 2) (1 - (tn % 2)))) 2 (mturned (fo 2) (tn / 2) (1 - (tn % 2))))))), (cl, .inl (cI, 36, .inl cs)), (tu, .inl (cI, 36, .inl (upd ts (k - 1) (-1)))), (lk, .inl (cJ, 3, .inr (.inl lo))), (f1, .inl (cJ, 6, .inr (.inl ff))), (s2, .inl (cJ, 6, .inr (.inl sf))), (ms, .inl (cI, 6, .inl mm)), (nx, .inl (cI, 6, .inl nf)), (bs, .inl (cI, 6, .inl bf))] := hD
        refine lv_iconst (v := 1) hx hb dX7_undo_82 (by decide) ?_
        refine W.zret (v := 1) hx hb hr (rfl) (fun tt ht hW => ⟨⟨1, (), rfl, ?_, by rw [ht]; exact hP, va_K.moved hW.alike hK, hD⟩, hS.F ht⟩) hS.2.2 dX7_undo_83
        exact rfl
    · exact absurd c16 (by decide)
  · have c5 : k = 0 := (nq_eq (a := k) (b := 0) (by omega) (by omega)).mp c5
    omega

set_option maxHeartbeats 400000 in
set_option maxRecDepth 100000 in
theorem c_X7_undo_marble (l : Launch) (D : va_G) (cI cJ : ClassId) (sz : Nat) (h0 ow cl tu lk f1 s2 ms nx bs : Nat) (th re mt fd : Int32) (w k : Nat) (fo lo ff sf : Nat → Int64) (cs ts mm nf bf : Nat → Int32) (j : Nat) (hj : j < 36) (hw : w = 1 ∨ w = 2) (hk : k ≤ 36) (hk0 : 0 < k) (ht9 : ts (k - 1) = (-1)) (hc9 : cs (k - 1) = nI j) : Met l yX7_undo wsX7_undo ({ frames := 3, cells := 0, slots := 0, locals := 73 } : Room) (va_Pc [.ref h0] (pv_C D cI cJ [(h0, .inr (4, [.int th, .ref ow, .int re, .int (nI w), .int mt, .ref cl, .ref tu, .int (nI k), .ref lk, .ref f1, .ref s2, .ref ms, .ref nx, .ref bs, .int fd])), (ow, .inl (cJ, 3, .inr (.inl fo))), (cl, .inl (cI, 36, .inl cs)), (tu, .inl (cI, 36, .inl ts)), (lk, .inl (cJ, 3, .inr (.inl lo))), (f1, .inl (cJ, 6, .inr (.inl ff))), (s2, .inl (cJ, 6, .inr (.inl sf))), (ms, .inl (cI, 6, .inl mm)), (nx, .inl (cI, 6, .inl nf)), (bs, .inl (cI, 6, .inl bf))] sz)) (va_Qi (fun (r : Int32) (u : Unit) => r = 0) (fun (u : Unit) => pv_B D cI cJ (va_A [(h0, .inr (4, [.int th, .ref ow, .int re, .int (nI w), .int mt, .ref cl, .ref tu, .int (nI k), .ref lk, .ref f1, .ref s2, .ref ms, .ref nx, .ref bs, .int fd])), (ow, .inl (cJ, 3, .inr (.inl fo))), (cl, .inl (cI, 36, .inl cs)), (tu, .inl (cI, 36, .inl ts)), (lk, .inl (cJ, 3, .inr (.inl lo))), (f1, .inl (cJ, 6, .inr (.inl ff))), (s2, .inl (cJ, 6, .inr (.inl sf))), (ms, .inl (cI, 6, .inl mm)), (nx, .inl (cI, 6, .inl nf)), (bs, .inl (cI, 6, .inl bf))] sz) [(h0, .inr (4, [.int 0, .ref ow, .int 0, .int (nI w), .int 0, .ref cl, .ref tu, .int (nI (k - 1)), .ref lk, .ref f1, .ref s2, .ref ms, .ref nx, .ref bs, .int fd])), (ow, .inl (cJ, 3, .inr (.inl (vp_updL fo w (fo w &&& (jshl 1 (nI j) ^^^ (-1))))))), (cl, .inl (cI, 36, .inl cs)), (tu, .inl (cI, 36, .inl ts)), (lk, .inl (cJ, 3, .inr (.inl lo))), (f1, .inl (cJ, 6, .inr (.inl ff))), (s2, .inl (cJ, 6, .inr (.inl sf))), (ms, .inl (cI, 6, .inl mm)), (nx, .inl (cI, 6, .inl nf)), (bs, .inl (cI, 6, .inl bf))]) (va_A [(h0, .inr (4, [.int th, .ref ow, .int re, .int (nI w), .int mt, .ref cl, .ref tu, .int (nI k), .ref lk, .ref f1, .ref s2, .ref ms, .ref nx, .ref bs, .int fd])), (ow, .inl (cJ, 3, .inr (.inl fo))), (cl, .inl (cI, 36, .inl cs)), (tu, .inl (cI, 36, .inl ts)), (lk, .inl (cJ, 3, .inr (.inl lo))), (f1, .inl (cJ, 6, .inr (.inl ff))), (s2, .inl (cJ, 6, .inr (.inl sf))), (ms, .inl (cI, 6, .inl mm)), (nx, .inl (cI, 6, .inl nf)), (bs, .inl (cI, 6, .inl bf))] sz)) 0 0 (va_A [(h0, .inr (4, [.int th, .ref ow, .int re, .int (nI w), .int mt, .ref cl, .ref tu, .int (nI k), .ref lk, .ref f1, .ref s2, .ref ms, .ref nx, .ref bs, .int fd])), (ow, .inl (cJ, 3, .inr (.inl fo))), (cl, .inl (cI, 36, .inl cs)), (tu, .inl (cI, 36, .inl ts)), (lk, .inl (cJ, 3, .inr (.inl lo))), (f1, .inl (cJ, 6, .inr (.inl ff))), (s2, .inl (cJ, 6, .inr (.inl sf))), (ms, .inl (cI, 6, .inl mm)), (nx, .inl (cI, 6, .inl nf)), (bs, .inl (cI, 6, .inl bf))] sz) := by
  refine Met.ofW (cc := cX7_undo) (maxL := 2) (ret := (some .boolean)) (by decide) rfl ?_
  intro p e s m args below meth c s₁ B hml hv
  obtain ⟨rfl, rfl, hP, hK, hD0⟩ := hv
  have hx := B.exec
  have hb := B.bytes
  have hr := B.returns
  have hts := atoms_spec (ws := wsX7_undo) B.pre
  have hown : s.vm.findClass RX7 = some m.cls := findClass_of_methodNamed B.named
  have hlocks := B.notSynchronized
  have hD := hD0.self (sz := s.heap.size)
  generalize hAe : va_A [(h0, .inr (4, [.int th, .ref ow, .int re, .int (nI w), .int mt, .ref cl, .ref tu, .int (nI k), .ref lk, .ref f1, .ref s2, .ref ms, .ref nx, .ref bs, .int fd])), (ow, .inl (cJ, 3, .inr (.inl fo))), (cl, .inl (cI, 36, .inl cs)), (tu, .inl (cI, 36, .inl ts)), (lk, .inl (cJ, 3, .inr (.inl lo))), (f1, .inl (cJ, 6, .inr (.inl ff))), (s2, .inl (cJ, 6, .inr (.inl sf))), (ms, .inl (cI, 6, .inl mm)), (nx, .inl (cI, 6, .inl nf)), (bs, .inl (cI, 6, .inl bf))] s.heap.size = A at hD ⊢
  have hA : ∀ q : Nat, s.heap.size ≤ q → A q := fun q h => by rw [← hAe]; exact Or.inr h
  have hS : va_S A s.heap s.heap [] := va_S.rf
  have hinX7 : ∀ w ∈ wsX70, w ∈ wsX7_undo := by decide +kernel
  have hfl83 : (Cond.fieldLink RX7 83 "TwistquadModel" "moves" "I").before ([.ref h0] : List Value).toArray s = true := hts _ (by decide +kernel)
  have hfl73 : (Cond.fieldLink RX7 73 "TwistquadModel" "result" "I").before ([.ref h0] : List Value).toArray s = true := hts _ (by decide +kernel)
  have hfl21 : (Cond.fieldLink RX7 21 "TwistquadModel" "turns" "[I").before ([.ref h0] : List Value).toArray s = true := hts _ (by decide +kernel)
  have hfl7 : (Cond.fieldLink RX7 7 "TwistquadModel" "own" "[J").before ([.ref h0] : List Value).toArray s = true := hts _ (by decide +kernel)
  have hfl13 : (Cond.fieldLink RX7 13 "TwistquadModel" "mover" "I").before ([.ref h0] : List Value).toArray s = true := hts _ (by decide +kernel)
  have hfl17 : (Cond.fieldLink RX7 17 "TwistquadModel" "cells" "[I").before ([.ref h0] : List Value).toArray s = true := hts _ (by decide +kernel)
  have hfl76 : (Cond.fieldLink RX7 76 "TwistquadModel" "mustTurn" "Z").before ([.ref h0] : List Value).toArray s = true := hts _ (by decide +kernel)
  have hl := lv_entry ([.ref h0]) (n := 2) (Nat.le_of_ble_eq_true rfl)
  rw [lg_entry_eq]
  generalize (lg_sl ([.ref h0]) ++ List.replicate (2 - (lg_sl ([.ref h0])).length) Slot.unset).toArray = ls at hl ⊢
  have hl : lv_has ls 2 [(0, .ref h0)] := hl
  refine lv_aload_n hx hb dX7_undo_0 rfl (lv_at hl 0 rfl) ?_
  refine lv_aload_n hx hb dX7_undo_1 rfl (lv_at hl 0 rfl) ?_
  refine va_get (D := D) (ci := 4) (v := .int (nI k)) (C := RX7) (T := TX7) (N := 15) hx hb hts hinX7 hown hK hP 0 rfl rfl 7 (by decide) hfl83 (fun _ h9 => h9) rfl dX7_undo_2 ?_
  refine lv_if_ne (tgt := 12) hx hb dX7_undo_5 (by decide) (fun c5 => ?_) (fun c5 => ?_)
  · have c5 : ¬ k = 0 := _root_.mt (nq_eq (a := k) (b := 0) (by omega) (by omega)).mpr c5
    refine lv_iconst (v := 0) hx hb dX7_undo_12 (by decide) ?_
    have hPc := hP.sub (ws' := [(h0, .inr (4, [.int th, .ref ow, .int re, .int (nI w), .int mt, .ref cl, .ref tu, .int (nI k), .ref lk, .ref f1, .ref s2, .ref ms, .ref nx, .ref bs, .int fd])), (ow, .inl (cJ, 3, .inr (.inl fo))), (cl, .inl (cI, 36, .inl cs)), (tu, .inl (cI, 36, .inl ts)), (lk, .inl (cJ, 3, .inr (.inl lo))), (f1, .inl (cJ, 6, .inr (.inl ff))), (s2, .inl (cJ, 6, .inr (.inl sf))), (ms, .inl (cI, 6, .inl mm)), (nx, .inl (cI, 6, .inl nf)), (bs, .inl (cI, 6, .inl bf))]) [0, 1, 2, 3, 4, 5, 6, 7, 8, 9] rfl
    have hDc := hD.sub (ws' := [(h0, .inr (4, [.int th, .ref ow, .int re, .int (nI w), .int mt, .ref cl, .ref tu, .int (nI k), .ref lk, .ref f1, .ref s2, .ref ms, .ref nx, .ref bs, .int fd])), (ow, .inl (cJ, 3, .inr (.inl fo))), (cl, .inl (cI, 36, .inl cs)), (tu, .inl (cI, 36, .inl ts)), (lk, .inl (cJ, 3, .inr (.inl lo))), (f1, .inl (cJ, 6, .inr (.inl ff))), (s2, .inl (cJ, 6, .inr (.inl sf))), (ms, .inl (cI, 6, .inl mm)), (nx, .inl (cI, 6, .inl nf)), (bs, .inl (cI, 6, .inl bf))]) [0, 1, 2, 3, 4, 5, 6, 7, 8, 9] (by decide) rfl
    have hFc := va_free (wc := [(h0, .inr (4, [.int th, .ref ow, .int re, .int (nI w), .int mt, .ref cl, .ref tu, .int (nI k), .ref lk, .ref f1, .ref s2, .ref ms, .ref nx, .ref bs, .int fd])), (ow, .inl (cJ, 3, .inr (.inl fo))), (cl, .inl (cI, 36, .inl cs)), (tu, .inl (cI, 36, .inl ts)), (lk, .inl (cJ, 3, .inr (.inl lo))), (f1, .inl (cJ, 6, .inr (.inl ff))), (s2, .inl (cJ, 6, .inr (.inl sf))), (ms, .inl (cI, 6, .inl mm)), (nx, .inl (cI, 6, .inl nf)), (bs, .inl (cI, 6, .inl bf))]) hD hS hA [0, 1, 2, 3, 4, 5, 6, 7, 8, 9] rfl
    refine va_calli (va_runV (As := [.int 0]) (rest := []) ⟨hx, hb, hml, hown, hts⟩ (c_X7_goesWell l D cI cJ s.heap.size  h0 ow cl tu lk f1 s2 ms nx bs th re mt fd w k fo lo ff sf cs ts mm nf bf 0) (cwV 1 hts gX7_undo_X7_goesWell rfl rfl rfl (by decide +kernel) ⟨Nat.le_of_ble_eq_true rfl, Nat.le_of_ble_eq_true rfl⟩) ⟨pv_blind, va_recv hK hPc (ci := 4) (q0 := 0) rfl rfl, fun U hU hW => ⟨rfl, by rw [hU], by rw [hU]; exact hPc, va_K.moved hW.alike hK, hDc.weaken (fun _ _ _ _ => trivial)⟩⟩ rfl rfl hl.1 rfl (lv_room (Nat.le_of_ble_eq_true rfl)) dX7_undo_13 ⟨(Nat.le_of_ble_eq_true rfl), (Nat.le_of_ble_eq_true rfl)⟩) hS (fun q _ h => hFc q h) hFc (fun r13 u t9 H1 locs hth hvm hw13 hB hz1 hk1 hS => ?_)
    try dsimp only at hw13
    obtain ⟨hP1, hK1, hD1⟩ := hB
    rw [hth] at hP1
    obtain ⟨hP, hD⟩ := va_join (wr := []) (w1 := [(h0, .inr (4, [.int 0, .ref ow, .int re, .int (nI w), .int mt, .ref cl, .ref tu, .int (nI k), .ref lk, .ref f1, .ref s2, .ref ms, .ref nx, .ref bs, .int fd])), (ow, .inl (cJ, 3, .inr (.inl fo))), (cl, .inl (cI, 36, .inl cs)), (tu, .inl (cI, 36, .inl ts)), (lk, .inl (cJ, 3, .inr (.inl lo))), (f1, .inl (cJ, 6, .inr (.inl ff))), (s2, .inl (cJ, 6, .inr (.inl sf))), (ms, .inl (cI, 6, .inl mm)), (nx, .inl (cI, 6, .inl nf)), (bs, .inl (cI, 6, .inl bf))]) hP hD [0, 1, 2, 3, 4, 5, 6, 7, 8, 9] [] rfl rfl (by decide) (by decide) hk1 hFc hP1 hD1
    generalize H1 = H at hP hS ⊢
    have hP : va_P D vwCl [(h0, .inr (4, [.int 0, .ref ow, .int re, .int (nI w), .int mt, .ref cl, .ref tu, .int (nI k), .ref lk, .ref f1, .ref s2, .ref ms, .ref nx, .ref bs, .int fd])), (ow, .inl (cJ, 3, .inr (.inl fo))), (cl, .inl (cI, 36, .inl cs)), (tu, .inl (cI, 36, .inl ts)), (lk, .inl (cJ, 3, .inr (.inl lo))), (f1, .inl (cJ, 6, .inr (.inl ff))), (s2, .inl (cJ, 6, .inr (.inl sf))), (ms, .inl (cI, 6, .inl mm)), (nx, .inl (cI, 6, .inl nf)), (bs, .inl (cI, 6, .inl bf))] H := hP.sub (ws' := [(h0, .inr (4, [.int 0, .ref ow, .int re, .int (nI w), .int mt, .ref cl, .ref tu, .int (nI k), .ref lk, .ref f1, .ref s2, .ref ms, .ref nx, .ref bs, .int fd])), (ow, .inl (cJ, 3, .inr (.inl fo))), (cl, .inl (cI, 36, .inl cs)), (tu, .inl (cI, 36, .inl ts)), (lk, .inl (cJ, 3, .inr (.inl lo))), (f1, .inl (cJ, 6, .inr (.inl ff))), (s2, .inl (cJ, 6, .inr (.inl sf))), (ms, .inl (cI, 6, .inl mm)), (nx, .inl (cI, 6, .inl nf)), (bs, .inl (cI, 6, .inl bf))]) [0, 1, 2, 3, 4, 5, 6, 7, 8, 9] rfl
    have hD : va_D A [(h0, .inr (4, [.int 0, .ref ow, .int re, .int (nI w), .int mt, .ref cl, .ref tu, .int (nI k), .ref lk, .ref f1, .ref s2, .ref ms, .ref nx, .ref bs, .int fd])), (ow, .inl (cJ, 3, .inr (.inl fo))), (cl, .inl (cI, 36, .inl cs)), (tu, .inl (cI, 36, .inl ts)), (lk, .inl (cJ, 3, .inr (.inl lo))), (f1, .inl (cJ, 6, .inr (.inl ff))), (s2, .inl (cJ, 6, .inr (.inl sf))), (ms, .inl (cI, 6, .inl mm)), (nx, .inl (cI, 6, .inl nf)), (bs, .inl (cI, 6, .inl bf))] := hD.sub (ws' := [(h0, .inr (4, [.int 0, .ref ow, .int re, .int (nI w), .int mt, .ref cl, .ref tu, .int (nI k), .ref lk, .ref f1, .ref s2, .ref ms, .ref nx, .ref bs, .int fd])), (ow, .inl (cJ, 3, .inr (.inl fo))), (cl, .inl (cI, 36, .inl cs)), (tu, .inl (cI, 36, .inl ts)), (lk, .inl (cJ, 3, .inr (.inl lo))), (f1, .inl (cJ, 6, .inr (.inl ff))), (s2, .inl (cJ, 6, .inr (.inl sf))), (ms, .inl (cI, 6, .inl mm)), (nx, .inl (cI, 6, .inl nf)), (bs, .inl (cI, 6, .inl bf))]) [0, 1, 2, 3, 4, 5, 6, 7, 8, 9] (by decide) rfl
    obtain rfl := hw13.symm
    refine pk_ti (y := 1) (if_pos (by decide)) ?_
    refine lv_if_ne (tgt := 21) hx hb dX7_undo_16 (by decide) (fun c16 => ?_) (fun c16 => ?_)
    · refine lv_aload_n hx hb dX7_undo_21 rfl (lv_at hl 0 rfl) ?_
      refine lv_iconst (v := 0) hx hb dX7_undo_22 (by decide) ?_
      refine va_put (D := D) (ci := 4) (v := .int 0) (ty := .int) (C := RX7) (T := TX7) (N := 15) hx hb hts hinX7 tyX7 tyX7_ok nmX7 hown hK hP hD hS 0 rfl rfl 2 (by decide) hfl73 (fun _ h9 => h9) rfl (by decide +kernel) rfl rfl (Nat.le_of_ble_eq_true rfl) dX7_undo_23 (fun H locs hP hD hS => ?_)
      have hP : va_P D vwCl [(h0, .inr (4, [.int 0, .ref ow, .int 0, .int (nI w), .int mt, .ref cl, .ref tu, .int (nI k), .ref lk, .ref f1, .ref s2, .ref ms, .ref nx, .ref bs, .int fd])), (ow, .inl (cJ, 3, .inr (.inl fo))), (cl, .inl (cI, 36, .inl cs)), (tu, .inl (cI, 36, .inl ts)), (lk, .inl (cJ, 3, .inr (.inl lo))), (f1, .inl (cJ, 6, .inr (.inl ff))), (s2, .inl (cJ, 6, .inr (.inl sf))), (ms, .inl (cI, 6, .inl mm)), (nx, .inl (cI, 6, .inl nf)), (bs, .inl (cI, 6, .inl bf))] H := hP
      have hD : va_D A [(h0, .inr (4, [.int 0, .ref ow, .int 0, .int (nI w), .int mt, .ref cl, .ref tu, .int (nI k), .ref lk, .ref f1, .ref s2, .ref ms, .ref nx, .ref bs, .int fd])), (ow, .inl (cJ, 3, .inr (.inl fo))), (cl, .inl (cI, 36, .inl cs)), (tu, .inl (cI, 36, .inl ts)), (lk, .inl (cJ, 3, .inr (.inl lo))), (f1, .inl (cJ, 6, .inr (.inl ff))), (s2, .inl (cJ, 6, .inr (.inl sf))), (ms, .inl (cI, 6, .inl mm)), (nx, .inl (cI, 6, .inl nf)), (bs, .inl (cI, 6, .inl bf))] := hD
      refine lv_aload_n hx hb dX7_undo_26 rfl (lv_at hl 0 rfl) ?_
      refine va_get (D := D) (ci := 4) (v := .ref tu) (C := RX7) (T := TX7) (N := 15) hx hb hts hinX7 hown hK hP 0 rfl rfl 6 (by decide) hfl21 (fun _ h9 => h9) rfl dX7_undo_27 ?_
      refine lv_aload_n hx hb dX7_undo_30 rfl (lv_at hl 0 rfl) ?_
      refine va_get (D := D) (ci := 4) (v := .int (nI k)) (C := RX7) (T := TX7) (N := 15) hx hb hts hinX7 hown hK hP 0 rfl rfl 7 (by decide) hfl83 (fun _ h9 => h9) rfl dX7_undo_31 ?_
      refine lv_iconst (v := 1) hx hb dX7_undo_34 (by decide) ?_
      refine lv_isub hx hb dX7_undo_35 ?_
      refine pk_ti (y := nI (k - 1)) (pk_sub (a := k) (b := 1) (by omega)) ?_
      refine va_iald hx hb hK hP 3 0 rfl rfl (vp_in_nI (n := (k - 1)) (N := 36) (by omega) (by decide)) dX7_undo_36 ?_
      refine pk_ti (y := (-1)) ((congrArg ts (pk_cl (k - 1))).trans (ht9)) ?_
      refine lv_istore_n (lv' := [(1, .int (-1)), (0, .ref h0)]) hx hb dX7_undo_37 rfl hl (by decide) rfl (fun ls hl => ?_)
      refine lv_iload_n hx hb dX7_undo_38 rfl (lv_at hl 0 rfl) ?_
      refine lv_iconst (v := (-1)) hx hb dX7_undo_39 (by decide) ?_
      refine lv_icmp_eq (tgt := 84) hx hb dX7_undo_40 (by decide) (fun c40 => ?_) (fun c40 => ?_)
      · refine lv_aload_n hx hb dX7_undo_84 rfl (lv_at hl 1 rfl) ?_
        refine lv_dup hx hb dX7_undo_85 rfl ?_
        refine va_get (D := D) (ci := 4) (v := .int (nI k)) (C := RX7) (T := TX7) (N := 15) hx hb hts hinX7 hown hK hP 0 rfl rfl 7 (by decide) hfl83 (fun _ h9 => h9) rfl dX7_undo_86 ?_
        refine lv_iconst (v := 1) hx hb dX7_undo_89 (by decide) ?_
        refine lv_isub hx hb dX7_undo_90 ?_
        refine pk_ti (y := nI (k - 1)) (pk_sub (a := k) (b := 1) (by omega)) ?_
        refine va_put (D := D) (ci := 4) (v := .int (nI (k - 1))) (ty := .int) (C := RX7) (T := TX7) (N := 15) hx hb hts hinX7 tyX7 tyX7_ok nmX7 hown hK hP hD hS 0 rfl rfl 7 (by decide) hfl83 (fun _ h9 => h9) rfl (by decide +kernel) rfl rfl (Nat.le_of_ble_eq_true rfl) dX7_undo_91 (fun H locs hP hD hS => ?_)
        have hP : va_P D vwCl [(h0, .inr (4, [.int 0, .ref ow, .int 0, .int (nI w), .int mt, .ref cl, .ref tu, .int (nI (k - 1)), .ref lk, .ref f1, .ref s2, .ref ms, .ref nx, .ref bs, .int fd])), (ow, .inl (cJ, 3, .inr (.inl fo))), (cl, .inl (cI, 36, .inl cs)), (tu, .inl (cI, 36, .inl ts)), (lk, .inl (cJ, 3, .inr (.inl lo))), (f1, .inl (cJ, 6, .inr (.inl ff))), (s2, .inl (cJ, 6, .inr (.inl sf))), (ms, .inl (cI, 6, .inl mm)), (nx, .inl (cI, 6, .inl nf)), (bs, .inl (cI, 6, .inl bf))] H := hP
        have hD : va_D A [(h0, .inr (4, [.int 0, .ref ow, .int 0, .int (nI w), .int mt, .ref cl, .ref tu, .int (nI (k - 1)), .ref lk, .ref f1, .ref s2, .ref ms, .ref nx, .ref bs, .int fd])), (ow, .inl (cJ, 3, .inr (.inl fo))), (cl, .inl (cI, 36, .inl cs)), (tu, .inl (cI, 36, .inl ts)), (lk, .inl (cJ, 3, .inr (.inl lo))), (f1, .inl (cJ, 6, .inr (.inl ff))), (s2, .inl (cJ, 6, .inr (.inl sf))), (ms, .inl (cI, 6, .inl mm)), (nx, .inl (cI, 6, .inl nf)), (bs, .inl (cI, 6, .inl bf))] := hD
        refine lv_aload_n hx hb dX7_undo_94 rfl (lv_at hl 1 rfl) ?_
        refine va_get (D := D) (ci := 4) (v := .ref ow) (C := RX7) (T := TX7) (N := 15) hx hb hts hinX7 hown hK hP 0 rfl rfl 1 (by decide) hfl7 (fun _ h9 => h9) rfl dX7_undo_95 ?_
        refine lv_aload_n hx hb dX7_undo_98 rfl (lv_at hl 1 rfl) ?_
        refine va_get (D := D) (ci := 4) (v := .int (nI w)) (C := RX7) (T := TX7) (N := 15) hx hb hts hinX7 hown hK hP 0 rfl rfl 3 (by decide) hfl13 (fun _ h9 => h9) rfl dX7_undo_99 ?_
        refine lv_dup2_11 hx hb dX7_undo_102 rfl rfl ?_
        refine va_lald hx hb hK hP 1 1 rfl rfl (vp_in_nI (n := w) (N := 3) (by omega) (by decide)) dX7_undo_103 ?_
        refine pk_tl (y := (fo w)) (congrArg fo (pk_cl w)) ?_
        refine lv_lconst (v := 1) hx hb dX7_undo_104 (by decide) ?_
        refine lv_aload_n hx hb dX7_undo_105 rfl (lv_at hl 1 rfl) ?_
        refine va_get (D := D) (ci := 4) (v := .ref cl) (C := RX7) (T := TX7) (N := 15) hx hb hts hinX7 hown hK hP 0 rfl rfl 5 (by decide) hfl17 (fun _ h9 => h9) rfl dX7_undo_106 ?_
        refine lv_aload_n hx hb dX7_undo_109 rfl (lv_at hl 1 rfl) ?_
        refine va_get (D := D) (ci := 4) (v := .int (nI (k - 1))) (C := RX7) (T := TX7) (N := 15) hx hb hts hinX7 hown hK hP 0 rfl rfl 7 (by decide) hfl83 (fun _ h9 => h9) rfl dX7_undo_110 ?_
        refine va_iald hx hb hK hP 2 0 rfl rfl (vp_in_nI (n := (k - 1)) (N := 36) (by omega) (by decide)) dX7_undo_113 ?_
        refine pk_ti (y := (nI j)) ((congrArg cs (pk_cl (k - 1))).trans (hc9)) ?_
        refine lv_lshl (v := jshl 1 (nI j)) hx hb dX7_undo_114 rfl ?_
        refine lv_topl (fun x114 ex114 => ?_)
        refine lv_ldc2 (v := (-1)) hx hb hown (hts (.constantLong RX7 61 (-1)) (by decide +kernel)) dX7_undo_115 ?_
        refine lv_lxor hx hb dX7_undo_118 ?_
        refine lv_topl (fun x118 ex118 => ?_)
        refine lv_land hx hb dX7_undo_119 ?_
        refine lv_topl (fun x119 ex119 => ?_)
        refine va_last hx hb hK hP hD hS 1 1 rfl rfl (vp_in_nI (n := w) (N := 3) (by omega) (by decide)) dX7_undo_120 (fun H locs hP hD hS => ?_)
        have hu120 : ((nI w) : Int32).toNatClampNeg = w := pk_cl w
        rw [hu120] at hP hD
        have hP : va_P D vwCl [(h0, .inr (4, [.int 0, .ref ow, .int 0, .int (nI w), .int mt, .ref cl, .ref tu, .int (nI (k - 1)), .ref lk, .ref f1, .ref s2, .ref ms, .ref nx, .ref bs, .int fd])), (ow, .inl (cJ, 3, .inr (.inl (vp_updL fo w x119)))), (cl, .inl (cI, 36, .inl cs)), (tu, .inl (cI, 36, .inl ts)), (lk, .inl (cJ, 3, .inr (.inl lo))), (f1, .inl (cJ, 6, .inr (.inl ff))), (s2, .inl (cJ, 6, .inr (.inl sf))), (ms, .inl (cI, 6, .inl mm)), (nx, .inl (cI, 6, .inl nf)), (bs, .inl (cI, 6, .inl bf))] H := hP
        have hD : va_D A [(h0, .inr (4, [.int 0, .ref ow, .int 0, .int (nI w), .int mt, .ref cl, .ref tu, .int (nI (k - 1)), .ref lk, .ref f1, .ref s2, .ref ms, .ref nx, .ref bs, .int fd])), (ow, .inl (cJ, 3, .inr (.inl (vp_updL fo w x119)))), (cl, .inl (cI, 36, .inl cs)), (tu, .inl (cI, 36, .inl ts)), (lk, .inl (cJ, 3, .inr (.inl lo))), (f1, .inl (cJ, 6, .inr (.inl ff))), (s2, .inl (cJ, 6, .inr (.inl sf))), (ms, .inl (cI, 6, .inl mm)), (nx, .inl (cI, 6, .inl nf)), (bs, .inl (cI, 6, .inl bf))] := hD
        refine lv_aload_n hx hb dX7_undo_121 rfl (lv_at hl 1 rfl) ?_
        refine lv_iconst (v := 0) hx hb dX7_undo_122 (by decide) ?_
        refine va_put (D := D) (ci := 4) (v := .int 0) (ty := .boolean) (C := RX7) (T := TX7) (N := 15) hx hb hts hinX7 tyX7 tyX7_ok nmX7 hown hK hP hD hS 0 rfl rfl 4 (by decide) hfl76 (fun _ h9 => h9) rfl (by decide +kernel) rfl rfl (Nat.le_of_ble_eq_true rfl) dX7_undo_123 (fun H locs hP hD hS => ?_)
        have hP : va_P D vwCl [(h0, .inr (4, [.int 0, .ref ow, .int 0, .int (nI w), .int 0, .ref cl, .ref tu, .int (nI (k - 1)), .ref lk, .ref f1, .ref s2, .ref ms, .ref nx, .ref bs, .int fd])), (ow, .inl (cJ, 3, .inr (.inl (vp_updL fo w x119)))), (cl, .inl (cI, 36, .inl cs)), (tu, .inl (cI, 36, .inl ts)), (lk, .inl (cJ, 3, .inr (.inl lo))), (f1, .inl (cJ, 6, .inr (.inl ff))), (s2, .inl (cJ, 6, .inr (.inl sf))), (ms, .inl (cI, 6, .inl mm)), (nx, .inl (cI, 6, .inl nf)), (bs, .inl (cI, 6, .inl bf))] H := hP
        have hD : va_D A [(h0, .inr (4, [.int 0, .ref ow, .int 0, .int (nI w), .int 0, .ref cl, .ref tu, .int (nI (k - 1)), .ref lk, .ref f1, .ref s2, .ref ms, .ref nx, .ref bs, .int fd])), (ow, .inl (cJ, 3, .inr (.inl (vp_updL fo w x119)))), (cl, .inl (cI, 36, .inl cs)), (tu, .inl (cI, 36, .inl ts)), (lk, .inl (cJ, 3, .inr (.inl lo))), (f1, .inl (cJ, 6, .inr (.inl ff))), (s2, .inl (cJ, 6, .inr (.inl sf))), (ms, .inl (cI, 6, .inl mm)), (nx, .inl (cI, 6, .inl nf)), (bs, .inl (cI, 6, .inl bf))] := hD
        refine lv_iconst (v := 0) hx hb dX7_undo_126 (by decide) ?_
        obtain rfl := ex114.symm; obtain rfl := ex118.symm; obtain rfl := ex119.symm
        refine W.zret (v := 0) hx hb hr (rfl) (fun tt ht hW => ⟨⟨0, (), rfl, ?_, by rw [ht]; exact hP, va_K.moved hW.alike hK, hD⟩, hS.F ht⟩) hS.2.2 dX7_undo_127
        exact rfl
      · exact absurd c40 (by decide)
    · exact absurd c16 (by decide)
  · have c5 : k = 0 := (nq_eq (a := k) (b := 0) (by omega) (by omega)).mp c5
    omega

def mlayok (f g : Int64) : Prop := ((f ||| g) &&& (-68719476736)) = 0 ∧ (f &&& g) = 0 ∧ (0 ≤ nI (msize f 36) - nI (msize g 36) ∧ nI (msize f 36) - nI (msize g 36) ≤ 1)

set_option maxHeartbeats 400000 in
set_option maxRecDepth 100000 in
theorem c_X7_lay_bad (l : Launch) (D : va_G) (cI cJ : ClassId) (sz : Nat) (h0 ow cl tu lk f1 s2 ms nx bs : Nat) (th re mt fd : Int32) (w k : Nat) (fo lo ff sf : Nat → Int64) (cs ts mm nf bf : Nat → Int32) (f g : Int64) (hc : ¬ mlayok f g) : Met l yX7_lay wsX7_lay ({ frames := 4, cells := 0, slots := 0, locals := 97 } : Room) (va_Pc [.ref h0, .long f, .long g] (pv_C D cI cJ [(h0, .inr (4, [.int th, .ref ow, .int re, .int (nI w), .int mt, .ref cl, .ref tu, .int (nI k), .ref lk, .ref f1, .ref s2, .ref ms, .ref nx, .ref bs, .int fd])), (ow, .inl (cJ, 3, .inr (.inl fo))), (cl, .inl (cI, 36, .inl cs)), (tu, .inl (cI, 36, .inl ts)), (lk, .inl (cJ, 3, .inr (.inl lo))), (f1, .inl (cJ, 6, .inr (.inl ff))), (s2, .inl (cJ, 6, .inr (.inl sf))), (ms, .inl (cI, 6, .inl mm)), (nx, .inl (cI, 6, .inl nf)), (bs, .inl (cI, 6, .inl bf))] sz)) (va_Qi (fun (r : Int32) (u : Unit) => r = 0) (fun (u : Unit) => pv_B D cI cJ (va_A [(h0, .inr (4, [.int th, .ref ow, .int re, .int (nI w), .int mt, .ref cl, .ref tu, .int (nI k), .ref lk, .ref f1, .ref s2, .ref ms, .ref nx, .ref bs, .int fd])), (ow, .inl (cJ, 3, .inr (.inl fo))), (cl, .inl (cI, 36, .inl cs)), (tu, .inl (cI, 36, .inl ts)), (lk, .inl (cJ, 3, .inr (.inl lo))), (f1, .inl (cJ, 6, .inr (.inl ff))), (s2, .inl (cJ, 6, .inr (.inl sf))), (ms, .inl (cI, 6, .inl mm)), (nx, .inl (cI, 6, .inl nf)), (bs, .inl (cI, 6, .inl bf))] sz) [(h0, .inr (4, [.int 1, .ref ow, .int re, .int (nI w), .int mt, .ref cl, .ref tu, .int (nI k), .ref lk, .ref f1, .ref s2, .ref ms, .ref nx, .ref bs, .int fd])), (ow, .inl (cJ, 3, .inr (.inl fo))), (cl, .inl (cI, 36, .inl cs)), (tu, .inl (cI, 36, .inl ts)), (lk, .inl (cJ, 3, .inr (.inl lo))), (f1, .inl (cJ, 6, .inr (.inl ff))), (s2, .inl (cJ, 6, .inr (.inl sf))), (ms, .inl (cI, 6, .inl mm)), (nx, .inl (cI, 6, .inl nf)), (bs, .inl (cI, 6, .inl bf))]) (va_A [(h0, .inr (4, [.int th, .ref ow, .int re, .int (nI w), .int mt, .ref cl, .ref tu, .int (nI k), .ref lk, .ref f1, .ref s2, .ref ms, .ref nx, .ref bs, .int fd])), (ow, .inl (cJ, 3, .inr (.inl fo))), (cl, .inl (cI, 36, .inl cs)), (tu, .inl (cI, 36, .inl ts)), (lk, .inl (cJ, 3, .inr (.inl lo))), (f1, .inl (cJ, 6, .inr (.inl ff))), (s2, .inl (cJ, 6, .inr (.inl sf))), (ms, .inl (cI, 6, .inl mm)), (nx, .inl (cI, 6, .inl nf)), (bs, .inl (cI, 6, .inl bf))] sz)) 0 0 (va_A [(h0, .inr (4, [.int th, .ref ow, .int re, .int (nI w), .int mt, .ref cl, .ref tu, .int (nI k), .ref lk, .ref f1, .ref s2, .ref ms, .ref nx, .ref bs, .int fd])), (ow, .inl (cJ, 3, .inr (.inl fo))), (cl, .inl (cI, 36, .inl cs)), (tu, .inl (cI, 36, .inl ts)), (lk, .inl (cJ, 3, .inr (.inl lo))), (f1, .inl (cJ, 6, .inr (.inl ff))), (s2, .inl (cJ, 6, .inr (.inl sf))), (ms, .inl (cI, 6, .inl mm)), (nx, .inl (cI, 6, .inl nf)), (bs, .inl (cI, 6, .inl bf))] sz) := by
  refine Met.ofW (cc := cX7_lay) (maxL := 7) (ret := (some .int)) (by decide) rfl ?_
  intro p e s m args below meth c s₁ B hml hv
  obtain ⟨rfl, rfl, hP, hK, hD0⟩ := hv
  have hx := B.exec
  have hb := B.bytes
  have hr := B.returns
  have hts := atoms_spec (ws := wsX7_lay) B.pre
  have hown : s.vm.findClass RX7 = some m.cls := findClass_of_methodNamed B.named
  have hlocks := B.notSynchronized
  have hD := hD0.self (sz := s.heap.size)
  generalize hAe : va_A [(h0, .inr (4, [.int th, .ref ow, .int re, .int (nI w), .int mt, .ref cl, .ref tu, .int (nI k), .ref lk, .ref f1, .ref s2, .ref ms, .ref nx, .ref bs, .int fd])), (ow, .inl (cJ, 3, .inr (.inl fo))), (cl, .inl (cI, 36, .inl cs)), (tu, .inl (cI, 36, .inl ts)), (lk, .inl (cJ, 3, .inr (.inl lo))), (f1, .inl (cJ, 6, .inr (.inl ff))), (s2, .inl (cJ, 6, .inr (.inl sf))), (ms, .inl (cI, 6, .inl mm)), (nx, .inl (cI, 6, .inl nf)), (bs, .inl (cI, 6, .inl bf))] s.heap.size = A at hD ⊢
  have hA : ∀ q : Nat, s.heap.size ≤ q → A q := fun q h => by rw [← hAe]; exact Or.inr h
  have hS : va_S A s.heap s.heap [] := va_S.rf
  have hl := lv_entry ([.ref h0, .long f, .long g]) (n := 7) (Nat.le_of_ble_eq_true rfl)
  rw [lg_entry_eq]
  generalize (lg_sl ([.ref h0, .long f, .long g]) ++ List.replicate (7 - (lg_sl ([.ref h0, .long f, .long g])).length) Slot.unset).toArray = ls at hl ⊢
  have hl : lv_has ls 7 [(0, .ref h0), (1, .long f), (3, .long g)] := hl
  refine lv_lload_n hx hb dX7_lay_0 rfl (lv_at hl 1 rfl) ?_
  refine vp_callSi (W.runS (As := [.long f]) (rest := []) ⟨hx, hb, hml, hown, hts⟩ (c_X7_sizeOf l f) (va_cwS 1 hts gX7_lay_X7_sizeOf rfl rfl rfl (by decide +kernel) ⟨Nat.le_of_ble_eq_true rfl, Nat.le_of_ble_eq_true rfl⟩) ⟨px_blind0, fun U hU hW => ⟨rfl, trivial⟩⟩ rfl rfl hl.1 rfl (lv_room (Nat.le_of_ble_eq_true rfl)) dX7_lay_1 ⟨(Nat.le_of_ble_eq_true rfl), (Nat.le_of_ble_eq_true rfl)⟩) (fun r1 er1 => ?_)
  obtain rfl := er1.symm
  refine lv_lload_n hx hb dX7_lay_4 rfl (lv_at hl 2 rfl) ?_
  refine vp_callSi (W.runS (As := [.long g]) (rest := [.int (nI (msize f 36))]) ⟨hx, hb, hml, hown, hts⟩ (c_X7_sizeOf l g) (va_cwS 1 hts gX7_lay_X7_sizeOf rfl rfl rfl (by decide +kernel) ⟨Nat.le_of_ble_eq_true rfl, Nat.le_of_ble_eq_true rfl⟩) ⟨px_blind0, fun U hU hW => ⟨rfl, trivial⟩⟩ rfl rfl hl.1 rfl (lv_room (Nat.le_of_ble_eq_true rfl)) dX7_lay_5 ⟨(Nat.le_of_ble_eq_true rfl), (Nat.le_of_ble_eq_true rfl)⟩) (fun r5 er5 => ?_)
  obtain rfl := er5.symm
  refine lv_isub hx hb dX7_lay_8 ?_
  refine lv_topi (fun x8 ex8 => ?_)
  refine lv_istore (lv' := [(5, .int x8), (0, .ref h0), (1, .long f), (3, .long g)]) hx hb dX7_lay_9 hl (by decide) rfl (fun ls hl => ?_)
  refine lv_lload_n hx hb dX7_lay_11 rfl (lv_at hl 2 rfl) ?_
  refine lv_lload_n hx hb dX7_lay_12 rfl (lv_at hl 3 rfl) ?_
  refine lv_lor hx hb dX7_lay_13 ?_
  refine lv_topl (fun x13 ex13 => ?_)
  refine lv_ldc2 (v := (-68719476736)) hx hb hown (hts (.constantLong RX7 102 (-68719476736)) (by decide +kernel)) dX7_lay_14 ?_
  refine lv_land hx hb dX7_lay_17 ?_
  refine lv_topl (fun x17 ex17 => ?_)
  refine lv_lconst (v := 0) hx hb dX7_lay_18 (by decide) ?_
  refine W.lcmp hx hb dX7_lay_19 ?_
  refine lv_if_ne (tgt := 45) hx hb dX7_lay_20 (by decide) (fun c20 => ?_) (fun c20 => ?_)
  · rw [lg_cmp_eq] at c20
    refine lv_iconst (v := 0) hx hb dX7_lay_45 (by decide) ?_
    refine lv_istore (lv' := [(6, .int 0), (5, .int x8), (0, .ref h0), (1, .long f), (3, .long g)]) hx hb dX7_lay_46 hl (by decide) rfl (fun ls hl => ?_)
    refine lv_aload_n hx hb dX7_lay_48 rfl (lv_at hl 2 rfl) ?_
    refine lv_iload hx hb dX7_lay_49 (lv_at hl 0 rfl) ?_
    refine lv_if_eq (tgt := 58) hx hb dX7_lay_51 (by decide) (fun c51 => ?_) (fun c51 => ?_)
    · refine lv_iconst (v := 1) hx hb dX7_lay_58 (by decide) ?_
      have hPc := hP.sub (ws' := [(h0, .inr (4, [.int th, .ref ow, .int re, .int (nI w), .int mt, .ref cl, .ref tu, .int (nI k), .ref lk, .ref f1, .ref s2, .ref ms, .ref nx, .ref bs, .int fd])), (ow, .inl (cJ, 3, .inr (.inl fo))), (cl, .inl (cI, 36, .inl cs)), (tu, .inl (cI, 36, .inl ts)), (lk, .inl (cJ, 3, .inr (.inl lo))), (f1, .inl (cJ, 6, .inr (.inl ff))), (s2, .inl (cJ, 6, .inr (.inl sf))), (ms, .inl (cI, 6, .inl mm)), (nx, .inl (cI, 6, .inl nf)), (bs, .inl (cI, 6, .inl bf))]) [0, 1, 2, 3, 4, 5, 6, 7, 8, 9] rfl
      have hDc := hD.sub (ws' := [(h0, .inr (4, [.int th, .ref ow, .int re, .int (nI w), .int mt, .ref cl, .ref tu, .int (nI k), .ref lk, .ref f1, .ref s2, .ref ms, .ref nx, .ref bs, .int fd])), (ow, .inl (cJ, 3, .inr (.inl fo))), (cl, .inl (cI, 36, .inl cs)), (tu, .inl (cI, 36, .inl ts)), (lk, .inl (cJ, 3, .inr (.inl lo))), (f1, .inl (cJ, 6, .inr (.inl ff))), (s2, .inl (cJ, 6, .inr (.inl sf))), (ms, .inl (cI, 6, .inl mm)), (nx, .inl (cI, 6, .inl nf)), (bs, .inl (cI, 6, .inl bf))]) [0, 1, 2, 3, 4, 5, 6, 7, 8, 9] (by decide) rfl
      have hFc := va_free (wc := [(h0, .inr (4, [.int th, .ref ow, .int re, .int (nI w), .int mt, .ref cl, .ref tu, .int (nI k), .ref lk, .ref f1, .ref s2, .ref ms, .ref nx, .ref bs, .int fd])), (ow, .inl (cJ, 3, .inr (.inl fo))), (cl, .inl (cI, 36, .inl cs)), (tu, .inl (cI, 36, .inl ts)), (lk, .inl (cJ, 3, .inr (.inl lo))), (f1, .inl (cJ, 6, .inr (.inl ff))), (s2, .inl (cJ, 6, .inr (.inl sf))), (ms, .inl (cI, 6, .inl mm)), (nx, .inl (cI, 6, .inl nf)), (bs, .inl (cI, 6, .inl bf))]) hD hS hA [0, 1, 2, 3, 4, 5, 6, 7, 8, 9] rfl
      refine va_calli (va_runV (As := [.int 1]) (rest := []) ⟨hx, hb, hml, hown, hts⟩ (c_X7_goesWell l D cI cJ s.heap.size  h0 ow cl tu lk f1 s2 ms nx bs th re mt fd w k fo lo ff sf cs ts mm nf bf 1) (cwV 1 hts gX7_lay_X7_goesWell rfl rfl rfl (by decide +kernel) ⟨Nat.le_of_ble_eq_true rfl, Nat.le_of_ble_eq_true rfl⟩) ⟨pv_blind, va_recv hK hPc (ci := 4) (q0 := 0) rfl rfl, fun U hU hW => ⟨rfl, by rw [hU], by rw [hU]; exact hPc, va_K.moved hW.alike hK, hDc.weaken (fun _ _ _ _ => trivial)⟩⟩ rfl rfl hl.1 rfl (lv_room (Nat.le_of_ble_eq_true rfl)) dX7_lay_59 ⟨(Nat.le_of_ble_eq_true rfl), (Nat.le_of_ble_eq_true rfl)⟩) hS (fun q _ h => hFc q h) hFc (fun r59 u t9 H1 locs hth hvm hw59 hB hz1 hk1 hS => ?_)
      try dsimp only at hw59
      obtain ⟨hP1, hK1, hD1⟩ := hB
      rw [hth] at hP1
      obtain ⟨hP, hD⟩ := va_join (wr := []) (w1 := [(h0, .inr (4, [.int 1, .ref ow, .int re, .int (nI w), .int mt, .ref cl, .ref tu, .int (nI k), .ref lk, .ref f1, .ref s2, .ref ms, .ref nx, .ref bs, .int fd])), (ow, .inl (cJ, 3, .inr (.inl fo))), (cl, .inl (cI, 36, .inl cs)), (tu, .inl (cI, 36, .inl ts)), (lk, .inl (cJ, 3, .inr (.inl lo))), (f1, .inl (cJ, 6, .inr (.inl ff))), (s2, .inl (cJ, 6, .inr (.inl sf))), (ms, .inl (cI, 6, .inl mm)), (nx, .inl (cI, 6, .inl nf)), (bs, .inl (cI, 6, .inl bf))]) hP hD [0, 1, 2, 3, 4, 5, 6, 7, 8, 9] [] rfl rfl (by decide) (by decide) hk1 hFc hP1 hD1
      generalize H1 = H at hP hS ⊢
      have hP : va_P D vwCl [(h0, .inr (4, [.int 1, .ref ow, .int re, .int (nI w), .int mt, .ref cl, .ref tu, .int (nI k), .ref lk, .ref f1, .ref s2, .ref ms, .ref nx, .ref bs, .int fd])), (ow, .inl (cJ, 3, .inr (.inl fo))), (cl, .inl (cI, 36, .inl cs)), (tu, .inl (cI, 36, .inl ts)), (lk, .inl (cJ, 3, .inr (.inl lo))), (f1, .inl (cJ, 6, .inr (.inl ff))), (s2, .inl (cJ, 6, .inr (.inl sf))), (ms, .inl (cI, 6, .inl mm)), (nx, .inl (cI, 6, .inl nf)), (bs, .inl (cI, 6, .inl bf))] H := hP.sub (ws' := [(h0, .inr (4, [.int 1, .ref ow, .int re, .int (nI w), .int mt, .ref cl, .ref tu, .int (nI k), .ref lk, .ref f1, .ref s2, .ref ms, .ref nx, .ref bs, .int fd])), (ow, .inl (cJ, 3, .inr (.inl fo))), (cl, .inl (cI, 36, .inl cs)), (tu, .inl (cI, 36, .inl ts)), (lk, .inl (cJ, 3, .inr (.inl lo))), (f1, .inl (cJ, 6, .inr (.inl ff))), (s2, .inl (cJ, 6, .inr (.inl sf))), (ms, .inl (cI, 6, .inl mm)), (nx, .inl (cI, 6, .inl nf)), (bs, .inl (cI, 6, .inl bf))]) [0, 1, 2, 3, 4, 5, 6, 7, 8, 9] rfl
      have hD : va_D A [(h0, .inr (4, [.int 1, .ref ow, .int re, .int (nI w), .int mt, .ref cl, .ref tu, .int (nI k), .ref lk, .ref f1, .ref s2, .ref ms, .ref nx, .ref bs, .int fd])), (ow, .inl (cJ, 3, .inr (.inl fo))), (cl, .inl (cI, 36, .inl cs)), (tu, .inl (cI, 36, .inl ts)), (lk, .inl (cJ, 3, .inr (.inl lo))), (f1, .inl (cJ, 6, .inr (.inl ff))), (s2, .inl (cJ, 6, .inr (.inl sf))), (ms, .inl (cI, 6, .inl mm)), (nx, .inl (cI, 6, .inl nf)), (bs, .inl (cI, 6, .inl bf))] := hD.sub (ws' := [(h0, .inr (4, [.int 1, .ref ow, .int re, .int (nI w), .int mt, .ref cl, .ref tu, .int (nI k), .ref lk, .ref f1, .ref s2, .ref ms, .ref nx, .ref bs, .int fd])), (ow, .inl (cJ, 3, .inr (.inl fo))), (cl, .inl (cI, 36, .inl cs)), (tu, .inl (cI, 36, .inl ts)), (lk, .inl (cJ, 3, .inr (.inl lo))), (f1, .inl (cJ, 6, .inr (.inl ff))), (s2, .inl (cJ, 6, .inr (.inl sf))), (ms, .inl (cI, 6, .inl mm)), (nx, .inl (cI, 6, .inl nf)), (bs, .inl (cI, 6, .inl bf))]) [0, 1, 2, 3, 4, 5, 6, 7, 8, 9] (by decide) rfl
      obtain rfl := hw59.symm
      refine pk_ti (y := 0) (if_neg (by decide)) ?_
      refine lv_if_ne (tgt := 67) hx hb dX7_lay_62 (by decide) (fun c62 => ?_) (fun c62 => ?_)
      · exact absurd c62 (by decide)
      · refine lv_iconst (v := 0) hx hb dX7_lay_65 (by decide) ?_
        obtain rfl := ex8.symm; obtain rfl := ex13.symm; obtain rfl := ex17.symm
        refine W.iret (v := 0) hx hb hr (fun tt ht hW => ⟨⟨0, (), rfl, ?_, by rw [ht]; exact hP, va_K.moved hW.alike hK, hD⟩, hS.F ht⟩) hS.2.2 dX7_lay_66
        exact rfl
    · exact absurd c51 (by decide)
  · rw [lg_cmp_eq] at c20
    refine lv_lload_n hx hb dX7_lay_23 rfl (lv_at hl 2 rfl) ?_
    refine lv_lload_n hx hb dX7_lay_24 rfl (lv_at hl 3 rfl) ?_
    refine lv_land hx hb dX7_lay_25 ?_
    refine lv_topl (fun x25 ex25 => ?_)
    refine lv_lconst (v := 0) hx hb dX7_lay_26 (by decide) ?_
    refine W.lcmp hx hb dX7_lay_27 ?_
    refine lv_if_ne (tgt := 45) hx hb dX7_lay_28 (by decide) (fun c28 => ?_) (fun c28 => ?_)
    · rw [lg_cmp_eq] at c28
      refine lv_iconst (v := 0) hx hb dX7_lay_45 (by decide) ?_
      refine lv_istore (lv' := [(6, .int 0), (5, .int x8), (0, .ref h0), (1, .long f), (3, .long g)]) hx hb dX7_lay_46 hl (by decide) rfl (fun ls hl => ?_)
      refine lv_aload_n hx hb dX7_lay_48 rfl (lv_at hl 2 rfl) ?_
      refine lv_iload hx hb dX7_lay_49 (lv_at hl 0 rfl) ?_
      refine lv_if_eq (tgt := 58) hx hb dX7_lay_51 (by decide) (fun c51 => ?_) (fun c51 => ?_)
      · refine lv_iconst (v := 1) hx hb dX7_lay_58 (by decide) ?_
        have hPc := hP.sub (ws' := [(h0, .inr (4, [.int th, .ref ow, .int re, .int (nI w), .int mt, .ref cl, .ref tu, .int (nI k), .ref lk, .ref f1, .ref s2, .ref ms, .ref nx, .ref bs, .int fd])), (ow, .inl (cJ, 3, .inr (.inl fo))), (cl, .inl (cI, 36, .inl cs)), (tu, .inl (cI, 36, .inl ts)), (lk, .inl (cJ, 3, .inr (.inl lo))), (f1, .inl (cJ, 6, .inr (.inl ff))), (s2, .inl (cJ, 6, .inr (.inl sf))), (ms, .inl (cI, 6, .inl mm)), (nx, .inl (cI, 6, .inl nf)), (bs, .inl (cI, 6, .inl bf))]) [0, 1, 2, 3, 4, 5, 6, 7, 8, 9] rfl
        have hDc := hD.sub (ws' := [(h0, .inr (4, [.int th, .ref ow, .int re, .int (nI w), .int mt, .ref cl, .ref tu, .int (nI k), .ref lk, .ref f1, .ref s2, .ref ms, .ref nx, .ref bs, .int fd])), (ow, .inl (cJ, 3, .inr (.inl fo))), (cl, .inl (cI, 36, .inl cs)), (tu, .inl (cI, 36, .inl ts)), (lk, .inl (cJ, 3, .inr (.inl lo))), (f1, .inl (cJ, 6, .inr (.inl ff))), (s2, .inl (cJ, 6, .inr (.inl sf))), (ms, .inl (cI, 6, .inl mm)), (nx, .inl (cI, 6, .inl nf)), (bs, .inl (cI, 6, .inl bf))]) [0, 1, 2, 3, 4, 5, 6, 7, 8, 9] (by decide) rfl
        have hFc := va_free (wc := [(h0, .inr (4, [.int th, .ref ow, .int re, .int (nI w), .int mt, .ref cl, .ref tu, .int (nI k), .ref lk, .ref f1, .ref s2, .ref ms, .ref nx, .ref bs, .int fd])), (ow, .inl (cJ, 3, .inr (.inl fo))), (cl, .inl (cI, 36, .inl cs)), (tu, .inl (cI, 36, .inl ts)), (lk, .inl (cJ, 3, .inr (.inl lo))), (f1, .inl (cJ, 6, .inr (.inl ff))), (s2, .inl (cJ, 6, .inr (.inl sf))), (ms, .inl (cI, 6, .inl mm)), (nx, .inl (cI, 6, .inl nf)), (bs, .inl (cI, 6, .inl bf))]) hD hS hA [0, 1, 2, 3, 4, 5, 6, 7, 8, 9] rfl
        refine va_calli (va_runV (As := [.int 1]) (rest := []) ⟨hx, hb, hml, hown, hts⟩ (c_X7_goesWell l D cI cJ s.heap.size  h0 ow cl tu lk f1 s2 ms nx bs th re mt fd w k fo lo ff sf cs ts mm nf bf 1) (cwV 1 hts gX7_lay_X7_goesWell rfl rfl rfl (by decide +kernel) ⟨Nat.le_of_ble_eq_true rfl, Nat.le_of_ble_eq_true rfl⟩) ⟨pv_blind, va_recv hK hPc (ci := 4) (q0 := 0) rfl rfl, fun U hU hW => ⟨rfl, by rw [hU], by rw [hU]; exact hPc, va_K.moved hW.alike hK, hDc.weaken (fun _ _ _ _ => trivial)⟩⟩ rfl rfl hl.1 rfl (lv_room (Nat.le_of_ble_eq_true rfl)) dX7_lay_59 ⟨(Nat.le_of_ble_eq_true rfl), (Nat.le_of_ble_eq_true rfl)⟩) hS (fun q _ h => hFc q h) hFc (fun r59 u t9 H1 locs hth hvm hw59 hB hz1 hk1 hS => ?_)
        try dsimp only at hw59
        obtain ⟨hP1, hK1, hD1⟩ := hB
        rw [hth] at hP1
        obtain ⟨hP, hD⟩ := va_join (wr := []) (w1 := [(h0, .inr (4, [.int 1, .ref ow, .int re, .int (nI w), .int mt, .ref cl, .ref tu, .int (nI k), .ref lk, .ref f1, .ref s2, .ref ms, .ref nx, .ref bs, .int fd])), (ow, .inl (cJ, 3, .inr (.inl fo))), (cl, .inl (cI, 36, .inl cs)), (tu, .inl (cI, 36, .inl ts)), (lk, .inl (cJ, 3, .inr (.inl lo))), (f1, .inl (cJ, 6, .inr (.inl ff))), (s2, .inl (cJ, 6, .inr (.inl sf))), (ms, .inl (cI, 6, .inl mm)), (nx, .inl (cI, 6, .inl nf)), (bs, .inl (cI, 6, .inl bf))]) hP hD [0, 1, 2, 3, 4, 5, 6, 7, 8, 9] [] rfl rfl (by decide) (by decide) hk1 hFc hP1 hD1
        generalize H1 = H at hP hS ⊢
        have hP : va_P D vwCl [(h0, .inr (4, [.int 1, .ref ow, .int re, .int (nI w), .int mt, .ref cl, .ref tu, .int (nI k), .ref lk, .ref f1, .ref s2, .ref ms, .ref nx, .ref bs, .int fd])), (ow, .inl (cJ, 3, .inr (.inl fo))), (cl, .inl (cI, 36, .inl cs)), (tu, .inl (cI, 36, .inl ts)), (lk, .inl (cJ, 3, .inr (.inl lo))), (f1, .inl (cJ, 6, .inr (.inl ff))), (s2, .inl (cJ, 6, .inr (.inl sf))), (ms, .inl (cI, 6, .inl mm)), (nx, .inl (cI, 6, .inl nf)), (bs, .inl (cI, 6, .inl bf))] H := hP.sub (ws' := [(h0, .inr (4, [.int 1, .ref ow, .int re, .int (nI w), .int mt, .ref cl, .ref tu, .int (nI k), .ref lk, .ref f1, .ref s2, .ref ms, .ref nx, .ref bs, .int fd])), (ow, .inl (cJ, 3, .inr (.inl fo))), (cl, .inl (cI, 36, .inl cs)), (tu, .inl (cI, 36, .inl ts)), (lk, .inl (cJ, 3, .inr (.inl lo))), (f1, .inl (cJ, 6, .inr (.inl ff))), (s2, .inl (cJ, 6, .inr (.inl sf))), (ms, .inl (cI, 6, .inl mm)), (nx, .inl (cI, 6, .inl nf)), (bs, .inl (cI, 6, .inl bf))]) [0, 1, 2, 3, 4, 5, 6, 7, 8, 9] rfl
        have hD : va_D A [(h0, .inr (4, [.int 1, .ref ow, .int re, .int (nI w), .int mt, .ref cl, .ref tu, .int (nI k), .ref lk, .ref f1, .ref s2, .ref ms, .ref nx, .ref bs, .int fd])), (ow, .inl (cJ, 3, .inr (.inl fo))), (cl, .inl (cI, 36, .inl cs)), (tu, .inl (cI, 36, .inl ts)), (lk, .inl (cJ, 3, .inr (.inl lo))), (f1, .inl (cJ, 6, .inr (.inl ff))), (s2, .inl (cJ, 6, .inr (.inl sf))), (ms, .inl (cI, 6, .inl mm)), (nx, .inl (cI, 6, .inl nf)), (bs, .inl (cI, 6, .inl bf))] := hD.sub (ws' := [(h0, .inr (4, [.int 1, .ref ow, .int re, .int (nI w), .int mt, .ref cl, .ref tu, .int (nI k), .ref lk, .ref f1, .ref s2, .ref ms, .ref nx, .ref bs, .int fd])), (ow, .inl (cJ, 3, .inr (.inl fo))), (cl, .inl (cI, 36, .inl cs)), (tu, .inl (cI, 36, .inl ts)), (lk, .inl (cJ, 3, .inr (.inl lo))), (f1, .inl (cJ, 6, .inr (.inl ff))), (s2, .inl (cJ, 6, .inr (.inl sf))), (ms, .inl (cI, 6, .inl mm)), (nx, .inl (cI, 6, .inl nf)), (bs, .inl (cI, 6, .inl bf))]) [0, 1, 2, 3, 4, 5, 6, 7, 8, 9] (by decide) rfl
        obtain rfl := hw59.symm
        refine pk_ti (y := 0) (if_neg (by decide)) ?_
        refine lv_if_ne (tgt := 67) hx hb dX7_lay_62 (by decide) (fun c62 => ?_) (fun c62 => ?_)
        · exact absurd c62 (by decide)
        · refine lv_iconst (v := 0) hx hb dX7_lay_65 (by decide) ?_
          obtain rfl := ex8.symm; obtain rfl := ex13.symm; obtain rfl := ex17.symm; obtain rfl := ex25.symm
          refine W.iret (v := 0) hx hb hr (fun tt ht hW => ⟨⟨0, (), rfl, ?_, by rw [ht]; exact hP, va_K.moved hW.alike hK, hD⟩, hS.F ht⟩) hS.2.2 dX7_lay_66
          exact rfl
      · exact absurd c51 (by decide)
    · rw [lg_cmp_eq] at c28
      refine lv_iload hx hb dX7_lay_31 (lv_at hl 0 rfl) ?_
      refine lv_iconst (v := 0) hx hb dX7_lay_33 (by decide) ?_
      refine lv_iconst (v := 1) hx hb dX7_lay_34 (by decide) ?_
      refine vp_callSi (W.runS (As := [.int x8, .int 0, .int 1]) (rest := []) ⟨hx, hb, hml, hown, hts⟩ (c_X7_in l x8 0 1) (va_cwS 3 hts gX7_lay_X7_in rfl rfl rfl (by decide +kernel) ⟨Nat.le_of_ble_eq_true rfl, Nat.le_of_ble_eq_true rfl⟩) ⟨px_blind0, fun U hU hW => ⟨rfl, trivial⟩⟩ rfl rfl hl.1 rfl (lv_room (Nat.le_of_ble_eq_true rfl)) dX7_lay_35 ⟨(Nat.le_of_ble_eq_true rfl), (Nat.le_of_ble_eq_true rfl)⟩) (fun r35 er35 => ?_)
      obtain rfl := er35.symm
      refine pk_b (P := 0 ≤ x8 ∧ x8 ≤ 1) (fun b35 => ?_) (fun b35 => ?_)
      · exact absurd ⟨by obtain rfl := ex8.symm; obtain rfl := ex13.symm; obtain rfl := ex17.symm; obtain rfl := ex25.symm; exact c20, by obtain rfl := ex8.symm; obtain rfl := ex13.symm; obtain rfl := ex17.symm; obtain rfl := ex25.symm; exact c28, by obtain rfl := ex8.symm; obtain rfl := ex13.symm; obtain rfl := ex17.symm; obtain rfl := ex25.symm; exact b35⟩ hc
      · refine lv_if_eq (tgt := 45) hx hb dX7_lay_38 (by decide) (fun c38 => ?_) (fun c38 => ?_)
        · refine lv_iconst (v := 0) hx hb dX7_lay_45 (by decide) ?_
          refine lv_istore (lv' := [(6, .int 0), (5, .int x8), (0, .ref h0), (1, .long f), (3, .long g)]) hx hb dX7_lay_46 hl (by decide) rfl (fun ls hl => ?_)
          refine lv_aload_n hx hb dX7_lay_48 rfl (lv_at hl 2 rfl) ?_
          refine lv_iload hx hb dX7_lay_49 (lv_at hl 0 rfl) ?_
          refine lv_if_eq (tgt := 58) hx hb dX7_lay_51 (by decide) (fun c51 => ?_) (fun c51 => ?_)
          · refine lv_iconst (v := 1) hx hb dX7_lay_58 (by decide) ?_
            have hPc := hP.sub (ws' := [(h0, .inr (4, [.int th, .ref ow, .int re, .int (nI w), .int mt, .ref cl, .ref tu, .int (nI k), .ref lk, .ref f1, .ref s2, .ref ms, .ref nx, .ref bs, .int fd])), (ow, .inl (cJ, 3, .inr (.inl fo))), (cl, .inl (cI, 36, .inl cs)), (tu, .inl (cI, 36, .inl ts)), (lk, .inl (cJ, 3, .inr (.inl lo))), (f1, .inl (cJ, 6, .inr (.inl ff))), (s2, .inl (cJ, 6, .inr (.inl sf))), (ms, .inl (cI, 6, .inl mm)), (nx, .inl (cI, 6, .inl nf)), (bs, .inl (cI, 6, .inl bf))]) [0, 1, 2, 3, 4, 5, 6, 7, 8, 9] rfl
            have hDc := hD.sub (ws' := [(h0, .inr (4, [.int th, .ref ow, .int re, .int (nI w), .int mt, .ref cl, .ref tu, .int (nI k), .ref lk, .ref f1, .ref s2, .ref ms, .ref nx, .ref bs, .int fd])), (ow, .inl (cJ, 3, .inr (.inl fo))), (cl, .inl (cI, 36, .inl cs)), (tu, .inl (cI, 36, .inl ts)), (lk, .inl (cJ, 3, .inr (.inl lo))), (f1, .inl (cJ, 6, .inr (.inl ff))), (s2, .inl (cJ, 6, .inr (.inl sf))), (ms, .inl (cI, 6, .inl mm)), (nx, .inl (cI, 6, .inl nf)), (bs, .inl (cI, 6, .inl bf))]) [0, 1, 2, 3, 4, 5, 6, 7, 8, 9] (by decide) rfl
            have hFc := va_free (wc := [(h0, .inr (4, [.int th, .ref ow, .int re, .int (nI w), .int mt, .ref cl, .ref tu, .int (nI k), .ref lk, .ref f1, .ref s2, .ref ms, .ref nx, .ref bs, .int fd])), (ow, .inl (cJ, 3, .inr (.inl fo))), (cl, .inl (cI, 36, .inl cs)), (tu, .inl (cI, 36, .inl ts)), (lk, .inl (cJ, 3, .inr (.inl lo))), (f1, .inl (cJ, 6, .inr (.inl ff))), (s2, .inl (cJ, 6, .inr (.inl sf))), (ms, .inl (cI, 6, .inl mm)), (nx, .inl (cI, 6, .inl nf)), (bs, .inl (cI, 6, .inl bf))]) hD hS hA [0, 1, 2, 3, 4, 5, 6, 7, 8, 9] rfl
            refine va_calli (va_runV (As := [.int 1]) (rest := []) ⟨hx, hb, hml, hown, hts⟩ (c_X7_goesWell l D cI cJ s.heap.size  h0 ow cl tu lk f1 s2 ms nx bs th re mt fd w k fo lo ff sf cs ts mm nf bf 1) (cwV 1 hts gX7_lay_X7_goesWell rfl rfl rfl (by decide +kernel) ⟨Nat.le_of_ble_eq_true rfl, Nat.le_of_ble_eq_true rfl⟩) ⟨pv_blind, va_recv hK hPc (ci := 4) (q0 := 0) rfl rfl, fun U hU hW => ⟨rfl, by rw [hU], by rw [hU]; exact hPc, va_K.moved hW.alike hK, hDc.weaken (fun _ _ _ _ => trivial)⟩⟩ rfl rfl hl.1 rfl (lv_room (Nat.le_of_ble_eq_true rfl)) dX7_lay_59 ⟨(Nat.le_of_ble_eq_true rfl), (Nat.le_of_ble_eq_true rfl)⟩) hS (fun q _ h => hFc q h) hFc (fun r59 u t9 H1 locs hth hvm hw59 hB hz1 hk1 hS => ?_)
            try dsimp only at hw59
            obtain ⟨hP1, hK1, hD1⟩ := hB
            rw [hth] at hP1
            obtain ⟨hP, hD⟩ := va_join (wr := []) (w1 := [(h0, .inr (4, [.int 1, .ref ow, .int re, .int (nI w), .int mt, .ref cl, .ref tu, .int (nI k), .ref lk, .ref f1, .ref s2, .ref ms, .ref nx, .ref bs, .int fd])), (ow, .inl (cJ, 3, .inr (.inl fo))), (cl, .inl (cI, 36, .inl cs)), (tu, .inl (cI, 36, .inl ts)), (lk, .inl (cJ, 3, .inr (.inl lo))), (f1, .inl (cJ, 6, .inr (.inl ff))), (s2, .inl (cJ, 6, .inr (.inl sf))), (ms, .inl (cI, 6, .inl mm)), (nx, .inl (cI, 6, .inl nf)), (bs, .inl (cI, 6, .inl bf))]) hP hD [0, 1, 2, 3, 4, 5, 6, 7, 8, 9] [] rfl rfl (by decide) (by decide) hk1 hFc hP1 hD1
            generalize H1 = H at hP hS ⊢
            have hP : va_P D vwCl [(h0, .inr (4, [.int 1, .ref ow, .int re, .int (nI w), .int mt, .ref cl, .ref tu, .int (nI k), .ref lk, .ref f1, .ref s2, .ref ms, .ref nx, .ref bs, .int fd])), (ow, .inl (cJ, 3, .inr (.inl fo))), (cl, .inl (cI, 36, .inl cs)), (tu, .inl (cI, 36, .inl ts)), (lk, .inl (cJ, 3, .inr (.inl lo))), (f1, .inl (cJ, 6, .inr (.inl ff))), (s2, .inl (cJ, 6, .inr (.inl sf))), (ms, .inl (cI, 6, .inl mm)), (nx, .inl (cI, 6, .inl nf)), (bs, .inl (cI, 6, .inl bf))] H := hP.sub (ws' := [(h0, .inr (4, [.int 1, .ref ow, .int re, .int (nI w), .int mt, .ref cl, .ref tu, .int (nI k), .ref lk, .ref f1, .ref s2, .ref ms, .ref nx, .ref bs, .int fd])), (ow, .inl (cJ, 3, .inr (.inl fo))), (cl, .inl (cI, 36, .inl cs)), (tu, .inl (cI, 36, .inl ts)), (lk, .inl (cJ, 3, .inr (.inl lo))), (f1, .inl (cJ, 6, .inr (.inl ff))), (s2, .inl (cJ, 6, .inr (.inl sf))), (ms, .inl (cI, 6, .inl mm)), (nx, .inl (cI, 6, .inl nf)), (bs, .inl (cI, 6, .inl bf))]) [0, 1, 2, 3, 4, 5, 6, 7, 8, 9] rfl
            have hD : va_D A [(h0, .inr (4, [.int 1, .ref ow, .int re, .int (nI w), .int mt, .ref cl, .ref tu, .int (nI k), .ref lk, .ref f1, .ref s2, .ref ms, .ref nx, .ref bs, .int fd])), (ow, .inl (cJ, 3, .inr (.inl fo))), (cl, .inl (cI, 36, .inl cs)), (tu, .inl (cI, 36, .inl ts)), (lk, .inl (cJ, 3, .inr (.inl lo))), (f1, .inl (cJ, 6, .inr (.inl ff))), (s2, .inl (cJ, 6, .inr (.inl sf))), (ms, .inl (cI, 6, .inl mm)), (nx, .inl (cI, 6, .inl nf)), (bs, .inl (cI, 6, .inl bf))] := hD.sub (ws' := [(h0, .inr (4, [.int 1, .ref ow, .int re, .int (nI w), .int mt, .ref cl, .ref tu, .int (nI k), .ref lk, .ref f1, .ref s2, .ref ms, .ref nx, .ref bs, .int fd])), (ow, .inl (cJ, 3, .inr (.inl fo))), (cl, .inl (cI, 36, .inl cs)), (tu, .inl (cI, 36, .inl ts)), (lk, .inl (cJ, 3, .inr (.inl lo))), (f1, .inl (cJ, 6, .inr (.inl ff))), (s2, .inl (cJ, 6, .inr (.inl sf))), (ms, .inl (cI, 6, .inl mm)), (nx, .inl (cI, 6, .inl nf)), (bs, .inl (cI, 6, .inl bf))]) [0, 1, 2, 3, 4, 5, 6, 7, 8, 9] (by decide) rfl
            obtain rfl := hw59.symm
            refine pk_ti (y := 0) (if_neg (by decide)) ?_
            refine lv_if_ne (tgt := 67) hx hb dX7_lay_62 (by decide) (fun c62 => ?_) (fun c62 => ?_)
            · exact absurd c62 (by decide)
            · refine lv_iconst (v := 0) hx hb dX7_lay_65 (by decide) ?_
              obtain rfl := ex8.symm; obtain rfl := ex13.symm; obtain rfl := ex17.symm; obtain rfl := ex25.symm
              refine W.iret (v := 0) hx hb hr (fun tt ht hW => ⟨⟨0, (), rfl, ?_, by rw [ht]; exact hP, va_K.moved hW.alike hK, hD⟩, hS.F ht⟩) hS.2.2 dX7_lay_66
              exact rfl
          · exact absurd c51 (by decide)
        · exact absurd c38 (by decide)

set_option maxHeartbeats 400000 in
set_option maxRecDepth 100000 in
theorem c_X7_result_r (l : Launch) (D : va_G) (cI cJ : ClassId) (sz : Nat) (h0 ow cl tu lk f1 s2 ms nx bs : Nat) (th re mt fd : Int32) (w k : Nat) (fo lo ff sf : Nat → Int64) (cs ts mm nf bf : Nat → Int32)  : Met l yX7_result wsX7_result ({ frames := 0, cells := 0, slots := 0, locals := 0 } : Room) (va_Pc [.ref h0] (pv_C D cI cJ [(h0, .inr (4, [.int th, .ref ow, .int re, .int (nI w), .int mt, .ref cl, .ref tu, .int (nI k), .ref lk, .ref f1, .ref s2, .ref ms, .ref nx, .ref bs, .int fd])), (ow, .inl (cJ, 3, .inr (.inl fo))), (cl, .inl (cI, 36, .inl cs)), (tu, .inl (cI, 36, .inl ts)), (lk, .inl (cJ, 3, .inr (.inl lo))), (f1, .inl (cJ, 6, .inr (.inl ff))), (s2, .inl (cJ, 6, .inr (.inl sf))), (ms, .inl (cI, 6, .inl mm)), (nx, .inl (cI, 6, .inl nf)), (bs, .inl (cI, 6, .inl bf))] sz)) (va_Qi (fun (r : Int32) (u : Unit) => r = re) (fun (u : Unit) => pv_B D cI cJ (va_A [(h0, .inr (4, [.int th, .ref ow, .int re, .int (nI w), .int mt, .ref cl, .ref tu, .int (nI k), .ref lk, .ref f1, .ref s2, .ref ms, .ref nx, .ref bs, .int fd])), (ow, .inl (cJ, 3, .inr (.inl fo))), (cl, .inl (cI, 36, .inl cs)), (tu, .inl (cI, 36, .inl ts)), (lk, .inl (cJ, 3, .inr (.inl lo))), (f1, .inl (cJ, 6, .inr (.inl ff))), (s2, .inl (cJ, 6, .inr (.inl sf))), (ms, .inl (cI, 6, .inl mm)), (nx, .inl (cI, 6, .inl nf)), (bs, .inl (cI, 6, .inl bf))] sz) [(h0, .inr (4, [.int 0, .ref ow, .int re, .int (nI w), .int mt, .ref cl, .ref tu, .int (nI k), .ref lk, .ref f1, .ref s2, .ref ms, .ref nx, .ref bs, .int fd])), (ow, .inl (cJ, 3, .inr (.inl fo))), (cl, .inl (cI, 36, .inl cs)), (tu, .inl (cI, 36, .inl ts)), (lk, .inl (cJ, 3, .inr (.inl lo))), (f1, .inl (cJ, 6, .inr (.inl ff))), (s2, .inl (cJ, 6, .inr (.inl sf))), (ms, .inl (cI, 6, .inl mm)), (nx, .inl (cI, 6, .inl nf)), (bs, .inl (cI, 6, .inl bf))]) (va_A [(h0, .inr (4, [.int th, .ref ow, .int re, .int (nI w), .int mt, .ref cl, .ref tu, .int (nI k), .ref lk, .ref f1, .ref s2, .ref ms, .ref nx, .ref bs, .int fd])), (ow, .inl (cJ, 3, .inr (.inl fo))), (cl, .inl (cI, 36, .inl cs)), (tu, .inl (cI, 36, .inl ts)), (lk, .inl (cJ, 3, .inr (.inl lo))), (f1, .inl (cJ, 6, .inr (.inl ff))), (s2, .inl (cJ, 6, .inr (.inl sf))), (ms, .inl (cI, 6, .inl mm)), (nx, .inl (cI, 6, .inl nf)), (bs, .inl (cI, 6, .inl bf))] sz)) 0 0 (va_A [(h0, .inr (4, [.int th, .ref ow, .int re, .int (nI w), .int mt, .ref cl, .ref tu, .int (nI k), .ref lk, .ref f1, .ref s2, .ref ms, .ref nx, .ref bs, .int fd])), (ow, .inl (cJ, 3, .inr (.inl fo))), (cl, .inl (cI, 36, .inl cs)), (tu, .inl (cI, 36, .inl ts)), (lk, .inl (cJ, 3, .inr (.inl lo))), (f1, .inl (cJ, 6, .inr (.inl ff))), (s2, .inl (cJ, 6, .inr (.inl sf))), (ms, .inl (cI, 6, .inl mm)), (nx, .inl (cI, 6, .inl nf)), (bs, .inl (cI, 6, .inl bf))] sz) := by
  refine Met.ofW (cc := cX7_result) (maxL := 1) (ret := (some .int)) (by decide) rfl ?_
  intro p e s m args below meth c s₁ B hml hv
  obtain ⟨rfl, rfl, hP, hK, hD0⟩ := hv
  have hx := B.exec
  have hb := B.bytes
  have hr := B.returns
  have hts := atoms_spec (ws := wsX7_result) B.pre
  have hown : s.vm.findClass RX7 = some m.cls := findClass_of_methodNamed B.named
  have hlocks := B.notSynchronized
  have hD := hD0.self (sz := s.heap.size)
  generalize hAe : va_A [(h0, .inr (4, [.int th, .ref ow, .int re, .int (nI w), .int mt, .ref cl, .ref tu, .int (nI k), .ref lk, .ref f1, .ref s2, .ref ms, .ref nx, .ref bs, .int fd])), (ow, .inl (cJ, 3, .inr (.inl fo))), (cl, .inl (cI, 36, .inl cs)), (tu, .inl (cI, 36, .inl ts)), (lk, .inl (cJ, 3, .inr (.inl lo))), (f1, .inl (cJ, 6, .inr (.inl ff))), (s2, .inl (cJ, 6, .inr (.inl sf))), (ms, .inl (cI, 6, .inl mm)), (nx, .inl (cI, 6, .inl nf)), (bs, .inl (cI, 6, .inl bf))] s.heap.size = A at hD ⊢
  have hA : ∀ q : Nat, s.heap.size ≤ q → A q := fun q h => by rw [← hAe]; exact Or.inr h
  have hS : va_S A s.heap s.heap [] := va_S.rf
  have hinX7 : ∀ w ∈ wsX70, w ∈ wsX7_result := by decide +kernel
  have hfl42 : (Cond.fieldLink RX7 42 "TwistquadModel" "thrown" "I").before ([.ref h0] : List Value).toArray s = true := hts _ (by decide +kernel)
  have hfl73 : (Cond.fieldLink RX7 73 "TwistquadModel" "result" "I").before ([.ref h0] : List Value).toArray s = true := hts _ (by decide +kernel)
  have hl := lv_entry ([.ref h0]) (n := 1) (Nat.le_of_ble_eq_true rfl)
  rw [lg_entry_eq]
  generalize (lg_sl ([.ref h0]) ++ List.replicate (1 - (lg_sl ([.ref h0])).length) Slot.unset).toArray = ls at hl ⊢
  have hl : lv_has ls 1 [(0, .ref h0)] := hl
  refine lv_aload_n hx hb dX7_result_0 rfl (lv_at hl 0 rfl) ?_
  refine lv_iconst (v := 0) hx hb dX7_result_1 (by decide) ?_
  refine va_put (D := D) (ci := 4) (v := .int 0) (ty := .int) (C := RX7) (T := TX7) (N := 15) hx hb hts hinX7 tyX7 tyX7_ok nmX7 hown hK hP hD hS 0 rfl rfl 0 (by decide) hfl42 (fun _ h9 => h9) rfl (by decide +kernel) rfl rfl (Nat.le_of_ble_eq_true rfl) dX7_result_2 (fun H locs hP hD hS => ?_)
  have hP : va_P D vwCl [(h0, .inr (4, [.int 0, .ref ow, .int re, .int (nI w), .int mt, .ref cl, .ref tu, .int (nI k), .ref lk, .ref f1, .ref s2, .ref ms, .ref nx, .ref bs, .int fd])), (ow, .inl (cJ, 3, .inr (.inl fo))), (cl, .inl (cI, 36, .inl cs)), (tu, .inl (cI, 36, .inl ts)), (lk, .inl (cJ, 3, .inr (.inl lo))), (f1, .inl (cJ, 6, .inr (.inl ff))), (s2, .inl (cJ, 6, .inr (.inl sf))), (ms, .inl (cI, 6, .inl mm)), (nx, .inl (cI, 6, .inl nf)), (bs, .inl (cI, 6, .inl bf))] H := hP
  have hD : va_D A [(h0, .inr (4, [.int 0, .ref ow, .int re, .int (nI w), .int mt, .ref cl, .ref tu, .int (nI k), .ref lk, .ref f1, .ref s2, .ref ms, .ref nx, .ref bs, .int fd])), (ow, .inl (cJ, 3, .inr (.inl fo))), (cl, .inl (cI, 36, .inl cs)), (tu, .inl (cI, 36, .inl ts)), (lk, .inl (cJ, 3, .inr (.inl lo))), (f1, .inl (cJ, 6, .inr (.inl ff))), (s2, .inl (cJ, 6, .inr (.inl sf))), (ms, .inl (cI, 6, .inl mm)), (nx, .inl (cI, 6, .inl nf)), (bs, .inl (cI, 6, .inl bf))] := hD
  refine lv_aload_n hx hb dX7_result_5 rfl (lv_at hl 0 rfl) ?_
  refine va_get (D := D) (ci := 4) (v := .int re) (C := RX7) (T := TX7) (N := 15) hx hb hts hinX7 hown hK hP 0 rfl rfl 2 (by decide) hfl73 (fun _ h9 => h9) rfl dX7_result_6 ?_
  refine W.iret (v := re) hx hb hr (fun tt ht hW => ⟨⟨re, (), rfl, ?_, by rw [ht]; exact hP, va_K.moved hW.alike hK, hD⟩, hS.F ht⟩) hS.2.2 dX7_result_9
  exact rfl

set_option maxHeartbeats 400000 in
set_option maxRecDepth 100000 in
theorem c_X7_mover_r (l : Launch) (D : va_G) (cI cJ : ClassId) (sz : Nat) (h0 ow cl tu lk f1 s2 ms nx bs : Nat) (th re mt fd : Int32) (w k : Nat) (fo lo ff sf : Nat → Int64) (cs ts mm nf bf : Nat → Int32)  : Met l yX7_mover wsX7_mover ({ frames := 0, cells := 0, slots := 0, locals := 0 } : Room) (va_Pc [.ref h0] (pv_C D cI cJ [(h0, .inr (4, [.int th, .ref ow, .int re, .int (nI w), .int mt, .ref cl, .ref tu, .int (nI k), .ref lk, .ref f1, .ref s2, .ref ms, .ref nx, .ref bs, .int fd])), (ow, .inl (cJ, 3, .inr (.inl fo))), (cl, .inl (cI, 36, .inl cs)), (tu, .inl (cI, 36, .inl ts)), (lk, .inl (cJ, 3, .inr (.inl lo))), (f1, .inl (cJ, 6, .inr (.inl ff))), (s2, .inl (cJ, 6, .inr (.inl sf))), (ms, .inl (cI, 6, .inl mm)), (nx, .inl (cI, 6, .inl nf)), (bs, .inl (cI, 6, .inl bf))] sz)) (va_Qi (fun (r : Int32) (u : Unit) => r = if re = 0 then nI w else 0) (fun (u : Unit) => pv_B D cI cJ (va_A [(h0, .inr (4, [.int th, .ref ow, .int re, .int (nI w), .int mt, .ref cl, .ref tu, .int (nI k), .ref lk, .ref f1, .ref s2, .ref ms, .ref nx, .ref bs, .int fd])), (ow, .inl (cJ, 3, .inr (.inl fo))), (cl, .inl (cI, 36, .inl cs)), (tu, .inl (cI, 36, .inl ts)), (lk, .inl (cJ, 3, .inr (.inl lo))), (f1, .inl (cJ, 6, .inr (.inl ff))), (s2, .inl (cJ, 6, .inr (.inl sf))), (ms, .inl (cI, 6, .inl mm)), (nx, .inl (cI, 6, .inl nf)), (bs, .inl (cI, 6, .inl bf))] sz) [(h0, .inr (4, [.int 0, .ref ow, .int re, .int (nI w), .int mt, .ref cl, .ref tu, .int (nI k), .ref lk, .ref f1, .ref s2, .ref ms, .ref nx, .ref bs, .int fd])), (ow, .inl (cJ, 3, .inr (.inl fo))), (cl, .inl (cI, 36, .inl cs)), (tu, .inl (cI, 36, .inl ts)), (lk, .inl (cJ, 3, .inr (.inl lo))), (f1, .inl (cJ, 6, .inr (.inl ff))), (s2, .inl (cJ, 6, .inr (.inl sf))), (ms, .inl (cI, 6, .inl mm)), (nx, .inl (cI, 6, .inl nf)), (bs, .inl (cI, 6, .inl bf))]) (va_A [(h0, .inr (4, [.int th, .ref ow, .int re, .int (nI w), .int mt, .ref cl, .ref tu, .int (nI k), .ref lk, .ref f1, .ref s2, .ref ms, .ref nx, .ref bs, .int fd])), (ow, .inl (cJ, 3, .inr (.inl fo))), (cl, .inl (cI, 36, .inl cs)), (tu, .inl (cI, 36, .inl ts)), (lk, .inl (cJ, 3, .inr (.inl lo))), (f1, .inl (cJ, 6, .inr (.inl ff))), (s2, .inl (cJ, 6, .inr (.inl sf))), (ms, .inl (cI, 6, .inl mm)), (nx, .inl (cI, 6, .inl nf)), (bs, .inl (cI, 6, .inl bf))] sz)) 0 0 (va_A [(h0, .inr (4, [.int th, .ref ow, .int re, .int (nI w), .int mt, .ref cl, .ref tu, .int (nI k), .ref lk, .ref f1, .ref s2, .ref ms, .ref nx, .ref bs, .int fd])), (ow, .inl (cJ, 3, .inr (.inl fo))), (cl, .inl (cI, 36, .inl cs)), (tu, .inl (cI, 36, .inl ts)), (lk, .inl (cJ, 3, .inr (.inl lo))), (f1, .inl (cJ, 6, .inr (.inl ff))), (s2, .inl (cJ, 6, .inr (.inl sf))), (ms, .inl (cI, 6, .inl mm)), (nx, .inl (cI, 6, .inl nf)), (bs, .inl (cI, 6, .inl bf))] sz) := by
  refine Met.ofW (cc := cX7_mover) (maxL := 1) (ret := (some .int)) (by decide) rfl ?_
  intro p e s m args below meth c s₁ B hml hv
  obtain ⟨rfl, rfl, hP, hK, hD0⟩ := hv
  have hx := B.exec
  have hb := B.bytes
  have hr := B.returns
  have hts := atoms_spec (ws := wsX7_mover) B.pre
  have hown : s.vm.findClass RX7 = some m.cls := findClass_of_methodNamed B.named
  have hlocks := B.notSynchronized
  have hD := hD0.self (sz := s.heap.size)
  generalize hAe : va_A [(h0, .inr (4, [.int th, .ref ow, .int re, .int (nI w), .int mt, .ref cl, .ref tu, .int (nI k), .ref lk, .ref f1, .ref s2, .ref ms, .ref nx, .ref bs, .int fd])), (ow, .inl (cJ, 3, .inr (.inl fo))), (cl, .inl (cI, 36, .inl cs)), (tu, .inl (cI, 36, .inl ts)), (lk, .inl (cJ, 3, .inr (.inl lo))), (f1, .inl (cJ, 6, .inr (.inl ff))), (s2, .inl (cJ, 6, .inr (.inl sf))), (ms, .inl (cI, 6, .inl mm)), (nx, .inl (cI, 6, .inl nf)), (bs, .inl (cI, 6, .inl bf))] s.heap.size = A at hD ⊢
  have hA : ∀ q : Nat, s.heap.size ≤ q → A q := fun q h => by rw [← hAe]; exact Or.inr h
  have hS : va_S A s.heap s.heap [] := va_S.rf
  have hinX7 : ∀ w ∈ wsX70, w ∈ wsX7_mover := by decide +kernel
  have hfl42 : (Cond.fieldLink RX7 42 "TwistquadModel" "thrown" "I").before ([.ref h0] : List Value).toArray s = true := hts _ (by decide +kernel)
  have hfl73 : (Cond.fieldLink RX7 73 "TwistquadModel" "result" "I").before ([.ref h0] : List Value).toArray s = true := hts _ (by decide +kernel)
  have hfl13 : (Cond.fieldLink RX7 13 "TwistquadModel" "mover" "I").before ([.ref h0] : List Value).toArray s = true := hts _ (by decide +kernel)
  have hl := lv_entry ([.ref h0]) (n := 1) (Nat.le_of_ble_eq_true rfl)
  rw [lg_entry_eq]
  generalize (lg_sl ([.ref h0]) ++ List.replicate (1 - (lg_sl ([.ref h0])).length) Slot.unset).toArray = ls at hl ⊢
  have hl : lv_has ls 1 [(0, .ref h0)] := hl
  refine lv_aload_n hx hb dX7_mover_0 rfl (lv_at hl 0 rfl) ?_
  refine lv_iconst (v := 0) hx hb dX7_mover_1 (by decide) ?_
  refine va_put (D := D) (ci := 4) (v := .int 0) (ty := .int) (C := RX7) (T := TX7) (N := 15) hx hb hts hinX7 tyX7 tyX7_ok nmX7 hown hK hP hD hS 0 rfl rfl 0 (by decide) hfl42 (fun _ h9 => h9) rfl (by decide +kernel) rfl rfl (Nat.le_of_ble_eq_true rfl) dX7_mover_2 (fun H locs hP hD hS => ?_)
  have hP : va_P D vwCl [(h0, .inr (4, [.int 0, .ref ow, .int re, .int (nI w), .int mt, .ref cl, .ref tu, .int (nI k), .ref lk, .ref f1, .ref s2, .ref ms, .ref nx, .ref bs, .int fd])), (ow, .inl (cJ, 3, .inr (.inl fo))), (cl, .inl (cI, 36, .inl cs)), (tu, .inl (cI, 36, .inl ts)), (lk, .inl (cJ, 3, .inr (.inl lo))), (f1, .inl (cJ, 6, .inr (.inl ff))), (s2, .inl (cJ, 6, .inr (.inl sf))), (ms, .inl (cI, 6, .inl mm)), (nx, .inl (cI, 6, .inl nf)), (bs, .inl (cI, 6, .inl bf))] H := hP
  have hD : va_D A [(h0, .inr (4, [.int 0, .ref ow, .int re, .int (nI w), .int mt, .ref cl, .ref tu, .int (nI k), .ref lk, .ref f1, .ref s2, .ref ms, .ref nx, .ref bs, .int fd])), (ow, .inl (cJ, 3, .inr (.inl fo))), (cl, .inl (cI, 36, .inl cs)), (tu, .inl (cI, 36, .inl ts)), (lk, .inl (cJ, 3, .inr (.inl lo))), (f1, .inl (cJ, 6, .inr (.inl ff))), (s2, .inl (cJ, 6, .inr (.inl sf))), (ms, .inl (cI, 6, .inl mm)), (nx, .inl (cI, 6, .inl nf)), (bs, .inl (cI, 6, .inl bf))] := hD
  refine lv_aload_n hx hb dX7_mover_5 rfl (lv_at hl 0 rfl) ?_
  refine va_get (D := D) (ci := 4) (v := .int re) (C := RX7) (T := TX7) (N := 15) hx hb hts hinX7 hown hK hP 0 rfl rfl 2 (by decide) hfl73 (fun _ h9 => h9) rfl dX7_mover_6 ?_
  refine lv_if_ne (tgt := 19) hx hb dX7_mover_9 (by decide) (fun c9 => ?_) (fun c9 => ?_)
  · refine lv_iconst (v := 0) hx hb dX7_mover_19 (by decide) ?_
    refine W.iret (v := 0) hx hb hr (fun tt ht hW => ⟨⟨0, (), rfl, ?_, by rw [ht]; exact hP, va_K.moved hW.alike hK, hD⟩, hS.F ht⟩) hS.2.2 dX7_mover_20
    first | (rw [if_pos c9]; done) | (rw [if_neg c9]; done)
  · refine lv_aload_n hx hb dX7_mover_12 rfl (lv_at hl 0 rfl) ?_
    refine va_get (D := D) (ci := 4) (v := .int (nI w)) (C := RX7) (T := TX7) (N := 15) hx hb hts hinX7 hown hK hP 0 rfl rfl 3 (by decide) hfl13 (fun _ h9 => h9) rfl dX7_mover_13 ?_
    refine lv_goto (tgt := 20) hx hb dX7_mover_16 (by decide) ?_
    refine W.iret (v := (nI w)) hx hb hr (fun tt ht hW => ⟨⟨(nI w), (), rfl, ?_, by rw [ht]; exact hP, va_K.moved hW.alike hK, hD⟩, hS.F ht⟩) hS.2.2 dX7_mover_20
    first | (rw [if_pos c9]; done) | (rw [if_neg c9]; done)

set_option maxHeartbeats 400000 in
set_option maxRecDepth 100000 in
theorem c_X7_mustTurn_r (l : Launch) (D : va_G) (cI cJ : ClassId) (sz : Nat) (h0 ow cl tu lk f1 s2 ms nx bs : Nat) (th re mt fd : Int32) (w k : Nat) (fo lo ff sf : Nat → Int64) (cs ts mm nf bf : Nat → Int32) (hz : mt = 0 ∨ mt = 1) : Met l yX7_mustTurn wsX7_mustTurn ({ frames := 0, cells := 0, slots := 0, locals := 0 } : Room) (va_Pc [.ref h0] (pv_C D cI cJ [(h0, .inr (4, [.int th, .ref ow, .int re, .int (nI w), .int mt, .ref cl, .ref tu, .int (nI k), .ref lk, .ref f1, .ref s2, .ref ms, .ref nx, .ref bs, .int fd])), (ow, .inl (cJ, 3, .inr (.inl fo))), (cl, .inl (cI, 36, .inl cs)), (tu, .inl (cI, 36, .inl ts)), (lk, .inl (cJ, 3, .inr (.inl lo))), (f1, .inl (cJ, 6, .inr (.inl ff))), (s2, .inl (cJ, 6, .inr (.inl sf))), (ms, .inl (cI, 6, .inl mm)), (nx, .inl (cI, 6, .inl nf)), (bs, .inl (cI, 6, .inl bf))] sz)) (va_Qi (fun (r : Int32) (u : Unit) => r = mt) (fun (u : Unit) => pv_B D cI cJ (va_A [(h0, .inr (4, [.int th, .ref ow, .int re, .int (nI w), .int mt, .ref cl, .ref tu, .int (nI k), .ref lk, .ref f1, .ref s2, .ref ms, .ref nx, .ref bs, .int fd])), (ow, .inl (cJ, 3, .inr (.inl fo))), (cl, .inl (cI, 36, .inl cs)), (tu, .inl (cI, 36, .inl ts)), (lk, .inl (cJ, 3, .inr (.inl lo))), (f1, .inl (cJ, 6, .inr (.inl ff))), (s2, .inl (cJ, 6, .inr (.inl sf))), (ms, .inl (cI, 6, .inl mm)), (nx, .inl (cI, 6, .inl nf)), (bs, .inl (cI, 6, .inl bf))] sz) [(h0, .inr (4, [.int 0, .ref ow, .int re, .int (nI w), .int mt, .ref cl, .ref tu, .int (nI k), .ref lk, .ref f1, .ref s2, .ref ms, .ref nx, .ref bs, .int fd])), (ow, .inl (cJ, 3, .inr (.inl fo))), (cl, .inl (cI, 36, .inl cs)), (tu, .inl (cI, 36, .inl ts)), (lk, .inl (cJ, 3, .inr (.inl lo))), (f1, .inl (cJ, 6, .inr (.inl ff))), (s2, .inl (cJ, 6, .inr (.inl sf))), (ms, .inl (cI, 6, .inl mm)), (nx, .inl (cI, 6, .inl nf)), (bs, .inl (cI, 6, .inl bf))]) (va_A [(h0, .inr (4, [.int th, .ref ow, .int re, .int (nI w), .int mt, .ref cl, .ref tu, .int (nI k), .ref lk, .ref f1, .ref s2, .ref ms, .ref nx, .ref bs, .int fd])), (ow, .inl (cJ, 3, .inr (.inl fo))), (cl, .inl (cI, 36, .inl cs)), (tu, .inl (cI, 36, .inl ts)), (lk, .inl (cJ, 3, .inr (.inl lo))), (f1, .inl (cJ, 6, .inr (.inl ff))), (s2, .inl (cJ, 6, .inr (.inl sf))), (ms, .inl (cI, 6, .inl mm)), (nx, .inl (cI, 6, .inl nf)), (bs, .inl (cI, 6, .inl bf))] sz)) 0 0 (va_A [(h0, .inr (4, [.int th, .ref ow, .int re, .int (nI w), .int mt, .ref cl, .ref tu, .int (nI k), .ref lk, .ref f1, .ref s2, .ref ms, .ref nx, .ref bs, .int fd])), (ow, .inl (cJ, 3, .inr (.inl fo))), (cl, .inl (cI, 36, .inl cs)), (tu, .inl (cI, 36, .inl ts)), (lk, .inl (cJ, 3, .inr (.inl lo))), (f1, .inl (cJ, 6, .inr (.inl ff))), (s2, .inl (cJ, 6, .inr (.inl sf))), (ms, .inl (cI, 6, .inl mm)), (nx, .inl (cI, 6, .inl nf)), (bs, .inl (cI, 6, .inl bf))] sz) := by
  refine Met.ofW (cc := cX7_mustTurn) (maxL := 1) (ret := (some .boolean)) (by decide) rfl ?_
  intro p e s m args below meth c s₁ B hml hv
  obtain ⟨rfl, rfl, hP, hK, hD0⟩ := hv
  have hx := B.exec
  have hb := B.bytes
  have hr := B.returns
  have hts := atoms_spec (ws := wsX7_mustTurn) B.pre
  have hown : s.vm.findClass RX7 = some m.cls := findClass_of_methodNamed B.named
  have hlocks := B.notSynchronized
  have hD := hD0.self (sz := s.heap.size)
  generalize hAe : va_A [(h0, .inr (4, [.int th, .ref ow, .int re, .int (nI w), .int mt, .ref cl, .ref tu, .int (nI k), .ref lk, .ref f1, .ref s2, .ref ms, .ref nx, .ref bs, .int fd])), (ow, .inl (cJ, 3, .inr (.inl fo))), (cl, .inl (cI, 36, .inl cs)), (tu, .inl (cI, 36, .inl ts)), (lk, .inl (cJ, 3, .inr (.inl lo))), (f1, .inl (cJ, 6, .inr (.inl ff))), (s2, .inl (cJ, 6, .inr (.inl sf))), (ms, .inl (cI, 6, .inl mm)), (nx, .inl (cI, 6, .inl nf)), (bs, .inl (cI, 6, .inl bf))] s.heap.size = A at hD ⊢
  have hA : ∀ q : Nat, s.heap.size ≤ q → A q := fun q h => by rw [← hAe]; exact Or.inr h
  have hS : va_S A s.heap s.heap [] := va_S.rf
  have hinX7 : ∀ w ∈ wsX70, w ∈ wsX7_mustTurn := by decide +kernel
  have hfl42 : (Cond.fieldLink RX7 42 "TwistquadModel" "thrown" "I").before ([.ref h0] : List Value).toArray s = true := hts _ (by decide +kernel)
  have hfl76 : (Cond.fieldLink RX7 76 "TwistquadModel" "mustTurn" "Z").before ([.ref h0] : List Value).toArray s = true := hts _ (by decide +kernel)
  have hl := lv_entry ([.ref h0]) (n := 1) (Nat.le_of_ble_eq_true rfl)
  rw [lg_entry_eq]
  generalize (lg_sl ([.ref h0]) ++ List.replicate (1 - (lg_sl ([.ref h0])).length) Slot.unset).toArray = ls at hl ⊢
  have hl : lv_has ls 1 [(0, .ref h0)] := hl
  refine lv_aload_n hx hb dX7_mustTurn_0 rfl (lv_at hl 0 rfl) ?_
  refine lv_iconst (v := 0) hx hb dX7_mustTurn_1 (by decide) ?_
  refine va_put (D := D) (ci := 4) (v := .int 0) (ty := .int) (C := RX7) (T := TX7) (N := 15) hx hb hts hinX7 tyX7 tyX7_ok nmX7 hown hK hP hD hS 0 rfl rfl 0 (by decide) hfl42 (fun _ h9 => h9) rfl (by decide +kernel) rfl rfl (Nat.le_of_ble_eq_true rfl) dX7_mustTurn_2 (fun H locs hP hD hS => ?_)
  have hP : va_P D vwCl [(h0, .inr (4, [.int 0, .ref ow, .int re, .int (nI w), .int mt, .ref cl, .ref tu, .int (nI k), .ref lk, .ref f1, .ref s2, .ref ms, .ref nx, .ref bs, .int fd])), (ow, .inl (cJ, 3, .inr (.inl fo))), (cl, .inl (cI, 36, .inl cs)), (tu, .inl (cI, 36, .inl ts)), (lk, .inl (cJ, 3, .inr (.inl lo))), (f1, .inl (cJ, 6, .inr (.inl ff))), (s2, .inl (cJ, 6, .inr (.inl sf))), (ms, .inl (cI, 6, .inl mm)), (nx, .inl (cI, 6, .inl nf)), (bs, .inl (cI, 6, .inl bf))] H := hP
  have hD : va_D A [(h0, .inr (4, [.int 0, .ref ow, .int re, .int (nI w), .int mt, .ref cl, .ref tu, .int (nI k), .ref lk, .ref f1, .ref s2, .ref ms, .ref nx, .ref bs, .int fd])), (ow, .inl (cJ, 3, .inr (.inl fo))), (cl, .inl (cI, 36, .inl cs)), (tu, .inl (cI, 36, .inl ts)), (lk, .inl (cJ, 3, .inr (.inl lo))), (f1, .inl (cJ, 6, .inr (.inl ff))), (s2, .inl (cJ, 6, .inr (.inl sf))), (ms, .inl (cI, 6, .inl mm)), (nx, .inl (cI, 6, .inl nf)), (bs, .inl (cI, 6, .inl bf))] := hD
  refine lv_aload_n hx hb dX7_mustTurn_5 rfl (lv_at hl 0 rfl) ?_
  refine va_get (D := D) (ci := 4) (v := .int mt) (C := RX7) (T := TX7) (N := 15) hx hb hts hinX7 hown hK hP 0 rfl rfl 4 (by decide) hfl76 (fun _ h9 => h9) rfl dX7_mustTurn_6 ?_
  refine W.zret (v := mt) hx hb hr (by rcases hz with h | h <;> rw [h] <;> rfl) (fun tt ht hW => ⟨⟨mt, (), rfl, ?_, by rw [ht]; exact hP, va_K.moved hW.alike hK, hD⟩, hS.F ht⟩) hS.2.2 dX7_mustTurn_9
  exact rfl

set_option maxHeartbeats 400000 in
set_option maxRecDepth 100000 in
theorem c_X7_marbles_r (l : Launch) (D : va_G) (cI cJ : ClassId) (sz : Nat) (h0 ow cl tu lk f1 s2 ms nx bs : Nat) (th re mt fd : Int32) (w k : Nat) (fo lo ff sf : Nat → Int64) (cs ts mm nf bf : Nat → Int32)  : Met l yX7_marbles wsX7_marbles ({ frames := 2, cells := 0, slots := 0, locals := 45 } : Room) (va_Pc [.ref h0] (pv_C D cI cJ [(h0, .inr (4, [.int th, .ref ow, .int re, .int (nI w), .int mt, .ref cl, .ref tu, .int (nI k), .ref lk, .ref f1, .ref s2, .ref ms, .ref nx, .ref bs, .int fd])), (ow, .inl (cJ, 3, .inr (.inl fo))), (cl, .inl (cI, 36, .inl cs)), (tu, .inl (cI, 36, .inl ts)), (lk, .inl (cJ, 3, .inr (.inl lo))), (f1, .inl (cJ, 6, .inr (.inl ff))), (s2, .inl (cJ, 6, .inr (.inl sf))), (ms, .inl (cI, 6, .inl mm)), (nx, .inl (cI, 6, .inl nf)), (bs, .inl (cI, 6, .inl bf))] sz)) (va_Qi (fun (r : Int32) (u : Unit) => r = nI (msize (fo 1 ||| fo 2) 36)) (fun (u : Unit) => pv_B D cI cJ (va_A [(h0, .inr (4, [.int th, .ref ow, .int re, .int (nI w), .int mt, .ref cl, .ref tu, .int (nI k), .ref lk, .ref f1, .ref s2, .ref ms, .ref nx, .ref bs, .int fd])), (ow, .inl (cJ, 3, .inr (.inl fo))), (cl, .inl (cI, 36, .inl cs)), (tu, .inl (cI, 36, .inl ts)), (lk, .inl (cJ, 3, .inr (.inl lo))), (f1, .inl (cJ, 6, .inr (.inl ff))), (s2, .inl (cJ, 6, .inr (.inl sf))), (ms, .inl (cI, 6, .inl mm)), (nx, .inl (cI, 6, .inl nf)), (bs, .inl (cI, 6, .inl bf))] sz) [(h0, .inr (4, [.int 0, .ref ow, .int re, .int (nI w), .int mt, .ref cl, .ref tu, .int (nI k), .ref lk, .ref f1, .ref s2, .ref ms, .ref nx, .ref bs, .int fd])), (ow, .inl (cJ, 3, .inr (.inl fo))), (cl, .inl (cI, 36, .inl cs)), (tu, .inl (cI, 36, .inl ts)), (lk, .inl (cJ, 3, .inr (.inl lo))), (f1, .inl (cJ, 6, .inr (.inl ff))), (s2, .inl (cJ, 6, .inr (.inl sf))), (ms, .inl (cI, 6, .inl mm)), (nx, .inl (cI, 6, .inl nf)), (bs, .inl (cI, 6, .inl bf))]) (va_A [(h0, .inr (4, [.int th, .ref ow, .int re, .int (nI w), .int mt, .ref cl, .ref tu, .int (nI k), .ref lk, .ref f1, .ref s2, .ref ms, .ref nx, .ref bs, .int fd])), (ow, .inl (cJ, 3, .inr (.inl fo))), (cl, .inl (cI, 36, .inl cs)), (tu, .inl (cI, 36, .inl ts)), (lk, .inl (cJ, 3, .inr (.inl lo))), (f1, .inl (cJ, 6, .inr (.inl ff))), (s2, .inl (cJ, 6, .inr (.inl sf))), (ms, .inl (cI, 6, .inl mm)), (nx, .inl (cI, 6, .inl nf)), (bs, .inl (cI, 6, .inl bf))] sz)) 0 0 (va_A [(h0, .inr (4, [.int th, .ref ow, .int re, .int (nI w), .int mt, .ref cl, .ref tu, .int (nI k), .ref lk, .ref f1, .ref s2, .ref ms, .ref nx, .ref bs, .int fd])), (ow, .inl (cJ, 3, .inr (.inl fo))), (cl, .inl (cI, 36, .inl cs)), (tu, .inl (cI, 36, .inl ts)), (lk, .inl (cJ, 3, .inr (.inl lo))), (f1, .inl (cJ, 6, .inr (.inl ff))), (s2, .inl (cJ, 6, .inr (.inl sf))), (ms, .inl (cI, 6, .inl mm)), (nx, .inl (cI, 6, .inl nf)), (bs, .inl (cI, 6, .inl bf))] sz) := by
  refine Met.ofW (cc := cX7_marbles) (maxL := 1) (ret := (some .int)) (by decide) rfl ?_
  intro p e s m args below meth c s₁ B hml hv
  obtain ⟨rfl, rfl, hP, hK, hD0⟩ := hv
  have hx := B.exec
  have hb := B.bytes
  have hr := B.returns
  have hts := atoms_spec (ws := wsX7_marbles) B.pre
  have hown : s.vm.findClass RX7 = some m.cls := findClass_of_methodNamed B.named
  have hlocks := B.notSynchronized
  have hD := hD0.self (sz := s.heap.size)
  generalize hAe : va_A [(h0, .inr (4, [.int th, .ref ow, .int re, .int (nI w), .int mt, .ref cl, .ref tu, .int (nI k), .ref lk, .ref f1, .ref s2, .ref ms, .ref nx, .ref bs, .int fd])), (ow, .inl (cJ, 3, .inr (.inl fo))), (cl, .inl (cI, 36, .inl cs)), (tu, .inl (cI, 36, .inl ts)), (lk, .inl (cJ, 3, .inr (.inl lo))), (f1, .inl (cJ, 6, .inr (.inl ff))), (s2, .inl (cJ, 6, .inr (.inl sf))), (ms, .inl (cI, 6, .inl mm)), (nx, .inl (cI, 6, .inl nf)), (bs, .inl (cI, 6, .inl bf))] s.heap.size = A at hD ⊢
  have hA : ∀ q : Nat, s.heap.size ≤ q → A q := fun q h => by rw [← hAe]; exact Or.inr h
  have hS : va_S A s.heap s.heap [] := va_S.rf
  have hinX7 : ∀ w ∈ wsX70, w ∈ wsX7_marbles := by decide +kernel
  have hfl42 : (Cond.fieldLink RX7 42 "TwistquadModel" "thrown" "I").before ([.ref h0] : List Value).toArray s = true := hts _ (by decide +kernel)
  have hfl7 : (Cond.fieldLink RX7 7 "TwistquadModel" "own" "[J").before ([.ref h0] : List Value).toArray s = true := hts _ (by decide +kernel)
  have hl := lv_entry ([.ref h0]) (n := 1) (Nat.le_of_ble_eq_true rfl)
  rw [lg_entry_eq]
  generalize (lg_sl ([.ref h0]) ++ List.replicate (1 - (lg_sl ([.ref h0])).length) Slot.unset).toArray = ls at hl ⊢
  have hl : lv_has ls 1 [(0, .ref h0)] := hl
  refine lv_aload_n hx hb dX7_marbles_0 rfl (lv_at hl 0 rfl) ?_
  refine lv_iconst (v := 0) hx hb dX7_marbles_1 (by decide) ?_
  refine va_put (D := D) (ci := 4) (v := .int 0) (ty := .int) (C := RX7) (T := TX7) (N := 15) hx hb hts hinX7 tyX7 tyX7_ok nmX7 hown hK hP hD hS 0 rfl rfl 0 (by decide) hfl42 (fun _ h9 => h9) rfl (by decide +kernel) rfl rfl (Nat.le_of_ble_eq_true rfl) dX7_marbles_2 (fun H locs hP hD hS => ?_)
  have hP : va_P D vwCl [(h0, .inr (4, [.int 0, .ref ow, .int re, .int (nI w), .int mt, .ref cl, .ref tu, .int (nI k), .ref lk, .ref f1, .ref s2, .ref ms, .ref nx, .ref bs, .int fd])), (ow, .inl (cJ, 3, .inr (.inl fo))), (cl, .inl (cI, 36, .inl cs)), (tu, .inl (cI, 36, .inl ts)), (lk, .inl (cJ, 3, .inr (.inl lo))), (f1, .inl (cJ, 6, .inr (.inl ff))), (s2, .inl (cJ, 6, .inr (.inl sf))), (ms, .inl (cI, 6, .inl mm)), (nx, .inl (cI, 6, .inl nf)), (bs, .inl (cI, 6, .inl bf))] H := hP
  have hD : va_D A [(h0, .inr (4, [.int 0, .ref ow, .int re, .int (nI w), .int mt, .ref cl, .ref tu, .int (nI k), .ref lk, .ref f1, .ref s2, .ref ms, .ref nx, .ref bs, .int fd])), (ow, .inl (cJ, 3, .inr (.inl fo))), (cl, .inl (cI, 36, .inl cs)), (tu, .inl (cI, 36, .inl ts)), (lk, .inl (cJ, 3, .inr (.inl lo))), (f1, .inl (cJ, 6, .inr (.inl ff))), (s2, .inl (cJ, 6, .inr (.inl sf))), (ms, .inl (cI, 6, .inl mm)), (nx, .inl (cI, 6, .inl nf)), (bs, .inl (cI, 6, .inl bf))] := hD
  refine lv_aload_n hx hb dX7_marbles_5 rfl (lv_at hl 0 rfl) ?_
  refine va_get (D := D) (ci := 4) (v := .ref ow) (C := RX7) (T := TX7) (N := 15) hx hb hts hinX7 hown hK hP 0 rfl rfl 1 (by decide) hfl7 (fun _ h9 => h9) rfl dX7_marbles_6 ?_
  refine lv_iconst (v := 1) hx hb dX7_marbles_9 (by decide) ?_
  refine va_lald hx hb hK hP 1 1 rfl rfl (vp_in_nI (n := 1) (N := 3) (by omega) (by decide)) dX7_marbles_10 ?_
  refine pk_tl (y := (fo 1)) (congrArg fo (pk_cl 1)) ?_
  refine lv_aload_n hx hb dX7_marbles_11 rfl (lv_at hl 0 rfl) ?_
  refine va_get (D := D) (ci := 4) (v := .ref ow) (C := RX7) (T := TX7) (N := 15) hx hb hts hinX7 hown hK hP 0 rfl rfl 1 (by decide) hfl7 (fun _ h9 => h9) rfl dX7_marbles_12 ?_
  refine lv_iconst (v := 2) hx hb dX7_marbles_15 (by decide) ?_
  refine va_lald hx hb hK hP 1 1 rfl rfl (vp_in_nI (n := 2) (N := 3) (by omega) (by decide)) dX7_marbles_16 ?_
  refine pk_tl (y := (fo 2)) (congrArg fo (pk_cl 2)) ?_
  refine lv_lor hx hb dX7_marbles_17 ?_
  refine lv_topl (fun x17 ex17 => ?_)
  refine vp_callSi (W.runS (As := [.long x17]) (rest := []) ⟨hx, hb, hml, hown, hts⟩ (c_X7_sizeOf l x17) (va_cwS 1 hts gX7_marbles_X7_sizeOf rfl rfl rfl (by decide +kernel) ⟨Nat.le_of_ble_eq_true rfl, Nat.le_of_ble_eq_true rfl⟩) ⟨px_blind0, fun U hU hW => ⟨rfl, trivial⟩⟩ rfl rfl hl.1 rfl (lv_room (Nat.le_of_ble_eq_true rfl)) dX7_marbles_18 ⟨(Nat.le_of_ble_eq_true rfl), (Nat.le_of_ble_eq_true rfl)⟩) (fun r18 er18 => ?_)
  obtain rfl := er18.symm
  obtain rfl := ex17.symm
  refine W.iret (v := (nI (msize ((fo 1) ||| (fo 2)) 36))) hx hb hr (fun tt ht hW => ⟨⟨(nI (msize ((fo 1) ||| (fo 2)) 36)), (), rfl, ?_, by rw [ht]; exact hP, va_K.moved hW.alike hK, hD⟩, hS.F ht⟩) hS.2.2 dX7_marbles_21
  exact rfl

set_option maxHeartbeats 400000 in
set_option maxRecDepth 100000 in
theorem c_X7_moves_r (l : Launch) (D : va_G) (cI cJ : ClassId) (sz : Nat) (h0 ow cl tu lk f1 s2 ms nx bs : Nat) (th re mt fd : Int32) (w k : Nat) (fo lo ff sf : Nat → Int64) (cs ts mm nf bf : Nat → Int32)  : Met l yX7_moves wsX7_moves ({ frames := 0, cells := 0, slots := 0, locals := 0 } : Room) (va_Pc [.ref h0] (pv_C D cI cJ [(h0, .inr (4, [.int th, .ref ow, .int re, .int (nI w), .int mt, .ref cl, .ref tu, .int (nI k), .ref lk, .ref f1, .ref s2, .ref ms, .ref nx, .ref bs, .int fd])), (ow, .inl (cJ, 3, .inr (.inl fo))), (cl, .inl (cI, 36, .inl cs)), (tu, .inl (cI, 36, .inl ts)), (lk, .inl (cJ, 3, .inr (.inl lo))), (f1, .inl (cJ, 6, .inr (.inl ff))), (s2, .inl (cJ, 6, .inr (.inl sf))), (ms, .inl (cI, 6, .inl mm)), (nx, .inl (cI, 6, .inl nf)), (bs, .inl (cI, 6, .inl bf))] sz)) (va_Qi (fun (r : Int32) (u : Unit) => r = nI k) (fun (u : Unit) => pv_B D cI cJ (va_A [(h0, .inr (4, [.int th, .ref ow, .int re, .int (nI w), .int mt, .ref cl, .ref tu, .int (nI k), .ref lk, .ref f1, .ref s2, .ref ms, .ref nx, .ref bs, .int fd])), (ow, .inl (cJ, 3, .inr (.inl fo))), (cl, .inl (cI, 36, .inl cs)), (tu, .inl (cI, 36, .inl ts)), (lk, .inl (cJ, 3, .inr (.inl lo))), (f1, .inl (cJ, 6, .inr (.inl ff))), (s2, .inl (cJ, 6, .inr (.inl sf))), (ms, .inl (cI, 6, .inl mm)), (nx, .inl (cI, 6, .inl nf)), (bs, .inl (cI, 6, .inl bf))] sz) [(h0, .inr (4, [.int 0, .ref ow, .int re, .int (nI w), .int mt, .ref cl, .ref tu, .int (nI k), .ref lk, .ref f1, .ref s2, .ref ms, .ref nx, .ref bs, .int fd])), (ow, .inl (cJ, 3, .inr (.inl fo))), (cl, .inl (cI, 36, .inl cs)), (tu, .inl (cI, 36, .inl ts)), (lk, .inl (cJ, 3, .inr (.inl lo))), (f1, .inl (cJ, 6, .inr (.inl ff))), (s2, .inl (cJ, 6, .inr (.inl sf))), (ms, .inl (cI, 6, .inl mm)), (nx, .inl (cI, 6, .inl nf)), (bs, .inl (cI, 6, .inl bf))]) (va_A [(h0, .inr (4, [.int th, .ref ow, .int re, .int (nI w), .int mt, .ref cl, .ref tu, .int (nI k), .ref lk, .ref f1, .ref s2, .ref ms, .ref nx, .ref bs, .int fd])), (ow, .inl (cJ, 3, .inr (.inl fo))), (cl, .inl (cI, 36, .inl cs)), (tu, .inl (cI, 36, .inl ts)), (lk, .inl (cJ, 3, .inr (.inl lo))), (f1, .inl (cJ, 6, .inr (.inl ff))), (s2, .inl (cJ, 6, .inr (.inl sf))), (ms, .inl (cI, 6, .inl mm)), (nx, .inl (cI, 6, .inl nf)), (bs, .inl (cI, 6, .inl bf))] sz)) 0 0 (va_A [(h0, .inr (4, [.int th, .ref ow, .int re, .int (nI w), .int mt, .ref cl, .ref tu, .int (nI k), .ref lk, .ref f1, .ref s2, .ref ms, .ref nx, .ref bs, .int fd])), (ow, .inl (cJ, 3, .inr (.inl fo))), (cl, .inl (cI, 36, .inl cs)), (tu, .inl (cI, 36, .inl ts)), (lk, .inl (cJ, 3, .inr (.inl lo))), (f1, .inl (cJ, 6, .inr (.inl ff))), (s2, .inl (cJ, 6, .inr (.inl sf))), (ms, .inl (cI, 6, .inl mm)), (nx, .inl (cI, 6, .inl nf)), (bs, .inl (cI, 6, .inl bf))] sz) := by
  refine Met.ofW (cc := cX7_moves) (maxL := 1) (ret := (some .int)) (by decide) rfl ?_
  intro p e s m args below meth c s₁ B hml hv
  obtain ⟨rfl, rfl, hP, hK, hD0⟩ := hv
  have hx := B.exec
  have hb := B.bytes
  have hr := B.returns
  have hts := atoms_spec (ws := wsX7_moves) B.pre
  have hown : s.vm.findClass RX7 = some m.cls := findClass_of_methodNamed B.named
  have hlocks := B.notSynchronized
  have hD := hD0.self (sz := s.heap.size)
  generalize hAe : va_A [(h0, .inr (4, [.int th, .ref ow, .int re, .int (nI w), .int mt, .ref cl, .ref tu, .int (nI k), .ref lk, .ref f1, .ref s2, .ref ms, .ref nx, .ref bs, .int fd])), (ow, .inl (cJ, 3, .inr (.inl fo))), (cl, .inl (cI, 36, .inl cs)), (tu, .inl (cI, 36, .inl ts)), (lk, .inl (cJ, 3, .inr (.inl lo))), (f1, .inl (cJ, 6, .inr (.inl ff))), (s2, .inl (cJ, 6, .inr (.inl sf))), (ms, .inl (cI, 6, .inl mm)), (nx, .inl (cI, 6, .inl nf)), (bs, .inl (cI, 6, .inl bf))] s.heap.size = A at hD ⊢
  have hA : ∀ q : Nat, s.heap.size ≤ q → A q := fun q h => by rw [← hAe]; exact Or.inr h
  have hS : va_S A s.heap s.heap [] := va_S.rf
  have hinX7 : ∀ w ∈ wsX70, w ∈ wsX7_moves := by decide +kernel
  have hfl42 : (Cond.fieldLink RX7 42 "TwistquadModel" "thrown" "I").before ([.ref h0] : List Value).toArray s = true := hts _ (by decide +kernel)
  have hfl83 : (Cond.fieldLink RX7 83 "TwistquadModel" "moves" "I").before ([.ref h0] : List Value).toArray s = true := hts _ (by decide +kernel)
  have hl := lv_entry ([.ref h0]) (n := 1) (Nat.le_of_ble_eq_true rfl)
  rw [lg_entry_eq]
  generalize (lg_sl ([.ref h0]) ++ List.replicate (1 - (lg_sl ([.ref h0])).length) Slot.unset).toArray = ls at hl ⊢
  have hl : lv_has ls 1 [(0, .ref h0)] := hl
  refine lv_aload_n hx hb dX7_moves_0 rfl (lv_at hl 0 rfl) ?_
  refine lv_iconst (v := 0) hx hb dX7_moves_1 (by decide) ?_
  refine va_put (D := D) (ci := 4) (v := .int 0) (ty := .int) (C := RX7) (T := TX7) (N := 15) hx hb hts hinX7 tyX7 tyX7_ok nmX7 hown hK hP hD hS 0 rfl rfl 0 (by decide) hfl42 (fun _ h9 => h9) rfl (by decide +kernel) rfl rfl (Nat.le_of_ble_eq_true rfl) dX7_moves_2 (fun H locs hP hD hS => ?_)
  have hP : va_P D vwCl [(h0, .inr (4, [.int 0, .ref ow, .int re, .int (nI w), .int mt, .ref cl, .ref tu, .int (nI k), .ref lk, .ref f1, .ref s2, .ref ms, .ref nx, .ref bs, .int fd])), (ow, .inl (cJ, 3, .inr (.inl fo))), (cl, .inl (cI, 36, .inl cs)), (tu, .inl (cI, 36, .inl ts)), (lk, .inl (cJ, 3, .inr (.inl lo))), (f1, .inl (cJ, 6, .inr (.inl ff))), (s2, .inl (cJ, 6, .inr (.inl sf))), (ms, .inl (cI, 6, .inl mm)), (nx, .inl (cI, 6, .inl nf)), (bs, .inl (cI, 6, .inl bf))] H := hP
  have hD : va_D A [(h0, .inr (4, [.int 0, .ref ow, .int re, .int (nI w), .int mt, .ref cl, .ref tu, .int (nI k), .ref lk, .ref f1, .ref s2, .ref ms, .ref nx, .ref bs, .int fd])), (ow, .inl (cJ, 3, .inr (.inl fo))), (cl, .inl (cI, 36, .inl cs)), (tu, .inl (cI, 36, .inl ts)), (lk, .inl (cJ, 3, .inr (.inl lo))), (f1, .inl (cJ, 6, .inr (.inl ff))), (s2, .inl (cJ, 6, .inr (.inl sf))), (ms, .inl (cI, 6, .inl mm)), (nx, .inl (cI, 6, .inl nf)), (bs, .inl (cI, 6, .inl bf))] := hD
  refine lv_aload_n hx hb dX7_moves_5 rfl (lv_at hl 0 rfl) ?_
  refine va_get (D := D) (ci := 4) (v := .int (nI k)) (C := RX7) (T := TX7) (N := 15) hx hb hts hinX7 hown hK hP 0 rfl rfl 7 (by decide) hfl83 (fun _ h9 => h9) rfl dX7_moves_6 ?_
  refine W.iret (v := (nI k)) hx hb hr (fun tt ht hW => ⟨⟨(nI k), (), rfl, ?_, by rw [ht]; exact hP, va_K.moved hW.alike hK, hD⟩, hS.F ht⟩) hS.2.2 dX7_moves_9
  exact rfl

set_option maxHeartbeats 400000 in
set_option maxRecDepth 100000 in
theorem c_X7_at_bad (l : Launch) (D : va_G) (cI cJ : ClassId) (sz : Nat) (h0 ow cl tu lk f1 s2 ms nx bs : Nat) (th re mt fd : Int32) (w k : Nat) (fo lo ff sf : Nat → Int64) (cs ts mm nf bf : Nat → Int32) (v : Int32) (hc : ¬ (0 ≤ v ∧ v ≤ 35)) : Met l yX7_at wsX7_at ({ frames := 2, cells := 0, slots := 0, locals := 42 } : Room) (va_Pc [.ref h0, .int v] (pv_C D cI cJ [(h0, .inr (4, [.int th, .ref ow, .int re, .int (nI w), .int mt, .ref cl, .ref tu, .int (nI k), .ref lk, .ref f1, .ref s2, .ref ms, .ref nx, .ref bs, .int fd])), (ow, .inl (cJ, 3, .inr (.inl fo))), (cl, .inl (cI, 36, .inl cs)), (tu, .inl (cI, 36, .inl ts)), (lk, .inl (cJ, 3, .inr (.inl lo))), (f1, .inl (cJ, 6, .inr (.inl ff))), (s2, .inl (cJ, 6, .inr (.inl sf))), (ms, .inl (cI, 6, .inl mm)), (nx, .inl (cI, 6, .inl nf)), (bs, .inl (cI, 6, .inl bf))] sz)) (va_Qi (fun (r : Int32) (u : Unit) => r = 0) (fun (u : Unit) => pv_B D cI cJ (va_A [(h0, .inr (4, [.int th, .ref ow, .int re, .int (nI w), .int mt, .ref cl, .ref tu, .int (nI k), .ref lk, .ref f1, .ref s2, .ref ms, .ref nx, .ref bs, .int fd])), (ow, .inl (cJ, 3, .inr (.inl fo))), (cl, .inl (cI, 36, .inl cs)), (tu, .inl (cI, 36, .inl ts)), (lk, .inl (cJ, 3, .inr (.inl lo))), (f1, .inl (cJ, 6, .inr (.inl ff))), (s2, .inl (cJ, 6, .inr (.inl sf))), (ms, .inl (cI, 6, .inl mm)), (nx, .inl (cI, 6, .inl nf)), (bs, .inl (cI, 6, .inl bf))] sz) [(h0, .inr (4, [.int 1, .ref ow, .int re, .int (nI w), .int mt, .ref cl, .ref tu, .int (nI k), .ref lk, .ref f1, .ref s2, .ref ms, .ref nx, .ref bs, .int fd])), (ow, .inl (cJ, 3, .inr (.inl fo))), (cl, .inl (cI, 36, .inl cs)), (tu, .inl (cI, 36, .inl ts)), (lk, .inl (cJ, 3, .inr (.inl lo))), (f1, .inl (cJ, 6, .inr (.inl ff))), (s2, .inl (cJ, 6, .inr (.inl sf))), (ms, .inl (cI, 6, .inl mm)), (nx, .inl (cI, 6, .inl nf)), (bs, .inl (cI, 6, .inl bf))]) (va_A [(h0, .inr (4, [.int th, .ref ow, .int re, .int (nI w), .int mt, .ref cl, .ref tu, .int (nI k), .ref lk, .ref f1, .ref s2, .ref ms, .ref nx, .ref bs, .int fd])), (ow, .inl (cJ, 3, .inr (.inl fo))), (cl, .inl (cI, 36, .inl cs)), (tu, .inl (cI, 36, .inl ts)), (lk, .inl (cJ, 3, .inr (.inl lo))), (f1, .inl (cJ, 6, .inr (.inl ff))), (s2, .inl (cJ, 6, .inr (.inl sf))), (ms, .inl (cI, 6, .inl mm)), (nx, .inl (cI, 6, .inl nf)), (bs, .inl (cI, 6, .inl bf))] sz)) 0 0 (va_A [(h0, .inr (4, [.int th, .ref ow, .int re, .int (nI w), .int mt, .ref cl, .ref tu, .int (nI k), .ref lk, .ref f1, .ref s2, .ref ms, .ref nx, .ref bs, .int fd])), (ow, .inl (cJ, 3, .inr (.inl fo))), (cl, .inl (cI, 36, .inl cs)), (tu, .inl (cI, 36, .inl ts)), (lk, .inl (cJ, 3, .inr (.inl lo))), (f1, .inl (cJ, 6, .inr (.inl ff))), (s2, .inl (cJ, 6, .inr (.inl sf))), (ms, .inl (cI, 6, .inl mm)), (nx, .inl (cI, 6, .inl nf)), (bs, .inl (cI, 6, .inl bf))] sz) := by
  refine Met.ofW (cc := cX7_at) (maxL := 2) (ret := (some .int)) (by decide) rfl ?_
  intro p e s m args below meth c s₁ B hml hv
  obtain ⟨rfl, rfl, hP, hK, hD0⟩ := hv
  have hx := B.exec
  have hb := B.bytes
  have hr := B.returns
  have hts := atoms_spec (ws := wsX7_at) B.pre
  have hown : s.vm.findClass RX7 = some m.cls := findClass_of_methodNamed B.named
  have hlocks := B.notSynchronized
  have hD := hD0.self (sz := s.heap.size)
  generalize hAe : va_A [(h0, .inr (4, [.int th, .ref ow, .int re, .int (nI w), .int mt, .ref cl, .ref tu, .int (nI k), .ref lk, .ref f1, .ref s2, .ref ms, .ref nx, .ref bs, .int fd])), (ow, .inl (cJ, 3, .inr (.inl fo))), (cl, .inl (cI, 36, .inl cs)), (tu, .inl (cI, 36, .inl ts)), (lk, .inl (cJ, 3, .inr (.inl lo))), (f1, .inl (cJ, 6, .inr (.inl ff))), (s2, .inl (cJ, 6, .inr (.inl sf))), (ms, .inl (cI, 6, .inl mm)), (nx, .inl (cI, 6, .inl nf)), (bs, .inl (cI, 6, .inl bf))] s.heap.size = A at hD ⊢
  have hA : ∀ q : Nat, s.heap.size ≤ q → A q := fun q h => by rw [← hAe]; exact Or.inr h
  have hS : va_S A s.heap s.heap [] := va_S.rf
  have hl := lv_entry ([.ref h0, .int v]) (n := 2) (Nat.le_of_ble_eq_true rfl)
  rw [lg_entry_eq]
  generalize (lg_sl ([.ref h0, .int v]) ++ List.replicate (2 - (lg_sl ([.ref h0, .int v])).length) Slot.unset).toArray = ls at hl ⊢
  have hl : lv_has ls 2 [(0, .ref h0), (1, .int v)] := hl
  refine lv_aload_n hx hb dX7_at_0 rfl (lv_at hl 0 rfl) ?_
  refine lv_iload_n hx hb dX7_at_1 rfl (lv_at hl 1 rfl) ?_
  refine vp_callSi (W.runS (As := [.int v]) (rest := [.ref h0]) ⟨hx, hb, hml, hown, hts⟩ (c_X7_isCell l v) (va_cwS 1 hts gX7_at_X7_isCell rfl rfl rfl (by decide +kernel) ⟨Nat.le_of_ble_eq_true rfl, Nat.le_of_ble_eq_true rfl⟩) ⟨px_blind0, fun U hU hW => ⟨rfl, trivial⟩⟩ rfl rfl hl.1 rfl (lv_room (Nat.le_of_ble_eq_true rfl)) dX7_at_2 ⟨(Nat.le_of_ble_eq_true rfl), (Nat.le_of_ble_eq_true rfl)⟩) (fun r2 er2 => ?_)
  obtain rfl := er2.symm
  refine pk_b (P := 0 ≤ v ∧ v ≤ 35) (fun b2 => ?_) (fun b2 => ?_)
  · exact absurd b2 hc
  · refine lv_if_eq (tgt := 12) hx hb dX7_at_5 (by decide) (fun c5 => ?_) (fun c5 => ?_)
    · refine lv_iconst (v := 1) hx hb dX7_at_12 (by decide) ?_
      have hPc := hP.sub (ws' := [(h0, .inr (4, [.int th, .ref ow, .int re, .int (nI w), .int mt, .ref cl, .ref tu, .int (nI k), .ref lk, .ref f1, .ref s2, .ref ms, .ref nx, .ref bs, .int fd])), (ow, .inl (cJ, 3, .inr (.inl fo))), (cl, .inl (cI, 36, .inl cs)), (tu, .inl (cI, 36, .inl ts)), (lk, .inl (cJ, 3, .inr (.inl lo))), (f1, .inl (cJ, 6, .inr (.inl ff))), (s2, .inl (cJ, 6, .inr (.inl sf))), (ms, .inl (cI, 6, .inl mm)), (nx, .inl (cI, 6, .inl nf)), (bs, .inl (cI, 6, .inl bf))]) [0, 1, 2, 3, 4, 5, 6, 7, 8, 9] rfl
      have hDc := hD.sub (ws' := [(h0, .inr (4, [.int th, .ref ow, .int re, .int (nI w), .int mt, .ref cl, .ref tu, .int (nI k), .ref lk, .ref f1, .ref s2, .ref ms, .ref nx, .ref bs, .int fd])), (ow, .inl (cJ, 3, .inr (.inl fo))), (cl, .inl (cI, 36, .inl cs)), (tu, .inl (cI, 36, .inl ts)), (lk, .inl (cJ, 3, .inr (.inl lo))), (f1, .inl (cJ, 6, .inr (.inl ff))), (s2, .inl (cJ, 6, .inr (.inl sf))), (ms, .inl (cI, 6, .inl mm)), (nx, .inl (cI, 6, .inl nf)), (bs, .inl (cI, 6, .inl bf))]) [0, 1, 2, 3, 4, 5, 6, 7, 8, 9] (by decide) rfl
      have hFc := va_free (wc := [(h0, .inr (4, [.int th, .ref ow, .int re, .int (nI w), .int mt, .ref cl, .ref tu, .int (nI k), .ref lk, .ref f1, .ref s2, .ref ms, .ref nx, .ref bs, .int fd])), (ow, .inl (cJ, 3, .inr (.inl fo))), (cl, .inl (cI, 36, .inl cs)), (tu, .inl (cI, 36, .inl ts)), (lk, .inl (cJ, 3, .inr (.inl lo))), (f1, .inl (cJ, 6, .inr (.inl ff))), (s2, .inl (cJ, 6, .inr (.inl sf))), (ms, .inl (cI, 6, .inl mm)), (nx, .inl (cI, 6, .inl nf)), (bs, .inl (cI, 6, .inl bf))]) hD hS hA [0, 1, 2, 3, 4, 5, 6, 7, 8, 9] rfl
      refine va_calli (va_runV (As := [.int 1]) (rest := []) ⟨hx, hb, hml, hown, hts⟩ (c_X7_goesWell l D cI cJ s.heap.size  h0 ow cl tu lk f1 s2 ms nx bs th re mt fd w k fo lo ff sf cs ts mm nf bf 1) (cwV 1 hts gX7_at_X7_goesWell rfl rfl rfl (by decide +kernel) ⟨Nat.le_of_ble_eq_true rfl, Nat.le_of_ble_eq_true rfl⟩) ⟨pv_blind, va_recv hK hPc (ci := 4) (q0 := 0) rfl rfl, fun U hU hW => ⟨rfl, by rw [hU], by rw [hU]; exact hPc, va_K.moved hW.alike hK, hDc.weaken (fun _ _ _ _ => trivial)⟩⟩ rfl rfl hl.1 rfl (lv_room (Nat.le_of_ble_eq_true rfl)) dX7_at_13 ⟨(Nat.le_of_ble_eq_true rfl), (Nat.le_of_ble_eq_true rfl)⟩) hS (fun q _ h => hFc q h) hFc (fun r13 u t9 H1 locs hth hvm hw13 hB hz1 hk1 hS => ?_)
      try dsimp only at hw13
      obtain ⟨hP1, hK1, hD1⟩ := hB
      rw [hth] at hP1
      obtain ⟨hP, hD⟩ := va_join (wr := []) (w1 := [(h0, .inr (4, [.int 1, .ref ow, .int re, .int (nI w), .int mt, .ref cl, .ref tu, .int (nI k), .ref lk, .ref f1, .ref s2, .ref ms, .ref nx, .ref bs, .int fd])), (ow, .inl (cJ, 3, .inr (.inl fo))), (cl, .inl (cI, 36, .inl cs)), (tu, .inl (cI, 36, .inl ts)), (lk, .inl (cJ, 3, .inr (.inl lo))), (f1, .inl (cJ, 6, .inr (.inl ff))), (s2, .inl (cJ, 6, .inr (.inl sf))), (ms, .inl (cI, 6, .inl mm)), (nx, .inl (cI, 6, .inl nf)), (bs, .inl (cI, 6, .inl bf))]) hP hD [0, 1, 2, 3, 4, 5, 6, 7, 8, 9] [] rfl rfl (by decide) (by decide) hk1 hFc hP1 hD1
      generalize H1 = H at hP hS ⊢
      have hP : va_P D vwCl [(h0, .inr (4, [.int 1, .ref ow, .int re, .int (nI w), .int mt, .ref cl, .ref tu, .int (nI k), .ref lk, .ref f1, .ref s2, .ref ms, .ref nx, .ref bs, .int fd])), (ow, .inl (cJ, 3, .inr (.inl fo))), (cl, .inl (cI, 36, .inl cs)), (tu, .inl (cI, 36, .inl ts)), (lk, .inl (cJ, 3, .inr (.inl lo))), (f1, .inl (cJ, 6, .inr (.inl ff))), (s2, .inl (cJ, 6, .inr (.inl sf))), (ms, .inl (cI, 6, .inl mm)), (nx, .inl (cI, 6, .inl nf)), (bs, .inl (cI, 6, .inl bf))] H := hP.sub (ws' := [(h0, .inr (4, [.int 1, .ref ow, .int re, .int (nI w), .int mt, .ref cl, .ref tu, .int (nI k), .ref lk, .ref f1, .ref s2, .ref ms, .ref nx, .ref bs, .int fd])), (ow, .inl (cJ, 3, .inr (.inl fo))), (cl, .inl (cI, 36, .inl cs)), (tu, .inl (cI, 36, .inl ts)), (lk, .inl (cJ, 3, .inr (.inl lo))), (f1, .inl (cJ, 6, .inr (.inl ff))), (s2, .inl (cJ, 6, .inr (.inl sf))), (ms, .inl (cI, 6, .inl mm)), (nx, .inl (cI, 6, .inl nf)), (bs, .inl (cI, 6, .inl bf))]) [0, 1, 2, 3, 4, 5, 6, 7, 8, 9] rfl
      have hD : va_D A [(h0, .inr (4, [.int 1, .ref ow, .int re, .int (nI w), .int mt, .ref cl, .ref tu, .int (nI k), .ref lk, .ref f1, .ref s2, .ref ms, .ref nx, .ref bs, .int fd])), (ow, .inl (cJ, 3, .inr (.inl fo))), (cl, .inl (cI, 36, .inl cs)), (tu, .inl (cI, 36, .inl ts)), (lk, .inl (cJ, 3, .inr (.inl lo))), (f1, .inl (cJ, 6, .inr (.inl ff))), (s2, .inl (cJ, 6, .inr (.inl sf))), (ms, .inl (cI, 6, .inl mm)), (nx, .inl (cI, 6, .inl nf)), (bs, .inl (cI, 6, .inl bf))] := hD.sub (ws' := [(h0, .inr (4, [.int 1, .ref ow, .int re, .int (nI w), .int mt, .ref cl, .ref tu, .int (nI k), .ref lk, .ref f1, .ref s2, .ref ms, .ref nx, .ref bs, .int fd])), (ow, .inl (cJ, 3, .inr (.inl fo))), (cl, .inl (cI, 36, .inl cs)), (tu, .inl (cI, 36, .inl ts)), (lk, .inl (cJ, 3, .inr (.inl lo))), (f1, .inl (cJ, 6, .inr (.inl ff))), (s2, .inl (cJ, 6, .inr (.inl sf))), (ms, .inl (cI, 6, .inl mm)), (nx, .inl (cI, 6, .inl nf)), (bs, .inl (cI, 6, .inl bf))]) [0, 1, 2, 3, 4, 5, 6, 7, 8, 9] (by decide) rfl
      obtain rfl := hw13.symm
      refine pk_ti (y := 0) (if_neg (by decide)) ?_
      refine lv_if_eq (tgt := 57) hx hb dX7_at_16 (by decide) (fun c16 => ?_) (fun c16 => ?_)
      · refine lv_iconst (v := 0) hx hb dX7_at_57 (by decide) ?_
        refine W.iret (v := 0) hx hb hr (fun tt ht hW => ⟨⟨0, (), rfl, ?_, by rw [ht]; exact hP, va_K.moved hW.alike hK, hD⟩, hS.F ht⟩) hS.2.2 dX7_at_58
        exact rfl
      · exact absurd c16 (by decide)
    · exact absurd c5 (by decide)

set_option maxHeartbeats 400000 in
set_option maxRecDepth 100000 in
theorem c_X7_at_ok (l : Launch) (D : va_G) (cI cJ : ClassId) (sz : Nat) (h0 ow cl tu lk f1 s2 ms nx bs : Nat) (th re mt fd : Int32) (w k : Nat) (fo lo ff sf : Nat → Int64) (cs ts mm nf bf : Nat → Int32) (j : Nat) (hj : j < 36) : Met l yX7_at wsX7_at ({ frames := 2, cells := 0, slots := 0, locals := 42 } : Room) (va_Pc [.ref h0, .int (nI j)] (pv_C D cI cJ [(h0, .inr (4, [.int th, .ref ow, .int re, .int (nI w), .int mt, .ref cl, .ref tu, .int (nI k), .ref lk, .ref f1, .ref s2, .ref ms, .ref nx, .ref bs, .int fd])), (ow, .inl (cJ, 3, .inr (.inl fo))), (cl, .inl (cI, 36, .inl cs)), (tu, .inl (cI, 36, .inl ts)), (lk, .inl (cJ, 3, .inr (.inl lo))), (f1, .inl (cJ, 6, .inr (.inl ff))), (s2, .inl (cJ, 6, .inr (.inl sf))), (ms, .inl (cI, 6, .inl mm)), (nx, .inl (cI, 6, .inl nf)), (bs, .inl (cI, 6, .inl bf))] sz)) (va_Qi (fun (r : Int32) (u : Unit) => r = if bt (fo 1) j = true then 1 else if bt (fo 2) j = true then 2 else 0) (fun (u : Unit) => pv_B D cI cJ (va_A [(h0, .inr (4, [.int th, .ref ow, .int re, .int (nI w), .int mt, .ref cl, .ref tu, .int (nI k), .ref lk, .ref f1, .ref s2, .ref ms, .ref nx, .ref bs, .int fd])), (ow, .inl (cJ, 3, .inr (.inl fo))), (cl, .inl (cI, 36, .inl cs)), (tu, .inl (cI, 36, .inl ts)), (lk, .inl (cJ, 3, .inr (.inl lo))), (f1, .inl (cJ, 6, .inr (.inl ff))), (s2, .inl (cJ, 6, .inr (.inl sf))), (ms, .inl (cI, 6, .inl mm)), (nx, .inl (cI, 6, .inl nf)), (bs, .inl (cI, 6, .inl bf))] sz) [(h0, .inr (4, [.int 0, .ref ow, .int re, .int (nI w), .int mt, .ref cl, .ref tu, .int (nI k), .ref lk, .ref f1, .ref s2, .ref ms, .ref nx, .ref bs, .int fd])), (ow, .inl (cJ, 3, .inr (.inl fo))), (cl, .inl (cI, 36, .inl cs)), (tu, .inl (cI, 36, .inl ts)), (lk, .inl (cJ, 3, .inr (.inl lo))), (f1, .inl (cJ, 6, .inr (.inl ff))), (s2, .inl (cJ, 6, .inr (.inl sf))), (ms, .inl (cI, 6, .inl mm)), (nx, .inl (cI, 6, .inl nf)), (bs, .inl (cI, 6, .inl bf))]) (va_A [(h0, .inr (4, [.int th, .ref ow, .int re, .int (nI w), .int mt, .ref cl, .ref tu, .int (nI k), .ref lk, .ref f1, .ref s2, .ref ms, .ref nx, .ref bs, .int fd])), (ow, .inl (cJ, 3, .inr (.inl fo))), (cl, .inl (cI, 36, .inl cs)), (tu, .inl (cI, 36, .inl ts)), (lk, .inl (cJ, 3, .inr (.inl lo))), (f1, .inl (cJ, 6, .inr (.inl ff))), (s2, .inl (cJ, 6, .inr (.inl sf))), (ms, .inl (cI, 6, .inl mm)), (nx, .inl (cI, 6, .inl nf)), (bs, .inl (cI, 6, .inl bf))] sz)) 0 0 (va_A [(h0, .inr (4, [.int th, .ref ow, .int re, .int (nI w), .int mt, .ref cl, .ref tu, .int (nI k), .ref lk, .ref f1, .ref s2, .ref ms, .ref nx, .ref bs, .int fd])), (ow, .inl (cJ, 3, .inr (.inl fo))), (cl, .inl (cI, 36, .inl cs)), (tu, .inl (cI, 36, .inl ts)), (lk, .inl (cJ, 3, .inr (.inl lo))), (f1, .inl (cJ, 6, .inr (.inl ff))), (s2, .inl (cJ, 6, .inr (.inl sf))), (ms, .inl (cI, 6, .inl mm)), (nx, .inl (cI, 6, .inl nf)), (bs, .inl (cI, 6, .inl bf))] sz) := by
  refine Met.ofW (cc := cX7_at) (maxL := 2) (ret := (some .int)) (by decide) rfl ?_
  intro p e s m args below meth c s₁ B hml hv
  obtain ⟨rfl, rfl, hP, hK, hD0⟩ := hv
  have hx := B.exec
  have hb := B.bytes
  have hr := B.returns
  have hts := atoms_spec (ws := wsX7_at) B.pre
  have hown : s.vm.findClass RX7 = some m.cls := findClass_of_methodNamed B.named
  have hlocks := B.notSynchronized
  have hD := hD0.self (sz := s.heap.size)
  generalize hAe : va_A [(h0, .inr (4, [.int th, .ref ow, .int re, .int (nI w), .int mt, .ref cl, .ref tu, .int (nI k), .ref lk, .ref f1, .ref s2, .ref ms, .ref nx, .ref bs, .int fd])), (ow, .inl (cJ, 3, .inr (.inl fo))), (cl, .inl (cI, 36, .inl cs)), (tu, .inl (cI, 36, .inl ts)), (lk, .inl (cJ, 3, .inr (.inl lo))), (f1, .inl (cJ, 6, .inr (.inl ff))), (s2, .inl (cJ, 6, .inr (.inl sf))), (ms, .inl (cI, 6, .inl mm)), (nx, .inl (cI, 6, .inl nf)), (bs, .inl (cI, 6, .inl bf))] s.heap.size = A at hD ⊢
  have hA : ∀ q : Nat, s.heap.size ≤ q → A q := fun q h => by rw [← hAe]; exact Or.inr h
  have hS : va_S A s.heap s.heap [] := va_S.rf
  have hinX7 : ∀ w ∈ wsX70, w ∈ wsX7_at := by decide +kernel
  have hfl7 : (Cond.fieldLink RX7 7 "TwistquadModel" "own" "[J").before ([.ref h0, .int (nI j)] : List Value).toArray s = true := hts _ (by decide +kernel)
  have hl := lv_entry ([.ref h0, .int (nI j)]) (n := 2) (Nat.le_of_ble_eq_true rfl)
  rw [lg_entry_eq]
  generalize (lg_sl ([.ref h0, .int (nI j)]) ++ List.replicate (2 - (lg_sl ([.ref h0, .int (nI j)])).length) Slot.unset).toArray = ls at hl ⊢
  have hl : lv_has ls 2 [(0, .ref h0), (1, .int (nI j))] := hl
  refine lv_aload_n hx hb dX7_at_0 rfl (lv_at hl 0 rfl) ?_
  refine lv_iload_n hx hb dX7_at_1 rfl (lv_at hl 1 rfl) ?_
  refine vp_callSi (W.runS (As := [.int (nI j)]) (rest := [.ref h0]) ⟨hx, hb, hml, hown, hts⟩ (c_X7_isCell l (nI j)) (va_cwS 1 hts gX7_at_X7_isCell rfl rfl rfl (by decide +kernel) ⟨Nat.le_of_ble_eq_true rfl, Nat.le_of_ble_eq_true rfl⟩) ⟨px_blind0, fun U hU hW => ⟨rfl, trivial⟩⟩ rfl rfl hl.1 rfl (lv_room (Nat.le_of_ble_eq_true rfl)) dX7_at_2 ⟨(Nat.le_of_ble_eq_true rfl), (Nat.le_of_ble_eq_true rfl)⟩) (fun r2 er2 => ?_)
  obtain rfl := er2.symm
  refine pk_b (P := 0 ≤ (nI j) ∧ (nI j) ≤ 35) (fun b2 => ?_) (fun b2 => ?_)
  · refine lv_if_eq (tgt := 12) hx hb dX7_at_5 (by decide) (fun c5 => ?_) (fun c5 => ?_)
    · exact absurd c5 (by decide)
    · refine lv_iconst (v := 0) hx hb dX7_at_8 (by decide) ?_
      refine lv_goto (tgt := 13) hx hb dX7_at_9 (by decide) ?_
      have hPc := hP.sub (ws' := [(h0, .inr (4, [.int th, .ref ow, .int re, .int (nI w), .int mt, .ref cl, .ref tu, .int (nI k), .ref lk, .ref f1, .ref s2, .ref ms, .ref nx, .ref bs, .int fd])), (ow, .inl (cJ, 3, .inr (.inl fo))), (cl, .inl (cI, 36, .inl cs)), (tu, .inl (cI, 36, .inl ts)), (lk, .inl (cJ, 3, .inr (.inl lo))), (f1, .inl (cJ, 6, .inr (.inl ff))), (s2, .inl (cJ, 6, .inr (.inl sf))), (ms, .inl (cI, 6, .inl mm)), (nx, .inl (cI, 6, .inl nf)), (bs, .inl (cI, 6, .inl bf))]) [0, 1, 2, 3, 4, 5, 6, 7, 8, 9] rfl
      have hDc := hD.sub (ws' := [(h0, .inr (4, [.int th, .ref ow, .int re, .int (nI w), .int mt, .ref cl, .ref tu, .int (nI k), .ref lk, .ref f1, .ref s2, .ref ms, .ref nx, .ref bs, .int fd])), (ow, .inl (cJ, 3, .inr (.inl fo))), (cl, .inl (cI, 36, .inl cs)), (tu, .inl (cI, 36, .inl ts)), (lk, .inl (cJ, 3, .inr (.inl lo))), (f1, .inl (cJ, 6, .inr (.inl ff))), (s2, .inl (cJ, 6, .inr (.inl sf))), (ms, .inl (cI, 6, .inl mm)), (nx, .inl (cI, 6, .inl nf)), (bs, .inl (cI, 6, .inl bf))]) [0, 1, 2, 3, 4, 5, 6, 7, 8, 9] (by decide) rfl
      have hFc := va_free (wc := [(h0, .inr (4, [.int th, .ref ow, .int re, .int (nI w), .int mt, .ref cl, .ref tu, .int (nI k), .ref lk, .ref f1, .ref s2, .ref ms, .ref nx, .ref bs, .int fd])), (ow, .inl (cJ, 3, .inr (.inl fo))), (cl, .inl (cI, 36, .inl cs)), (tu, .inl (cI, 36, .inl ts)), (lk, .inl (cJ, 3, .inr (.inl lo))), (f1, .inl (cJ, 6, .inr (.inl ff))), (s2, .inl (cJ, 6, .inr (.inl sf))), (ms, .inl (cI, 6, .inl mm)), (nx, .inl (cI, 6, .inl nf)), (bs, .inl (cI, 6, .inl bf))]) hD hS hA [0, 1, 2, 3, 4, 5, 6, 7, 8, 9] rfl
      refine va_calli (va_runV (As := [.int 0]) (rest := []) ⟨hx, hb, hml, hown, hts⟩ (c_X7_goesWell l D cI cJ s.heap.size  h0 ow cl tu lk f1 s2 ms nx bs th re mt fd w k fo lo ff sf cs ts mm nf bf 0) (cwV 1 hts gX7_at_X7_goesWell rfl rfl rfl (by decide +kernel) ⟨Nat.le_of_ble_eq_true rfl, Nat.le_of_ble_eq_true rfl⟩) ⟨pv_blind, va_recv hK hPc (ci := 4) (q0 := 0) rfl rfl, fun U hU hW => ⟨rfl, by rw [hU], by rw [hU]; exact hPc, va_K.moved hW.alike hK, hDc.weaken (fun _ _ _ _ => trivial)⟩⟩ rfl rfl hl.1 rfl (lv_room (Nat.le_of_ble_eq_true rfl)) dX7_at_13 ⟨(Nat.le_of_ble_eq_true rfl), (Nat.le_of_ble_eq_true rfl)⟩) hS (fun q _ h => hFc q h) hFc (fun r13 u t9 H1 locs hth hvm hw13 hB hz1 hk1 hS => ?_)
      try dsimp only at hw13
      obtain ⟨hP1, hK1, hD1⟩ := hB
      rw [hth] at hP1
      obtain ⟨hP, hD⟩ := va_join (wr := []) (w1 := [(h0, .inr (4, [.int 0, .ref ow, .int re, .int (nI w), .int mt, .ref cl, .ref tu, .int (nI k), .ref lk, .ref f1, .ref s2, .ref ms, .ref nx, .ref bs, .int fd])), (ow, .inl (cJ, 3, .inr (.inl fo))), (cl, .inl (cI, 36, .inl cs)), (tu, .inl (cI, 36, .inl ts)), (lk, .inl (cJ, 3, .inr (.inl lo))), (f1, .inl (cJ, 6, .inr (.inl ff))), (s2, .inl (cJ, 6, .inr (.inl sf))), (ms, .inl (cI, 6, .inl mm)), (nx, .inl (cI, 6, .inl nf)), (bs, .inl (cI, 6, .inl bf))]) hP hD [0, 1, 2, 3, 4, 5, 6, 7, 8, 9] [] rfl rfl (by decide) (by decide) hk1 hFc hP1 hD1
      generalize H1 = H at hP hS ⊢
      have hP : va_P D vwCl [(h0, .inr (4, [.int 0, .ref ow, .int re, .int (nI w), .int mt, .ref cl, .ref tu, .int (nI k), .ref lk, .ref f1, .ref s2, .ref ms, .ref nx, .ref bs, .int fd])), (ow, .inl (cJ, 3, .inr (.inl fo))), (cl, .inl (cI, 36, .inl cs)), (tu, .inl (cI, 36, .inl ts)), (lk, .inl (cJ, 3, .inr (.inl lo))), (f1, .inl (cJ, 6, .inr (.inl ff))), (s2, .inl (cJ, 6, .inr (.inl sf))), (ms, .inl (cI, 6, .inl mm)), (nx, .inl (cI, 6, .inl nf)), (bs, .inl (cI, 6, .inl bf))] H := hP.sub (ws' := [(h0, .inr (4, [.int 0, .ref ow, .int re, .int (nI w), .int mt, .ref cl, .ref tu, .int (nI k), .ref lk, .ref f1, .ref s2, .ref ms, .ref nx, .ref bs, .int fd])), (ow, .inl (cJ, 3, .inr (.inl fo))), (cl, .inl (cI, 36, .inl cs)), (tu, .inl (cI, 36, .inl ts)), (lk, .inl (cJ, 3, .inr (.inl lo))), (f1, .inl (cJ, 6, .inr (.inl ff))), (s2, .inl (cJ, 6, .inr (.inl sf))), (ms, .inl (cI, 6, .inl mm)), (nx, .inl (cI, 6, .inl nf)), (bs, .inl (cI, 6, .inl bf))]) [0, 1, 2, 3, 4, 5, 6, 7, 8, 9] rfl
      have hD : va_D A [(h0, .inr (4, [.int 0, .ref ow, .int re, .int (nI w), .int mt, .ref cl, .ref tu, .int (nI k), .ref lk, .ref f1, .ref s2, .ref ms, .ref nx, .ref bs, .int fd])), (ow, .inl (cJ, 3, .inr (.inl fo))), (cl, .inl (cI, 36, .inl cs)), (tu, .inl (cI, 36, .inl ts)), (lk, .inl (cJ, 3, .inr (.inl lo))), (f1, .inl (cJ, 6, .inr (.inl ff))), (s2, .inl (cJ, 6, .inr (.inl sf))), (ms, .inl (cI, 6, .inl mm)), (nx, .inl (cI, 6, .inl nf)), (bs, .inl (cI, 6, .inl bf))] := hD.sub (ws' := [(h0, .inr (4, [.int 0, .ref ow, .int re, .int (nI w), .int mt, .ref cl, .ref tu, .int (nI k), .ref lk, .ref f1, .ref s2, .ref ms, .ref nx, .ref bs, .int fd])), (ow, .inl (cJ, 3, .inr (.inl fo))), (cl, .inl (cI, 36, .inl cs)), (tu, .inl (cI, 36, .inl ts)), (lk, .inl (cJ, 3, .inr (.inl lo))), (f1, .inl (cJ, 6, .inr (.inl ff))), (s2, .inl (cJ, 6, .inr (.inl sf))), (ms, .inl (cI, 6, .inl mm)), (nx, .inl (cI, 6, .inl nf)), (bs, .inl (cI, 6, .inl bf))]) [0, 1, 2, 3, 4, 5, 6, 7, 8, 9] (by decide) rfl
      obtain rfl := hw13.symm
      refine pk_ti (y := 1) (if_pos (by decide)) ?_
      refine lv_if_eq (tgt := 57) hx hb dX7_at_16 (by decide) (fun c16 => ?_) (fun c16 => ?_)
      · exact absurd c16 (by decide)
      · refine lv_aload_n hx hb dX7_at_19 rfl (lv_at hl 0 rfl) ?_
        refine va_get (D := D) (ci := 4) (v := .ref ow) (C := RX7) (T := TX7) (N := 15) hx hb hts hinX7 hown hK hP 0 rfl rfl 1 (by decide) hfl7 (fun _ h9 => h9) rfl dX7_at_20 ?_
        refine lv_iconst (v := 1) hx hb dX7_at_23 (by decide) ?_
        refine va_lald hx hb hK hP 1 1 rfl rfl (vp_in_nI (n := 1) (N := 3) (by omega) (by decide)) dX7_at_24 ?_
        refine pk_tl (y := (fo 1)) (congrArg fo (pk_cl 1)) ?_
        refine lv_iload_n hx hb dX7_at_25 rfl (lv_at hl 1 rfl) ?_
        refine vp_callSi (W.runS (As := [.long (fo 1), .int (nI j)]) (rest := []) ⟨hx, hb, hml, hown, hts⟩ (c_X7_has l (fo 1) j (by omega)) (va_cwS 2 hts gX7_at_X7_has rfl rfl rfl (by decide +kernel) ⟨Nat.le_of_ble_eq_true rfl, Nat.le_of_ble_eq_true rfl⟩) ⟨px_blind0, fun U hU hW => ⟨rfl, trivial⟩⟩ rfl rfl hl.1 rfl (lv_room (Nat.le_of_ble_eq_true rfl)) dX7_at_26 ⟨(Nat.le_of_ble_eq_true rfl), (Nat.le_of_ble_eq_true rfl)⟩) (fun r26 er26 => ?_)
        obtain rfl := er26.symm
        refine pk_b (P := bt (fo 1) j = true) (fun b26 => ?_) (fun b26 => ?_)
        · refine lv_if_eq (tgt := 36) hx hb dX7_at_29 (by decide) (fun c29 => ?_) (fun c29 => ?_)
          · exact absurd c29 (by decide)
          · refine lv_iconst (v := 1) hx hb dX7_at_32 (by decide) ?_
            refine lv_goto (tgt := 58) hx hb dX7_at_33 (by decide) ?_
            refine W.iret (v := 1) hx hb hr (fun tt ht hW => ⟨⟨1, (), rfl, ?_, by rw [ht]; exact hP, va_K.moved hW.alike hK, hD⟩, hS.F ht⟩) hS.2.2 dX7_at_58
            first | (rw [if_pos b26]; done) | (rw [if_neg b26, if_pos b43]; done) | (rw [if_neg b26, if_neg b43]; done)
        · refine lv_if_eq (tgt := 36) hx hb dX7_at_29 (by decide) (fun c29 => ?_) (fun c29 => ?_)
          · refine lv_aload_n hx hb dX7_at_36 rfl (lv_at hl 0 rfl) ?_
            refine va_get (D := D) (ci := 4) (v := .ref ow) (C := RX7) (T := TX7) (N := 15) hx hb hts hinX7 hown hK hP 0 rfl rfl 1 (by decide) hfl7 (fun _ h9 => h9) rfl dX7_at_37 ?_
            refine lv_iconst (v := 2) hx hb dX7_at_40 (by decide) ?_
            refine va_lald hx hb hK hP 1 1 rfl rfl (vp_in_nI (n := 2) (N := 3) (by omega) (by decide)) dX7_at_41 ?_
            refine pk_tl (y := (fo 2)) (congrArg fo (pk_cl 2)) ?_
            refine lv_iload_n hx hb dX7_at_42 rfl (lv_at hl 1 rfl) ?_
            refine vp_callSi (W.runS (As := [.long (fo 2), .int (nI j)]) (rest := []) ⟨hx, hb, hml, hown, hts⟩ (c_X7_has l (fo 2) j (by omega)) (va_cwS 2 hts gX7_at_X7_has rfl rfl rfl (by decide +kernel) ⟨Nat.le_of_ble_eq_true rfl, Nat.le_of_ble_eq_true rfl⟩) ⟨px_blind0, fun U hU hW => ⟨rfl, trivial⟩⟩ rfl rfl hl.1 rfl (lv_room (Nat.le_of_ble_eq_true rfl)) dX7_at_43 ⟨(Nat.le_of_ble_eq_true rfl), (Nat.le_of_ble_eq_true rfl)⟩) (fun r43 er43 => ?_)
            obtain rfl := er43.symm
            refine pk_b (P := bt (fo 2) j = true) (fun b43 => ?_) (fun b43 => ?_)
            · refine lv_if_eq (tgt := 53) hx hb dX7_at_46 (by decide) (fun c46 => ?_) (fun c46 => ?_)
              · exact absurd c46 (by decide)
              · refine lv_iconst (v := 2) hx hb dX7_at_49 (by decide) ?_
                refine lv_goto (tgt := 58) hx hb dX7_at_50 (by decide) ?_
                refine W.iret (v := 2) hx hb hr (fun tt ht hW => ⟨⟨2, (), rfl, ?_, by rw [ht]; exact hP, va_K.moved hW.alike hK, hD⟩, hS.F ht⟩) hS.2.2 dX7_at_58
                first | (rw [if_pos b26]; done) | (rw [if_neg b26, if_pos b43]; done) | (rw [if_neg b26, if_neg b43]; done)
            · refine lv_if_eq (tgt := 53) hx hb dX7_at_46 (by decide) (fun c46 => ?_) (fun c46 => ?_)
              · refine lv_iconst (v := 0) hx hb dX7_at_53 (by decide) ?_
                refine lv_goto (tgt := 58) hx hb dX7_at_54 (by decide) ?_
                refine W.iret (v := 0) hx hb hr (fun tt ht hW => ⟨⟨0, (), rfl, ?_, by rw [ht]; exact hP, va_K.moved hW.alike hK, hD⟩, hS.F ht⟩) hS.2.2 dX7_at_58
                first | (rw [if_pos b26]; done) | (rw [if_neg b26, if_pos b43]; done) | (rw [if_neg b26, if_neg b43]; done)
              · exact absurd c46 (by decide)
          · exact absurd c29 (by decide)
  · exact absurd (cell_ok hj) b2

set_option maxHeartbeats 400000 in
set_option maxRecDepth 100000 in
theorem c_X7_lines_bad (l : Launch) (D : va_G) (cI cJ : ClassId) (sz : Nat) (h0 ow cl tu lk f1 s2 ms nx bs : Nat) (th re mt fd : Int32) (w k : Nat) (fo lo ff sf : Nat → Int64) (cs ts mm nf bf : Nat → Int32) (v : Int32) (hc : ¬ (1 ≤ v ∧ v ≤ 2)) : Met l yX7_lines wsX7_lines ({ frames := 2, cells := 0, slots := 0, locals := 51 } : Room) (va_Pc [.ref h0, .int v] (pv_C D cI cJ [(h0, .inr (4, [.int th, .ref ow, .int re, .int (nI w), .int mt, .ref cl, .ref tu, .int (nI k), .ref lk, .ref f1, .ref s2, .ref ms, .ref nx, .ref bs, .int fd])), (ow, .inl (cJ, 3, .inr (.inl fo))), (cl, .inl (cI, 36, .inl cs)), (tu, .inl (cI, 36, .inl ts)), (lk, .inl (cJ, 3, .inr (.inl lo))), (f1, .inl (cJ, 6, .inr (.inl ff))), (s2, .inl (cJ, 6, .inr (.inl sf))), (ms, .inl (cI, 6, .inl mm)), (nx, .inl (cI, 6, .inl nf)), (bs, .inl (cI, 6, .inl bf))] sz)) (va_Qi (fun (r : Int32) (u : Unit) => r = 0) (fun (u : Unit) => pv_B D cI cJ (va_A [(h0, .inr (4, [.int th, .ref ow, .int re, .int (nI w), .int mt, .ref cl, .ref tu, .int (nI k), .ref lk, .ref f1, .ref s2, .ref ms, .ref nx, .ref bs, .int fd])), (ow, .inl (cJ, 3, .inr (.inl fo))), (cl, .inl (cI, 36, .inl cs)), (tu, .inl (cI, 36, .inl ts)), (lk, .inl (cJ, 3, .inr (.inl lo))), (f1, .inl (cJ, 6, .inr (.inl ff))), (s2, .inl (cJ, 6, .inr (.inl sf))), (ms, .inl (cI, 6, .inl mm)), (nx, .inl (cI, 6, .inl nf)), (bs, .inl (cI, 6, .inl bf))] sz) [(h0, .inr (4, [.int 1, .ref ow, .int re, .int (nI w), .int mt, .ref cl, .ref tu, .int (nI k), .ref lk, .ref f1, .ref s2, .ref ms, .ref nx, .ref bs, .int fd])), (ow, .inl (cJ, 3, .inr (.inl fo))), (cl, .inl (cI, 36, .inl cs)), (tu, .inl (cI, 36, .inl ts)), (lk, .inl (cJ, 3, .inr (.inl lo))), (f1, .inl (cJ, 6, .inr (.inl ff))), (s2, .inl (cJ, 6, .inr (.inl sf))), (ms, .inl (cI, 6, .inl mm)), (nx, .inl (cI, 6, .inl nf)), (bs, .inl (cI, 6, .inl bf))]) (va_A [(h0, .inr (4, [.int th, .ref ow, .int re, .int (nI w), .int mt, .ref cl, .ref tu, .int (nI k), .ref lk, .ref f1, .ref s2, .ref ms, .ref nx, .ref bs, .int fd])), (ow, .inl (cJ, 3, .inr (.inl fo))), (cl, .inl (cI, 36, .inl cs)), (tu, .inl (cI, 36, .inl ts)), (lk, .inl (cJ, 3, .inr (.inl lo))), (f1, .inl (cJ, 6, .inr (.inl ff))), (s2, .inl (cJ, 6, .inr (.inl sf))), (ms, .inl (cI, 6, .inl mm)), (nx, .inl (cI, 6, .inl nf)), (bs, .inl (cI, 6, .inl bf))] sz)) 0 0 (va_A [(h0, .inr (4, [.int th, .ref ow, .int re, .int (nI w), .int mt, .ref cl, .ref tu, .int (nI k), .ref lk, .ref f1, .ref s2, .ref ms, .ref nx, .ref bs, .int fd])), (ow, .inl (cJ, 3, .inr (.inl fo))), (cl, .inl (cI, 36, .inl cs)), (tu, .inl (cI, 36, .inl ts)), (lk, .inl (cJ, 3, .inr (.inl lo))), (f1, .inl (cJ, 6, .inr (.inl ff))), (s2, .inl (cJ, 6, .inr (.inl sf))), (ms, .inl (cI, 6, .inl mm)), (nx, .inl (cI, 6, .inl nf)), (bs, .inl (cI, 6, .inl bf))] sz) := by
  refine Met.ofW (cc := cX7_lines) (maxL := 2) (ret := (some .int)) (by decide) rfl ?_
  intro p e s m args below meth c s₁ B hml hv
  obtain ⟨rfl, rfl, hP, hK, hD0⟩ := hv
  have hx := B.exec
  have hb := B.bytes
  have hr := B.returns
  have hts := atoms_spec (ws := wsX7_lines) B.pre
  have hown : s.vm.findClass RX7 = some m.cls := findClass_of_methodNamed B.named
  have hlocks := B.notSynchronized
  have hD := hD0.self (sz := s.heap.size)
  generalize hAe : va_A [(h0, .inr (4, [.int th, .ref ow, .int re, .int (nI w), .int mt, .ref cl, .ref tu, .int (nI k), .ref lk, .ref f1, .ref s2, .ref ms, .ref nx, .ref bs, .int fd])), (ow, .inl (cJ, 3, .inr (.inl fo))), (cl, .inl (cI, 36, .inl cs)), (tu, .inl (cI, 36, .inl ts)), (lk, .inl (cJ, 3, .inr (.inl lo))), (f1, .inl (cJ, 6, .inr (.inl ff))), (s2, .inl (cJ, 6, .inr (.inl sf))), (ms, .inl (cI, 6, .inl mm)), (nx, .inl (cI, 6, .inl nf)), (bs, .inl (cI, 6, .inl bf))] s.heap.size = A at hD ⊢
  have hA : ∀ q : Nat, s.heap.size ≤ q → A q := fun q h => by rw [← hAe]; exact Or.inr h
  have hS : va_S A s.heap s.heap [] := va_S.rf
  have hl := lv_entry ([.ref h0, .int v]) (n := 2) (Nat.le_of_ble_eq_true rfl)
  rw [lg_entry_eq]
  generalize (lg_sl ([.ref h0, .int v]) ++ List.replicate (2 - (lg_sl ([.ref h0, .int v])).length) Slot.unset).toArray = ls at hl ⊢
  have hl : lv_has ls 2 [(0, .ref h0), (1, .int v)] := hl
  refine lv_aload_n hx hb dX7_lines_0 rfl (lv_at hl 0 rfl) ?_
  refine lv_iload_n hx hb dX7_lines_1 rfl (lv_at hl 1 rfl) ?_
  refine vp_callSi (W.runS (As := [.int v]) (rest := [.ref h0]) ⟨hx, hb, hml, hown, hts⟩ (c_X7_isSide l v) (va_cwS 1 hts gX7_lines_X7_isSide rfl rfl rfl (by decide +kernel) ⟨Nat.le_of_ble_eq_true rfl, Nat.le_of_ble_eq_true rfl⟩) ⟨px_blind0, fun U hU hW => ⟨rfl, trivial⟩⟩ rfl rfl hl.1 rfl (lv_room (Nat.le_of_ble_eq_true rfl)) dX7_lines_2 ⟨(Nat.le_of_ble_eq_true rfl), (Nat.le_of_ble_eq_true rfl)⟩) (fun r2 er2 => ?_)
  obtain rfl := er2.symm
  refine pk_b (P := 1 ≤ v ∧ v ≤ 2) (fun b2 => ?_) (fun b2 => ?_)
  · exact absurd b2 hc
  · refine lv_if_eq (tgt := 12) hx hb dX7_lines_5 (by decide) (fun c5 => ?_) (fun c5 => ?_)
    · refine lv_iconst (v := 1) hx hb dX7_lines_12 (by decide) ?_
      have hPc := hP.sub (ws' := [(h0, .inr (4, [.int th, .ref ow, .int re, .int (nI w), .int mt, .ref cl, .ref tu, .int (nI k), .ref lk, .ref f1, .ref s2, .ref ms, .ref nx, .ref bs, .int fd])), (ow, .inl (cJ, 3, .inr (.inl fo))), (cl, .inl (cI, 36, .inl cs)), (tu, .inl (cI, 36, .inl ts)), (lk, .inl (cJ, 3, .inr (.inl lo))), (f1, .inl (cJ, 6, .inr (.inl ff))), (s2, .inl (cJ, 6, .inr (.inl sf))), (ms, .inl (cI, 6, .inl mm)), (nx, .inl (cI, 6, .inl nf)), (bs, .inl (cI, 6, .inl bf))]) [0, 1, 2, 3, 4, 5, 6, 7, 8, 9] rfl
      have hDc := hD.sub (ws' := [(h0, .inr (4, [.int th, .ref ow, .int re, .int (nI w), .int mt, .ref cl, .ref tu, .int (nI k), .ref lk, .ref f1, .ref s2, .ref ms, .ref nx, .ref bs, .int fd])), (ow, .inl (cJ, 3, .inr (.inl fo))), (cl, .inl (cI, 36, .inl cs)), (tu, .inl (cI, 36, .inl ts)), (lk, .inl (cJ, 3, .inr (.inl lo))), (f1, .inl (cJ, 6, .inr (.inl ff))), (s2, .inl (cJ, 6, .inr (.inl sf))), (ms, .inl (cI, 6, .inl mm)), (nx, .inl (cI, 6, .inl nf)), (bs, .inl (cI, 6, .inl bf))]) [0, 1, 2, 3, 4, 5, 6, 7, 8, 9] (by decide) rfl
      have hFc := va_free (wc := [(h0, .inr (4, [.int th, .ref ow, .int re, .int (nI w), .int mt, .ref cl, .ref tu, .int (nI k), .ref lk, .ref f1, .ref s2, .ref ms, .ref nx, .ref bs, .int fd])), (ow, .inl (cJ, 3, .inr (.inl fo))), (cl, .inl (cI, 36, .inl cs)), (tu, .inl (cI, 36, .inl ts)), (lk, .inl (cJ, 3, .inr (.inl lo))), (f1, .inl (cJ, 6, .inr (.inl ff))), (s2, .inl (cJ, 6, .inr (.inl sf))), (ms, .inl (cI, 6, .inl mm)), (nx, .inl (cI, 6, .inl nf)), (bs, .inl (cI, 6, .inl bf))]) hD hS hA [0, 1, 2, 3, 4, 5, 6, 7, 8, 9] rfl
      refine va_calli (va_runV (As := [.int 1]) (rest := []) ⟨hx, hb, hml, hown, hts⟩ (c_X7_goesWell l D cI cJ s.heap.size  h0 ow cl tu lk f1 s2 ms nx bs th re mt fd w k fo lo ff sf cs ts mm nf bf 1) (cwV 1 hts gX7_lines_X7_goesWell rfl rfl rfl (by decide +kernel) ⟨Nat.le_of_ble_eq_true rfl, Nat.le_of_ble_eq_true rfl⟩) ⟨pv_blind, va_recv hK hPc (ci := 4) (q0 := 0) rfl rfl, fun U hU hW => ⟨rfl, by rw [hU], by rw [hU]; exact hPc, va_K.moved hW.alike hK, hDc.weaken (fun _ _ _ _ => trivial)⟩⟩ rfl rfl hl.1 rfl (lv_room (Nat.le_of_ble_eq_true rfl)) dX7_lines_13 ⟨(Nat.le_of_ble_eq_true rfl), (Nat.le_of_ble_eq_true rfl)⟩) hS (fun q _ h => hFc q h) hFc (fun r13 u t9 H1 locs hth hvm hw13 hB hz1 hk1 hS => ?_)
      try dsimp only at hw13
      obtain ⟨hP1, hK1, hD1⟩ := hB
      rw [hth] at hP1
      obtain ⟨hP, hD⟩ := va_join (wr := []) (w1 := [(h0, .inr (4, [.int 1, .ref ow, .int re, .int (nI w), .int mt, .ref cl, .ref tu, .int (nI k), .ref lk, .ref f1, .ref s2, .ref ms, .ref nx, .ref bs, .int fd])), (ow, .inl (cJ, 3, .inr (.inl fo))), (cl, .inl (cI, 36, .inl cs)), (tu, .inl (cI, 36, .inl ts)), (lk, .inl (cJ, 3, .inr (.inl lo))), (f1, .inl (cJ, 6, .inr (.inl ff))), (s2, .inl (cJ, 6, .inr (.inl sf))), (ms, .inl (cI, 6, .inl mm)), (nx, .inl (cI, 6, .inl nf)), (bs, .inl (cI, 6, .inl bf))]) hP hD [0, 1, 2, 3, 4, 5, 6, 7, 8, 9] [] rfl rfl (by decide) (by decide) hk1 hFc hP1 hD1
      generalize H1 = H at hP hS ⊢
      have hP : va_P D vwCl [(h0, .inr (4, [.int 1, .ref ow, .int re, .int (nI w), .int mt, .ref cl, .ref tu, .int (nI k), .ref lk, .ref f1, .ref s2, .ref ms, .ref nx, .ref bs, .int fd])), (ow, .inl (cJ, 3, .inr (.inl fo))), (cl, .inl (cI, 36, .inl cs)), (tu, .inl (cI, 36, .inl ts)), (lk, .inl (cJ, 3, .inr (.inl lo))), (f1, .inl (cJ, 6, .inr (.inl ff))), (s2, .inl (cJ, 6, .inr (.inl sf))), (ms, .inl (cI, 6, .inl mm)), (nx, .inl (cI, 6, .inl nf)), (bs, .inl (cI, 6, .inl bf))] H := hP.sub (ws' := [(h0, .inr (4, [.int 1, .ref ow, .int re, .int (nI w), .int mt, .ref cl, .ref tu, .int (nI k), .ref lk, .ref f1, .ref s2, .ref ms, .ref nx, .ref bs, .int fd])), (ow, .inl (cJ, 3, .inr (.inl fo))), (cl, .inl (cI, 36, .inl cs)), (tu, .inl (cI, 36, .inl ts)), (lk, .inl (cJ, 3, .inr (.inl lo))), (f1, .inl (cJ, 6, .inr (.inl ff))), (s2, .inl (cJ, 6, .inr (.inl sf))), (ms, .inl (cI, 6, .inl mm)), (nx, .inl (cI, 6, .inl nf)), (bs, .inl (cI, 6, .inl bf))]) [0, 1, 2, 3, 4, 5, 6, 7, 8, 9] rfl
      have hD : va_D A [(h0, .inr (4, [.int 1, .ref ow, .int re, .int (nI w), .int mt, .ref cl, .ref tu, .int (nI k), .ref lk, .ref f1, .ref s2, .ref ms, .ref nx, .ref bs, .int fd])), (ow, .inl (cJ, 3, .inr (.inl fo))), (cl, .inl (cI, 36, .inl cs)), (tu, .inl (cI, 36, .inl ts)), (lk, .inl (cJ, 3, .inr (.inl lo))), (f1, .inl (cJ, 6, .inr (.inl ff))), (s2, .inl (cJ, 6, .inr (.inl sf))), (ms, .inl (cI, 6, .inl mm)), (nx, .inl (cI, 6, .inl nf)), (bs, .inl (cI, 6, .inl bf))] := hD.sub (ws' := [(h0, .inr (4, [.int 1, .ref ow, .int re, .int (nI w), .int mt, .ref cl, .ref tu, .int (nI k), .ref lk, .ref f1, .ref s2, .ref ms, .ref nx, .ref bs, .int fd])), (ow, .inl (cJ, 3, .inr (.inl fo))), (cl, .inl (cI, 36, .inl cs)), (tu, .inl (cI, 36, .inl ts)), (lk, .inl (cJ, 3, .inr (.inl lo))), (f1, .inl (cJ, 6, .inr (.inl ff))), (s2, .inl (cJ, 6, .inr (.inl sf))), (ms, .inl (cI, 6, .inl mm)), (nx, .inl (cI, 6, .inl nf)), (bs, .inl (cI, 6, .inl bf))]) [0, 1, 2, 3, 4, 5, 6, 7, 8, 9] (by decide) rfl
      obtain rfl := hw13.symm
      refine pk_ti (y := 0) (if_neg (by decide)) ?_
      refine lv_if_eq (tgt := 40) hx hb dX7_lines_16 (by decide) (fun c16 => ?_) (fun c16 => ?_)
      · refine lv_iconst (v := 0) hx hb dX7_lines_40 (by decide) ?_
        refine W.iret (v := 0) hx hb hr (fun tt ht hW => ⟨⟨0, (), rfl, ?_, by rw [ht]; exact hP, va_K.moved hW.alike hK, hD⟩, hS.F ht⟩) hS.2.2 dX7_lines_41
        exact rfl
      · exact absurd c16 (by decide)
    · exact absurd c5 (by decide)

set_option maxHeartbeats 400000 in
set_option maxRecDepth 100000 in
theorem c_X7_lines_ok (l : Launch) (D : va_G) (cI cJ : ClassId) (sz : Nat) (h0 ow cl tu lk f1 s2 ms nx bs : Nat) (th re mt fd : Int32) (w k : Nat) (fo lo ff sf : Nat → Int64) (cs ts mm nf bf : Nat → Int32) (j : Nat) (hj : j = 1 ∨ j = 2) : Met l yX7_lines wsX7_lines ({ frames := 2, cells := 0, slots := 0, locals := 51 } : Room) (va_Pc [.ref h0, .int (nI j)] (pv_C D cI cJ [(h0, .inr (4, [.int th, .ref ow, .int re, .int (nI w), .int mt, .ref cl, .ref tu, .int (nI k), .ref lk, .ref f1, .ref s2, .ref ms, .ref nx, .ref bs, .int fd])), (ow, .inl (cJ, 3, .inr (.inl fo))), (cl, .inl (cI, 36, .inl cs)), (tu, .inl (cI, 36, .inl ts)), (lk, .inl (cJ, 3, .inr (.inl lo))), (f1, .inl (cJ, 6, .inr (.inl ff))), (s2, .inl (cJ, 6, .inr (.inl sf))), (ms, .inl (cI, 6, .inl mm)), (nx, .inl (cI, 6, .inl nf)), (bs, .inl (cI, 6, .inl bf))] sz)) (va_Qi (fun (r : Int32) (u : Unit) => r = msum (fo j) (fo (3 - j)) 5 32) (fun (u : Unit) => pv_B D cI cJ (va_A [(h0, .inr (4, [.int th, .ref ow, .int re, .int (nI w), .int mt, .ref cl, .ref tu, .int (nI k), .ref lk, .ref f1, .ref s2, .ref ms, .ref nx, .ref bs, .int fd])), (ow, .inl (cJ, 3, .inr (.inl fo))), (cl, .inl (cI, 36, .inl cs)), (tu, .inl (cI, 36, .inl ts)), (lk, .inl (cJ, 3, .inr (.inl lo))), (f1, .inl (cJ, 6, .inr (.inl ff))), (s2, .inl (cJ, 6, .inr (.inl sf))), (ms, .inl (cI, 6, .inl mm)), (nx, .inl (cI, 6, .inl nf)), (bs, .inl (cI, 6, .inl bf))] sz) [(h0, .inr (4, [.int 0, .ref ow, .int re, .int (nI w), .int mt, .ref cl, .ref tu, .int (nI k), .ref lk, .ref f1, .ref s2, .ref ms, .ref nx, .ref bs, .int fd])), (ow, .inl (cJ, 3, .inr (.inl fo))), (cl, .inl (cI, 36, .inl cs)), (tu, .inl (cI, 36, .inl ts)), (lk, .inl (cJ, 3, .inr (.inl lo))), (f1, .inl (cJ, 6, .inr (.inl ff))), (s2, .inl (cJ, 6, .inr (.inl sf))), (ms, .inl (cI, 6, .inl mm)), (nx, .inl (cI, 6, .inl nf)), (bs, .inl (cI, 6, .inl bf))]) (va_A [(h0, .inr (4, [.int th, .ref ow, .int re, .int (nI w), .int mt, .ref cl, .ref tu, .int (nI k), .ref lk, .ref f1, .ref s2, .ref ms, .ref nx, .ref bs, .int fd])), (ow, .inl (cJ, 3, .inr (.inl fo))), (cl, .inl (cI, 36, .inl cs)), (tu, .inl (cI, 36, .inl ts)), (lk, .inl (cJ, 3, .inr (.inl lo))), (f1, .inl (cJ, 6, .inr (.inl ff))), (s2, .inl (cJ, 6, .inr (.inl sf))), (ms, .inl (cI, 6, .inl mm)), (nx, .inl (cI, 6, .inl nf)), (bs, .inl (cI, 6, .inl bf))] sz)) 0 0 (va_A [(h0, .inr (4, [.int th, .ref ow, .int re, .int (nI w), .int mt, .ref cl, .ref tu, .int (nI k), .ref lk, .ref f1, .ref s2, .ref ms, .ref nx, .ref bs, .int fd])), (ow, .inl (cJ, 3, .inr (.inl fo))), (cl, .inl (cI, 36, .inl cs)), (tu, .inl (cI, 36, .inl ts)), (lk, .inl (cJ, 3, .inr (.inl lo))), (f1, .inl (cJ, 6, .inr (.inl ff))), (s2, .inl (cJ, 6, .inr (.inl sf))), (ms, .inl (cI, 6, .inl mm)), (nx, .inl (cI, 6, .inl nf)), (bs, .inl (cI, 6, .inl bf))] sz) := by
  refine Met.ofW (cc := cX7_lines) (maxL := 2) (ret := (some .int)) (by decide) rfl ?_
  intro p e s m args below meth c s₁ B hml hv
  obtain ⟨rfl, rfl, hP, hK, hD0⟩ := hv
  have hx := B.exec
  have hb := B.bytes
  have hr := B.returns
  have hts := atoms_spec (ws := wsX7_lines) B.pre
  have hown : s.vm.findClass RX7 = some m.cls := findClass_of_methodNamed B.named
  have hlocks := B.notSynchronized
  have hD := hD0.self (sz := s.heap.size)
  generalize hAe : va_A [(h0, .inr (4, [.int th, .ref ow, .int re, .int (nI w), .int mt, .ref cl, .ref tu, .int (nI k), .ref lk, .ref f1, .ref s2, .ref ms, .ref nx, .ref bs, .int fd])), (ow, .inl (cJ, 3, .inr (.inl fo))), (cl, .inl (cI, 36, .inl cs)), (tu, .inl (cI, 36, .inl ts)), (lk, .inl (cJ, 3, .inr (.inl lo))), (f1, .inl (cJ, 6, .inr (.inl ff))), (s2, .inl (cJ, 6, .inr (.inl sf))), (ms, .inl (cI, 6, .inl mm)), (nx, .inl (cI, 6, .inl nf)), (bs, .inl (cI, 6, .inl bf))] s.heap.size = A at hD ⊢
  have hA : ∀ q : Nat, s.heap.size ≤ q → A q := fun q h => by rw [← hAe]; exact Or.inr h
  have hS : va_S A s.heap s.heap [] := va_S.rf
  have hinX7 : ∀ w ∈ wsX70, w ∈ wsX7_lines := by decide +kernel
  have hfl7 : (Cond.fieldLink RX7 7 "TwistquadModel" "own" "[J").before ([.ref h0, .int (nI j)] : List Value).toArray s = true := hts _ (by decide +kernel)
  have hl := lv_entry ([.ref h0, .int (nI j)]) (n := 2) (Nat.le_of_ble_eq_true rfl)
  rw [lg_entry_eq]
  generalize (lg_sl ([.ref h0, .int (nI j)]) ++ List.replicate (2 - (lg_sl ([.ref h0, .int (nI j)])).length) Slot.unset).toArray = ls at hl ⊢
  have hl : lv_has ls 2 [(0, .ref h0), (1, .int (nI j))] := hl
  refine lv_aload_n hx hb dX7_lines_0 rfl (lv_at hl 0 rfl) ?_
  refine lv_iload_n hx hb dX7_lines_1 rfl (lv_at hl 1 rfl) ?_
  refine vp_callSi (W.runS (As := [.int (nI j)]) (rest := [.ref h0]) ⟨hx, hb, hml, hown, hts⟩ (c_X7_isSide l (nI j)) (va_cwS 1 hts gX7_lines_X7_isSide rfl rfl rfl (by decide +kernel) ⟨Nat.le_of_ble_eq_true rfl, Nat.le_of_ble_eq_true rfl⟩) ⟨px_blind0, fun U hU hW => ⟨rfl, trivial⟩⟩ rfl rfl hl.1 rfl (lv_room (Nat.le_of_ble_eq_true rfl)) dX7_lines_2 ⟨(Nat.le_of_ble_eq_true rfl), (Nat.le_of_ble_eq_true rfl)⟩) (fun r2 er2 => ?_)
  obtain rfl := er2.symm
  refine pk_b (P := 1 ≤ (nI j) ∧ (nI j) ≤ 2) (fun b2 => ?_) (fun b2 => ?_)
  · refine lv_if_eq (tgt := 12) hx hb dX7_lines_5 (by decide) (fun c5 => ?_) (fun c5 => ?_)
    · exact absurd c5 (by decide)
    · refine lv_iconst (v := 0) hx hb dX7_lines_8 (by decide) ?_
      refine lv_goto (tgt := 13) hx hb dX7_lines_9 (by decide) ?_
      have hPc := hP.sub (ws' := [(h0, .inr (4, [.int th, .ref ow, .int re, .int (nI w), .int mt, .ref cl, .ref tu, .int (nI k), .ref lk, .ref f1, .ref s2, .ref ms, .ref nx, .ref bs, .int fd])), (ow, .inl (cJ, 3, .inr (.inl fo))), (cl, .inl (cI, 36, .inl cs)), (tu, .inl (cI, 36, .inl ts)), (lk, .inl (cJ, 3, .inr (.inl lo))), (f1, .inl (cJ, 6, .inr (.inl ff))), (s2, .inl (cJ, 6, .inr (.inl sf))), (ms, .inl (cI, 6, .inl mm)), (nx, .inl (cI, 6, .inl nf)), (bs, .inl (cI, 6, .inl bf))]) [0, 1, 2, 3, 4, 5, 6, 7, 8, 9] rfl
      have hDc := hD.sub (ws' := [(h0, .inr (4, [.int th, .ref ow, .int re, .int (nI w), .int mt, .ref cl, .ref tu, .int (nI k), .ref lk, .ref f1, .ref s2, .ref ms, .ref nx, .ref bs, .int fd])), (ow, .inl (cJ, 3, .inr (.inl fo))), (cl, .inl (cI, 36, .inl cs)), (tu, .inl (cI, 36, .inl ts)), (lk, .inl (cJ, 3, .inr (.inl lo))), (f1, .inl (cJ, 6, .inr (.inl ff))), (s2, .inl (cJ, 6, .inr (.inl sf))), (ms, .inl (cI, 6, .inl mm)), (nx, .inl (cI, 6, .inl nf)), (bs, .inl (cI, 6, .inl bf))]) [0, 1, 2, 3, 4, 5, 6, 7, 8, 9] (by decide) rfl
      have hFc := va_free (wc := [(h0, .inr (4, [.int th, .ref ow, .int re, .int (nI w), .int mt, .ref cl, .ref tu, .int (nI k), .ref lk, .ref f1, .ref s2, .ref ms, .ref nx, .ref bs, .int fd])), (ow, .inl (cJ, 3, .inr (.inl fo))), (cl, .inl (cI, 36, .inl cs)), (tu, .inl (cI, 36, .inl ts)), (lk, .inl (cJ, 3, .inr (.inl lo))), (f1, .inl (cJ, 6, .inr (.inl ff))), (s2, .inl (cJ, 6, .inr (.inl sf))), (ms, .inl (cI, 6, .inl mm)), (nx, .inl (cI, 6, .inl nf)), (bs, .inl (cI, 6, .inl bf))]) hD hS hA [0, 1, 2, 3, 4, 5, 6, 7, 8, 9] rfl
      refine va_calli (va_runV (As := [.int 0]) (rest := []) ⟨hx, hb, hml, hown, hts⟩ (c_X7_goesWell l D cI cJ s.heap.size  h0 ow cl tu lk f1 s2 ms nx bs th re mt fd w k fo lo ff sf cs ts mm nf bf 0) (cwV 1 hts gX7_lines_X7_goesWell rfl rfl rfl (by decide +kernel) ⟨Nat.le_of_ble_eq_true rfl, Nat.le_of_ble_eq_true rfl⟩) ⟨pv_blind, va_recv hK hPc (ci := 4) (q0 := 0) rfl rfl, fun U hU hW => ⟨rfl, by rw [hU], by rw [hU]; exact hPc, va_K.moved hW.alike hK, hDc.weaken (fun _ _ _ _ => trivial)⟩⟩ rfl rfl hl.1 rfl (lv_room (Nat.le_of_ble_eq_true rfl)) dX7_lines_13 ⟨(Nat.le_of_ble_eq_true rfl), (Nat.le_of_ble_eq_true rfl)⟩) hS (fun q _ h => hFc q h) hFc (fun r13 u t9 H1 locs hth hvm hw13 hB hz1 hk1 hS => ?_)
      try dsimp only at hw13
      obtain ⟨hP1, hK1, hD1⟩ := hB
      rw [hth] at hP1
      obtain ⟨hP, hD⟩ := va_join (wr := []) (w1 := [(h0, .inr (4, [.int 0, .ref ow, .int re, .int (nI w), .int mt, .ref cl, .ref tu, .int (nI k), .ref lk, .ref f1, .ref s2, .ref ms, .ref nx, .ref bs, .int fd])), (ow, .inl (cJ, 3, .inr (.inl fo))), (cl, .inl (cI, 36, .inl cs)), (tu, .inl (cI, 36, .inl ts)), (lk, .inl (cJ, 3, .inr (.inl lo))), (f1, .inl (cJ, 6, .inr (.inl ff))), (s2, .inl (cJ, 6, .inr (.inl sf))), (ms, .inl (cI, 6, .inl mm)), (nx, .inl (cI, 6, .inl nf)), (bs, .inl (cI, 6, .inl bf))]) hP hD [0, 1, 2, 3, 4, 5, 6, 7, 8, 9] [] rfl rfl (by decide) (by decide) hk1 hFc hP1 hD1
      generalize H1 = H at hP hS ⊢
      have hP : va_P D vwCl [(h0, .inr (4, [.int 0, .ref ow, .int re, .int (nI w), .int mt, .ref cl, .ref tu, .int (nI k), .ref lk, .ref f1, .ref s2, .ref ms, .ref nx, .ref bs, .int fd])), (ow, .inl (cJ, 3, .inr (.inl fo))), (cl, .inl (cI, 36, .inl cs)), (tu, .inl (cI, 36, .inl ts)), (lk, .inl (cJ, 3, .inr (.inl lo))), (f1, .inl (cJ, 6, .inr (.inl ff))), (s2, .inl (cJ, 6, .inr (.inl sf))), (ms, .inl (cI, 6, .inl mm)), (nx, .inl (cI, 6, .inl nf)), (bs, .inl (cI, 6, .inl bf))] H := hP.sub (ws' := [(h0, .inr (4, [.int 0, .ref ow, .int re, .int (nI w), .int mt, .ref cl, .ref tu, .int (nI k), .ref lk, .ref f1, .ref s2, .ref ms, .ref nx, .ref bs, .int fd])), (ow, .inl (cJ, 3, .inr (.inl fo))), (cl, .inl (cI, 36, .inl cs)), (tu, .inl (cI, 36, .inl ts)), (lk, .inl (cJ, 3, .inr (.inl lo))), (f1, .inl (cJ, 6, .inr (.inl ff))), (s2, .inl (cJ, 6, .inr (.inl sf))), (ms, .inl (cI, 6, .inl mm)), (nx, .inl (cI, 6, .inl nf)), (bs, .inl (cI, 6, .inl bf))]) [0, 1, 2, 3, 4, 5, 6, 7, 8, 9] rfl
      have hD : va_D A [(h0, .inr (4, [.int 0, .ref ow, .int re, .int (nI w), .int mt, .ref cl, .ref tu, .int (nI k), .ref lk, .ref f1, .ref s2, .ref ms, .ref nx, .ref bs, .int fd])), (ow, .inl (cJ, 3, .inr (.inl fo))), (cl, .inl (cI, 36, .inl cs)), (tu, .inl (cI, 36, .inl ts)), (lk, .inl (cJ, 3, .inr (.inl lo))), (f1, .inl (cJ, 6, .inr (.inl ff))), (s2, .inl (cJ, 6, .inr (.inl sf))), (ms, .inl (cI, 6, .inl mm)), (nx, .inl (cI, 6, .inl nf)), (bs, .inl (cI, 6, .inl bf))] := hD.sub (ws' := [(h0, .inr (4, [.int 0, .ref ow, .int re, .int (nI w), .int mt, .ref cl, .ref tu, .int (nI k), .ref lk, .ref f1, .ref s2, .ref ms, .ref nx, .ref bs, .int fd])), (ow, .inl (cJ, 3, .inr (.inl fo))), (cl, .inl (cI, 36, .inl cs)), (tu, .inl (cI, 36, .inl ts)), (lk, .inl (cJ, 3, .inr (.inl lo))), (f1, .inl (cJ, 6, .inr (.inl ff))), (s2, .inl (cJ, 6, .inr (.inl sf))), (ms, .inl (cI, 6, .inl mm)), (nx, .inl (cI, 6, .inl nf)), (bs, .inl (cI, 6, .inl bf))]) [0, 1, 2, 3, 4, 5, 6, 7, 8, 9] (by decide) rfl
      obtain rfl := hw13.symm
      refine pk_ti (y := 1) (if_pos (by decide)) ?_
      refine lv_if_eq (tgt := 40) hx hb dX7_lines_16 (by decide) (fun c16 => ?_) (fun c16 => ?_)
      · exact absurd c16 (by decide)
      · refine lv_aload_n hx hb dX7_lines_19 rfl (lv_at hl 0 rfl) ?_
        refine va_get (D := D) (ci := 4) (v := .ref ow) (C := RX7) (T := TX7) (N := 15) hx hb hts hinX7 hown hK hP 0 rfl rfl 1 (by decide) hfl7 (fun _ h9 => h9) rfl dX7_lines_20 ?_
        refine lv_iload_n hx hb dX7_lines_23 rfl (lv_at hl 1 rfl) ?_
        refine va_lald hx hb hK hP 1 1 rfl rfl (vp_in_nI (n := j) (N := 3) (by omega) (by decide)) dX7_lines_24 ?_
        refine pk_tl (y := (fo j)) (congrArg fo (pk_cl j)) ?_
        refine lv_aload_n hx hb dX7_lines_25 rfl (lv_at hl 0 rfl) ?_
        refine va_get (D := D) (ci := 4) (v := .ref ow) (C := RX7) (T := TX7) (N := 15) hx hb hts hinX7 hown hK hP 0 rfl rfl 1 (by decide) hfl7 (fun _ h9 => h9) rfl dX7_lines_26 ?_
        refine lv_iconst (v := 3) hx hb dX7_lines_29 (by decide) ?_
        refine lv_iload_n hx hb dX7_lines_30 rfl (lv_at hl 1 rfl) ?_
        refine lv_isub hx hb dX7_lines_31 ?_
        refine pk_ti (y := nI (3 - j)) (pk_sub (a := 3) (b := j) (by omega)) ?_
        refine va_lald hx hb hK hP 1 1 rfl rfl (vp_in_nI (n := (3 - j)) (N := 3) (by omega) (by decide)) dX7_lines_32 ?_
        refine pk_tl (y := (fo (3 - j))) (congrArg fo (pk_cl (3 - j))) ?_
        refine lv_iconst (v := 5) hx hb dX7_lines_33 (by decide) ?_
        refine vp_callSi (W.runS (As := [.long (fo j), .long (fo (3 - j)), .int 5]) (rest := []) ⟨hx, hb, hml, hown, hts⟩ (c_X7_count l (fo j) (fo (3 - j)) 5) (va_cwS 3 hts gX7_lines_X7_count rfl rfl rfl (by decide +kernel) ⟨Nat.le_of_ble_eq_true rfl, Nat.le_of_ble_eq_true rfl⟩) ⟨px_blind0, fun U hU hW => ⟨rfl, trivial⟩⟩ rfl rfl hl.1 rfl (lv_room (Nat.le_of_ble_eq_true rfl)) dX7_lines_34 ⟨(Nat.le_of_ble_eq_true rfl), (Nat.le_of_ble_eq_true rfl)⟩) (fun r34 er34 => ?_)
        obtain rfl := er34.symm
        refine lv_goto (tgt := 41) hx hb dX7_lines_37 (by decide) ?_
        refine W.iret (v := (msum (fo j) (fo (3 - j)) 5 32)) hx hb hr (fun tt ht hW => ⟨⟨(msum (fo j) (fo (3 - j)) 5 32), (), rfl, ?_, by rw [ht]; exact hP, va_K.moved hW.alike hK, hD⟩, hS.F ht⟩) hS.2.2 dX7_lines_41
        exact rfl
  · exact absurd (s_ok hj) b2

set_option maxHeartbeats 400000 in
set_option maxRecDepth 100000 in
theorem c_X7_fours_bad (l : Launch) (D : va_G) (cI cJ : ClassId) (sz : Nat) (h0 ow cl tu lk f1 s2 ms nx bs : Nat) (th re mt fd : Int32) (w k : Nat) (fo lo ff sf : Nat → Int64) (cs ts mm nf bf : Nat → Int32) (v : Int32) (hc : ¬ (1 ≤ v ∧ v ≤ 2)) : Met l yX7_fours wsX7_fours ({ frames := 2, cells := 0, slots := 0, locals := 51 } : Room) (va_Pc [.ref h0, .int v] (pv_C D cI cJ [(h0, .inr (4, [.int th, .ref ow, .int re, .int (nI w), .int mt, .ref cl, .ref tu, .int (nI k), .ref lk, .ref f1, .ref s2, .ref ms, .ref nx, .ref bs, .int fd])), (ow, .inl (cJ, 3, .inr (.inl fo))), (cl, .inl (cI, 36, .inl cs)), (tu, .inl (cI, 36, .inl ts)), (lk, .inl (cJ, 3, .inr (.inl lo))), (f1, .inl (cJ, 6, .inr (.inl ff))), (s2, .inl (cJ, 6, .inr (.inl sf))), (ms, .inl (cI, 6, .inl mm)), (nx, .inl (cI, 6, .inl nf)), (bs, .inl (cI, 6, .inl bf))] sz)) (va_Qi (fun (r : Int32) (u : Unit) => r = 0) (fun (u : Unit) => pv_B D cI cJ (va_A [(h0, .inr (4, [.int th, .ref ow, .int re, .int (nI w), .int mt, .ref cl, .ref tu, .int (nI k), .ref lk, .ref f1, .ref s2, .ref ms, .ref nx, .ref bs, .int fd])), (ow, .inl (cJ, 3, .inr (.inl fo))), (cl, .inl (cI, 36, .inl cs)), (tu, .inl (cI, 36, .inl ts)), (lk, .inl (cJ, 3, .inr (.inl lo))), (f1, .inl (cJ, 6, .inr (.inl ff))), (s2, .inl (cJ, 6, .inr (.inl sf))), (ms, .inl (cI, 6, .inl mm)), (nx, .inl (cI, 6, .inl nf)), (bs, .inl (cI, 6, .inl bf))] sz) [(h0, .inr (4, [.int 1, .ref ow, .int re, .int (nI w), .int mt, .ref cl, .ref tu, .int (nI k), .ref lk, .ref f1, .ref s2, .ref ms, .ref nx, .ref bs, .int fd])), (ow, .inl (cJ, 3, .inr (.inl fo))), (cl, .inl (cI, 36, .inl cs)), (tu, .inl (cI, 36, .inl ts)), (lk, .inl (cJ, 3, .inr (.inl lo))), (f1, .inl (cJ, 6, .inr (.inl ff))), (s2, .inl (cJ, 6, .inr (.inl sf))), (ms, .inl (cI, 6, .inl mm)), (nx, .inl (cI, 6, .inl nf)), (bs, .inl (cI, 6, .inl bf))]) (va_A [(h0, .inr (4, [.int th, .ref ow, .int re, .int (nI w), .int mt, .ref cl, .ref tu, .int (nI k), .ref lk, .ref f1, .ref s2, .ref ms, .ref nx, .ref bs, .int fd])), (ow, .inl (cJ, 3, .inr (.inl fo))), (cl, .inl (cI, 36, .inl cs)), (tu, .inl (cI, 36, .inl ts)), (lk, .inl (cJ, 3, .inr (.inl lo))), (f1, .inl (cJ, 6, .inr (.inl ff))), (s2, .inl (cJ, 6, .inr (.inl sf))), (ms, .inl (cI, 6, .inl mm)), (nx, .inl (cI, 6, .inl nf)), (bs, .inl (cI, 6, .inl bf))] sz)) 0 0 (va_A [(h0, .inr (4, [.int th, .ref ow, .int re, .int (nI w), .int mt, .ref cl, .ref tu, .int (nI k), .ref lk, .ref f1, .ref s2, .ref ms, .ref nx, .ref bs, .int fd])), (ow, .inl (cJ, 3, .inr (.inl fo))), (cl, .inl (cI, 36, .inl cs)), (tu, .inl (cI, 36, .inl ts)), (lk, .inl (cJ, 3, .inr (.inl lo))), (f1, .inl (cJ, 6, .inr (.inl ff))), (s2, .inl (cJ, 6, .inr (.inl sf))), (ms, .inl (cI, 6, .inl mm)), (nx, .inl (cI, 6, .inl nf)), (bs, .inl (cI, 6, .inl bf))] sz) := by
  refine Met.ofW (cc := cX7_fours) (maxL := 2) (ret := (some .int)) (by decide) rfl ?_
  intro p e s m args below meth c s₁ B hml hv
  obtain ⟨rfl, rfl, hP, hK, hD0⟩ := hv
  have hx := B.exec
  have hb := B.bytes
  have hr := B.returns
  have hts := atoms_spec (ws := wsX7_fours) B.pre
  have hown : s.vm.findClass RX7 = some m.cls := findClass_of_methodNamed B.named
  have hlocks := B.notSynchronized
  have hD := hD0.self (sz := s.heap.size)
  generalize hAe : va_A [(h0, .inr (4, [.int th, .ref ow, .int re, .int (nI w), .int mt, .ref cl, .ref tu, .int (nI k), .ref lk, .ref f1, .ref s2, .ref ms, .ref nx, .ref bs, .int fd])), (ow, .inl (cJ, 3, .inr (.inl fo))), (cl, .inl (cI, 36, .inl cs)), (tu, .inl (cI, 36, .inl ts)), (lk, .inl (cJ, 3, .inr (.inl lo))), (f1, .inl (cJ, 6, .inr (.inl ff))), (s2, .inl (cJ, 6, .inr (.inl sf))), (ms, .inl (cI, 6, .inl mm)), (nx, .inl (cI, 6, .inl nf)), (bs, .inl (cI, 6, .inl bf))] s.heap.size = A at hD ⊢
  have hA : ∀ q : Nat, s.heap.size ≤ q → A q := fun q h => by rw [← hAe]; exact Or.inr h
  have hS : va_S A s.heap s.heap [] := va_S.rf
  have hl := lv_entry ([.ref h0, .int v]) (n := 2) (Nat.le_of_ble_eq_true rfl)
  rw [lg_entry_eq]
  generalize (lg_sl ([.ref h0, .int v]) ++ List.replicate (2 - (lg_sl ([.ref h0, .int v])).length) Slot.unset).toArray = ls at hl ⊢
  have hl : lv_has ls 2 [(0, .ref h0), (1, .int v)] := hl
  refine lv_aload_n hx hb dX7_fours_0 rfl (lv_at hl 0 rfl) ?_
  refine lv_iload_n hx hb dX7_fours_1 rfl (lv_at hl 1 rfl) ?_
  refine vp_callSi (W.runS (As := [.int v]) (rest := [.ref h0]) ⟨hx, hb, hml, hown, hts⟩ (c_X7_isSide l v) (va_cwS 1 hts gX7_fours_X7_isSide rfl rfl rfl (by decide +kernel) ⟨Nat.le_of_ble_eq_true rfl, Nat.le_of_ble_eq_true rfl⟩) ⟨px_blind0, fun U hU hW => ⟨rfl, trivial⟩⟩ rfl rfl hl.1 rfl (lv_room (Nat.le_of_ble_eq_true rfl)) dX7_fours_2 ⟨(Nat.le_of_ble_eq_true rfl), (Nat.le_of_ble_eq_true rfl)⟩) (fun r2 er2 => ?_)
  obtain rfl := er2.symm
  refine pk_b (P := 1 ≤ v ∧ v ≤ 2) (fun b2 => ?_) (fun b2 => ?_)
  · exact absurd b2 hc
  · refine lv_if_eq (tgt := 12) hx hb dX7_fours_5 (by decide) (fun c5 => ?_) (fun c5 => ?_)
    · refine lv_iconst (v := 1) hx hb dX7_fours_12 (by decide) ?_
      have hPc := hP.sub (ws' := [(h0, .inr (4, [.int th, .ref ow, .int re, .int (nI w), .int mt, .ref cl, .ref tu, .int (nI k), .ref lk, .ref f1, .ref s2, .ref ms, .ref nx, .ref bs, .int fd])), (ow, .inl (cJ, 3, .inr (.inl fo))), (cl, .inl (cI, 36, .inl cs)), (tu, .inl (cI, 36, .inl ts)), (lk, .inl (cJ, 3, .inr (.inl lo))), (f1, .inl (cJ, 6, .inr (.inl ff))), (s2, .inl (cJ, 6, .inr (.inl sf))), (ms, .inl (cI, 6, .inl mm)), (nx, .inl (cI, 6, .inl nf)), (bs, .inl (cI, 6, .inl bf))]) [0, 1, 2, 3, 4, 5, 6, 7, 8, 9] rfl
      have hDc := hD.sub (ws' := [(h0, .inr (4, [.int th, .ref ow, .int re, .int (nI w), .int mt, .ref cl, .ref tu, .int (nI k), .ref lk, .ref f1, .ref s2, .ref ms, .ref nx, .ref bs, .int fd])), (ow, .inl (cJ, 3, .inr (.inl fo))), (cl, .inl (cI, 36, .inl cs)), (tu, .inl (cI, 36, .inl ts)), (lk, .inl (cJ, 3, .inr (.inl lo))), (f1, .inl (cJ, 6, .inr (.inl ff))), (s2, .inl (cJ, 6, .inr (.inl sf))), (ms, .inl (cI, 6, .inl mm)), (nx, .inl (cI, 6, .inl nf)), (bs, .inl (cI, 6, .inl bf))]) [0, 1, 2, 3, 4, 5, 6, 7, 8, 9] (by decide) rfl
      have hFc := va_free (wc := [(h0, .inr (4, [.int th, .ref ow, .int re, .int (nI w), .int mt, .ref cl, .ref tu, .int (nI k), .ref lk, .ref f1, .ref s2, .ref ms, .ref nx, .ref bs, .int fd])), (ow, .inl (cJ, 3, .inr (.inl fo))), (cl, .inl (cI, 36, .inl cs)), (tu, .inl (cI, 36, .inl ts)), (lk, .inl (cJ, 3, .inr (.inl lo))), (f1, .inl (cJ, 6, .inr (.inl ff))), (s2, .inl (cJ, 6, .inr (.inl sf))), (ms, .inl (cI, 6, .inl mm)), (nx, .inl (cI, 6, .inl nf)), (bs, .inl (cI, 6, .inl bf))]) hD hS hA [0, 1, 2, 3, 4, 5, 6, 7, 8, 9] rfl
      refine va_calli (va_runV (As := [.int 1]) (rest := []) ⟨hx, hb, hml, hown, hts⟩ (c_X7_goesWell l D cI cJ s.heap.size  h0 ow cl tu lk f1 s2 ms nx bs th re mt fd w k fo lo ff sf cs ts mm nf bf 1) (cwV 1 hts gX7_fours_X7_goesWell rfl rfl rfl (by decide +kernel) ⟨Nat.le_of_ble_eq_true rfl, Nat.le_of_ble_eq_true rfl⟩) ⟨pv_blind, va_recv hK hPc (ci := 4) (q0 := 0) rfl rfl, fun U hU hW => ⟨rfl, by rw [hU], by rw [hU]; exact hPc, va_K.moved hW.alike hK, hDc.weaken (fun _ _ _ _ => trivial)⟩⟩ rfl rfl hl.1 rfl (lv_room (Nat.le_of_ble_eq_true rfl)) dX7_fours_13 ⟨(Nat.le_of_ble_eq_true rfl), (Nat.le_of_ble_eq_true rfl)⟩) hS (fun q _ h => hFc q h) hFc (fun r13 u t9 H1 locs hth hvm hw13 hB hz1 hk1 hS => ?_)
      try dsimp only at hw13
      obtain ⟨hP1, hK1, hD1⟩ := hB
      rw [hth] at hP1
      obtain ⟨hP, hD⟩ := va_join (wr := []) (w1 := [(h0, .inr (4, [.int 1, .ref ow, .int re, .int (nI w), .int mt, .ref cl, .ref tu, .int (nI k), .ref lk, .ref f1, .ref s2, .ref ms, .ref nx, .ref bs, .int fd])), (ow, .inl (cJ, 3, .inr (.inl fo))), (cl, .inl (cI, 36, .inl cs)), (tu, .inl (cI, 36, .inl ts)), (lk, .inl (cJ, 3, .inr (.inl lo))), (f1, .inl (cJ, 6, .inr (.inl ff))), (s2, .inl (cJ, 6, .inr (.inl sf))), (ms, .inl (cI, 6, .inl mm)), (nx, .inl (cI, 6, .inl nf)), (bs, .inl (cI, 6, .inl bf))]) hP hD [0, 1, 2, 3, 4, 5, 6, 7, 8, 9] [] rfl rfl (by decide) (by decide) hk1 hFc hP1 hD1
      generalize H1 = H at hP hS ⊢
      have hP : va_P D vwCl [(h0, .inr (4, [.int 1, .ref ow, .int re, .int (nI w), .int mt, .ref cl, .ref tu, .int (nI k), .ref lk, .ref f1, .ref s2, .ref ms, .ref nx, .ref bs, .int fd])), (ow, .inl (cJ, 3, .inr (.inl fo))), (cl, .inl (cI, 36, .inl cs)), (tu, .inl (cI, 36, .inl ts)), (lk, .inl (cJ, 3, .inr (.inl lo))), (f1, .inl (cJ, 6, .inr (.inl ff))), (s2, .inl (cJ, 6, .inr (.inl sf))), (ms, .inl (cI, 6, .inl mm)), (nx, .inl (cI, 6, .inl nf)), (bs, .inl (cI, 6, .inl bf))] H := hP.sub (ws' := [(h0, .inr (4, [.int 1, .ref ow, .int re, .int (nI w), .int mt, .ref cl, .ref tu, .int (nI k), .ref lk, .ref f1, .ref s2, .ref ms, .ref nx, .ref bs, .int fd])), (ow, .inl (cJ, 3, .inr (.inl fo))), (cl, .inl (cI, 36, .inl cs)), (tu, .inl (cI, 36, .inl ts)), (lk, .inl (cJ, 3, .inr (.inl lo))), (f1, .inl (cJ, 6, .inr (.inl ff))), (s2, .inl (cJ, 6, .inr (.inl sf))), (ms, .inl (cI, 6, .inl mm)), (nx, .inl (cI, 6, .inl nf)), (bs, .inl (cI, 6, .inl bf))]) [0, 1, 2, 3, 4, 5, 6, 7, 8, 9] rfl
      have hD : va_D A [(h0, .inr (4, [.int 1, .ref ow, .int re, .int (nI w), .int mt, .ref cl, .ref tu, .int (nI k), .ref lk, .ref f1, .ref s2, .ref ms, .ref nx, .ref bs, .int fd])), (ow, .inl (cJ, 3, .inr (.inl fo))), (cl, .inl (cI, 36, .inl cs)), (tu, .inl (cI, 36, .inl ts)), (lk, .inl (cJ, 3, .inr (.inl lo))), (f1, .inl (cJ, 6, .inr (.inl ff))), (s2, .inl (cJ, 6, .inr (.inl sf))), (ms, .inl (cI, 6, .inl mm)), (nx, .inl (cI, 6, .inl nf)), (bs, .inl (cI, 6, .inl bf))] := hD.sub (ws' := [(h0, .inr (4, [.int 1, .ref ow, .int re, .int (nI w), .int mt, .ref cl, .ref tu, .int (nI k), .ref lk, .ref f1, .ref s2, .ref ms, .ref nx, .ref bs, .int fd])), (ow, .inl (cJ, 3, .inr (.inl fo))), (cl, .inl (cI, 36, .inl cs)), (tu, .inl (cI, 36, .inl ts)), (lk, .inl (cJ, 3, .inr (.inl lo))), (f1, .inl (cJ, 6, .inr (.inl ff))), (s2, .inl (cJ, 6, .inr (.inl sf))), (ms, .inl (cI, 6, .inl mm)), (nx, .inl (cI, 6, .inl nf)), (bs, .inl (cI, 6, .inl bf))]) [0, 1, 2, 3, 4, 5, 6, 7, 8, 9] (by decide) rfl
      obtain rfl := hw13.symm
      refine pk_ti (y := 0) (if_neg (by decide)) ?_
      refine lv_if_eq (tgt := 40) hx hb dX7_fours_16 (by decide) (fun c16 => ?_) (fun c16 => ?_)
      · refine lv_iconst (v := 0) hx hb dX7_fours_40 (by decide) ?_
        refine W.iret (v := 0) hx hb hr (fun tt ht hW => ⟨⟨0, (), rfl, ?_, by rw [ht]; exact hP, va_K.moved hW.alike hK, hD⟩, hS.F ht⟩) hS.2.2 dX7_fours_41
        exact rfl
      · exact absurd c16 (by decide)
    · exact absurd c5 (by decide)

set_option maxHeartbeats 400000 in
set_option maxRecDepth 100000 in
theorem c_X7_fours_ok (l : Launch) (D : va_G) (cI cJ : ClassId) (sz : Nat) (h0 ow cl tu lk f1 s2 ms nx bs : Nat) (th re mt fd : Int32) (w k : Nat) (fo lo ff sf : Nat → Int64) (cs ts mm nf bf : Nat → Int32) (j : Nat) (hj : j = 1 ∨ j = 2) : Met l yX7_fours wsX7_fours ({ frames := 2, cells := 0, slots := 0, locals := 51 } : Room) (va_Pc [.ref h0, .int (nI j)] (pv_C D cI cJ [(h0, .inr (4, [.int th, .ref ow, .int re, .int (nI w), .int mt, .ref cl, .ref tu, .int (nI k), .ref lk, .ref f1, .ref s2, .ref ms, .ref nx, .ref bs, .int fd])), (ow, .inl (cJ, 3, .inr (.inl fo))), (cl, .inl (cI, 36, .inl cs)), (tu, .inl (cI, 36, .inl ts)), (lk, .inl (cJ, 3, .inr (.inl lo))), (f1, .inl (cJ, 6, .inr (.inl ff))), (s2, .inl (cJ, 6, .inr (.inl sf))), (ms, .inl (cI, 6, .inl mm)), (nx, .inl (cI, 6, .inl nf)), (bs, .inl (cI, 6, .inl bf))] sz)) (va_Qi (fun (r : Int32) (u : Unit) => r = msum (fo j) (fo (3 - j)) 4 32) (fun (u : Unit) => pv_B D cI cJ (va_A [(h0, .inr (4, [.int th, .ref ow, .int re, .int (nI w), .int mt, .ref cl, .ref tu, .int (nI k), .ref lk, .ref f1, .ref s2, .ref ms, .ref nx, .ref bs, .int fd])), (ow, .inl (cJ, 3, .inr (.inl fo))), (cl, .inl (cI, 36, .inl cs)), (tu, .inl (cI, 36, .inl ts)), (lk, .inl (cJ, 3, .inr (.inl lo))), (f1, .inl (cJ, 6, .inr (.inl ff))), (s2, .inl (cJ, 6, .inr (.inl sf))), (ms, .inl (cI, 6, .inl mm)), (nx, .inl (cI, 6, .inl nf)), (bs, .inl (cI, 6, .inl bf))] sz) [(h0, .inr (4, [.int 0, .ref ow, .int re, .int (nI w), .int mt, .ref cl, .ref tu, .int (nI k), .ref lk, .ref f1, .ref s2, .ref ms, .ref nx, .ref bs, .int fd])), (ow, .inl (cJ, 3, .inr (.inl fo))), (cl, .inl (cI, 36, .inl cs)), (tu, .inl (cI, 36, .inl ts)), (lk, .inl (cJ, 3, .inr (.inl lo))), (f1, .inl (cJ, 6, .inr (.inl ff))), (s2, .inl (cJ, 6, .inr (.inl sf))), (ms, .inl (cI, 6, .inl mm)), (nx, .inl (cI, 6, .inl nf)), (bs, .inl (cI, 6, .inl bf))]) (va_A [(h0, .inr (4, [.int th, .ref ow, .int re, .int (nI w), .int mt, .ref cl, .ref tu, .int (nI k), .ref lk, .ref f1, .ref s2, .ref ms, .ref nx, .ref bs, .int fd])), (ow, .inl (cJ, 3, .inr (.inl fo))), (cl, .inl (cI, 36, .inl cs)), (tu, .inl (cI, 36, .inl ts)), (lk, .inl (cJ, 3, .inr (.inl lo))), (f1, .inl (cJ, 6, .inr (.inl ff))), (s2, .inl (cJ, 6, .inr (.inl sf))), (ms, .inl (cI, 6, .inl mm)), (nx, .inl (cI, 6, .inl nf)), (bs, .inl (cI, 6, .inl bf))] sz)) 0 0 (va_A [(h0, .inr (4, [.int th, .ref ow, .int re, .int (nI w), .int mt, .ref cl, .ref tu, .int (nI k), .ref lk, .ref f1, .ref s2, .ref ms, .ref nx, .ref bs, .int fd])), (ow, .inl (cJ, 3, .inr (.inl fo))), (cl, .inl (cI, 36, .inl cs)), (tu, .inl (cI, 36, .inl ts)), (lk, .inl (cJ, 3, .inr (.inl lo))), (f1, .inl (cJ, 6, .inr (.inl ff))), (s2, .inl (cJ, 6, .inr (.inl sf))), (ms, .inl (cI, 6, .inl mm)), (nx, .inl (cI, 6, .inl nf)), (bs, .inl (cI, 6, .inl bf))] sz) := by
  refine Met.ofW (cc := cX7_fours) (maxL := 2) (ret := (some .int)) (by decide) rfl ?_
  intro p e s m args below meth c s₁ B hml hv
  obtain ⟨rfl, rfl, hP, hK, hD0⟩ := hv
  have hx := B.exec
  have hb := B.bytes
  have hr := B.returns
  have hts := atoms_spec (ws := wsX7_fours) B.pre
  have hown : s.vm.findClass RX7 = some m.cls := findClass_of_methodNamed B.named
  have hlocks := B.notSynchronized
  have hD := hD0.self (sz := s.heap.size)
  generalize hAe : va_A [(h0, .inr (4, [.int th, .ref ow, .int re, .int (nI w), .int mt, .ref cl, .ref tu, .int (nI k), .ref lk, .ref f1, .ref s2, .ref ms, .ref nx, .ref bs, .int fd])), (ow, .inl (cJ, 3, .inr (.inl fo))), (cl, .inl (cI, 36, .inl cs)), (tu, .inl (cI, 36, .inl ts)), (lk, .inl (cJ, 3, .inr (.inl lo))), (f1, .inl (cJ, 6, .inr (.inl ff))), (s2, .inl (cJ, 6, .inr (.inl sf))), (ms, .inl (cI, 6, .inl mm)), (nx, .inl (cI, 6, .inl nf)), (bs, .inl (cI, 6, .inl bf))] s.heap.size = A at hD ⊢
  have hA : ∀ q : Nat, s.heap.size ≤ q → A q := fun q h => by rw [← hAe]; exact Or.inr h
  have hS : va_S A s.heap s.heap [] := va_S.rf
  have hinX7 : ∀ w ∈ wsX70, w ∈ wsX7_fours := by decide +kernel
  have hfl7 : (Cond.fieldLink RX7 7 "TwistquadModel" "own" "[J").before ([.ref h0, .int (nI j)] : List Value).toArray s = true := hts _ (by decide +kernel)
  have hl := lv_entry ([.ref h0, .int (nI j)]) (n := 2) (Nat.le_of_ble_eq_true rfl)
  rw [lg_entry_eq]
  generalize (lg_sl ([.ref h0, .int (nI j)]) ++ List.replicate (2 - (lg_sl ([.ref h0, .int (nI j)])).length) Slot.unset).toArray = ls at hl ⊢
  have hl : lv_has ls 2 [(0, .ref h0), (1, .int (nI j))] := hl
  refine lv_aload_n hx hb dX7_fours_0 rfl (lv_at hl 0 rfl) ?_
  refine lv_iload_n hx hb dX7_fours_1 rfl (lv_at hl 1 rfl) ?_
  refine vp_callSi (W.runS (As := [.int (nI j)]) (rest := [.ref h0]) ⟨hx, hb, hml, hown, hts⟩ (c_X7_isSide l (nI j)) (va_cwS 1 hts gX7_fours_X7_isSide rfl rfl rfl (by decide +kernel) ⟨Nat.le_of_ble_eq_true rfl, Nat.le_of_ble_eq_true rfl⟩) ⟨px_blind0, fun U hU hW => ⟨rfl, trivial⟩⟩ rfl rfl hl.1 rfl (lv_room (Nat.le_of_ble_eq_true rfl)) dX7_fours_2 ⟨(Nat.le_of_ble_eq_true rfl), (Nat.le_of_ble_eq_true rfl)⟩) (fun r2 er2 => ?_)
  obtain rfl := er2.symm
  refine pk_b (P := 1 ≤ (nI j) ∧ (nI j) ≤ 2) (fun b2 => ?_) (fun b2 => ?_)
  · refine lv_if_eq (tgt := 12) hx hb dX7_fours_5 (by decide) (fun c5 => ?_) (fun c5 => ?_)
    · exact absurd c5 (by decide)
    · refine lv_iconst (v := 0) hx hb dX7_fours_8 (by decide) ?_
      refine lv_goto (tgt := 13) hx hb dX7_fours_9 (by decide) ?_
      have hPc := hP.sub (ws' := [(h0, .inr (4, [.int th, .ref ow, .int re, .int (nI w), .int mt, .ref cl, .ref tu, .int (nI k), .ref lk, .ref f1, .ref s2, .ref ms, .ref nx, .ref bs, .int fd])), (ow, .inl (cJ, 3, .inr (.inl fo))), (cl, .inl (cI, 36, .inl cs)), (tu, .inl (cI, 36, .inl ts)), (lk, .inl (cJ, 3, .inr (.inl lo))), (f1, .inl (cJ, 6, .inr (.inl ff))), (s2, .inl (cJ, 6, .inr (.inl sf))), (ms, .inl (cI, 6, .inl mm)), (nx, .inl (cI, 6, .inl nf)), (bs, .inl (cI, 6, .inl bf))]) [0, 1, 2, 3, 4, 5, 6, 7, 8, 9] rfl
      have hDc := hD.sub (ws' := [(h0, .inr (4, [.int th, .ref ow, .int re, .int (nI w), .int mt, .ref cl, .ref tu, .int (nI k), .ref lk, .ref f1, .ref s2, .ref ms, .ref nx, .ref bs, .int fd])), (ow, .inl (cJ, 3, .inr (.inl fo))), (cl, .inl (cI, 36, .inl cs)), (tu, .inl (cI, 36, .inl ts)), (lk, .inl (cJ, 3, .inr (.inl lo))), (f1, .inl (cJ, 6, .inr (.inl ff))), (s2, .inl (cJ, 6, .inr (.inl sf))), (ms, .inl (cI, 6, .inl mm)), (nx, .inl (cI, 6, .inl nf)), (bs, .inl (cI, 6, .inl bf))]) [0, 1, 2, 3, 4, 5, 6, 7, 8, 9] (by decide) rfl
      have hFc := va_free (wc := [(h0, .inr (4, [.int th, .ref ow, .int re, .int (nI w), .int mt, .ref cl, .ref tu, .int (nI k), .ref lk, .ref f1, .ref s2, .ref ms, .ref nx, .ref bs, .int fd])), (ow, .inl (cJ, 3, .inr (.inl fo))), (cl, .inl (cI, 36, .inl cs)), (tu, .inl (cI, 36, .inl ts)), (lk, .inl (cJ, 3, .inr (.inl lo))), (f1, .inl (cJ, 6, .inr (.inl ff))), (s2, .inl (cJ, 6, .inr (.inl sf))), (ms, .inl (cI, 6, .inl mm)), (nx, .inl (cI, 6, .inl nf)), (bs, .inl (cI, 6, .inl bf))]) hD hS hA [0, 1, 2, 3, 4, 5, 6, 7, 8, 9] rfl
      refine va_calli (va_runV (As := [.int 0]) (rest := []) ⟨hx, hb, hml, hown, hts⟩ (c_X7_goesWell l D cI cJ s.heap.size  h0 ow cl tu lk f1 s2 ms nx bs th re mt fd w k fo lo ff sf cs ts mm nf bf 0) (cwV 1 hts gX7_fours_X7_goesWell rfl rfl rfl (by decide +kernel) ⟨Nat.le_of_ble_eq_true rfl, Nat.le_of_ble_eq_true rfl⟩) ⟨pv_blind, va_recv hK hPc (ci := 4) (q0 := 0) rfl rfl, fun U hU hW => ⟨rfl, by rw [hU], by rw [hU]; exact hPc, va_K.moved hW.alike hK, hDc.weaken (fun _ _ _ _ => trivial)⟩⟩ rfl rfl hl.1 rfl (lv_room (Nat.le_of_ble_eq_true rfl)) dX7_fours_13 ⟨(Nat.le_of_ble_eq_true rfl), (Nat.le_of_ble_eq_true rfl)⟩) hS (fun q _ h => hFc q h) hFc (fun r13 u t9 H1 locs hth hvm hw13 hB hz1 hk1 hS => ?_)
      try dsimp only at hw13
      obtain ⟨hP1, hK1, hD1⟩ := hB
      rw [hth] at hP1
      obtain ⟨hP, hD⟩ := va_join (wr := []) (w1 := [(h0, .inr (4, [.int 0, .ref ow, .int re, .int (nI w), .int mt, .ref cl, .ref tu, .int (nI k), .ref lk, .ref f1, .ref s2, .ref ms, .ref nx, .ref bs, .int fd])), (ow, .inl (cJ, 3, .inr (.inl fo))), (cl, .inl (cI, 36, .inl cs)), (tu, .inl (cI, 36, .inl ts)), (lk, .inl (cJ, 3, .inr (.inl lo))), (f1, .inl (cJ, 6, .inr (.inl ff))), (s2, .inl (cJ, 6, .inr (.inl sf))), (ms, .inl (cI, 6, .inl mm)), (nx, .inl (cI, 6, .inl nf)), (bs, .inl (cI, 6, .inl bf))]) hP hD [0, 1, 2, 3, 4, 5, 6, 7, 8, 9] [] rfl rfl (by decide) (by decide) hk1 hFc hP1 hD1
      generalize H1 = H at hP hS ⊢
      have hP : va_P D vwCl [(h0, .inr (4, [.int 0, .ref ow, .int re, .int (nI w), .int mt, .ref cl, .ref tu, .int (nI k), .ref lk, .ref f1, .ref s2, .ref ms, .ref nx, .ref bs, .int fd])), (ow, .inl (cJ, 3, .inr (.inl fo))), (cl, .inl (cI, 36, .inl cs)), (tu, .inl (cI, 36, .inl ts)), (lk, .inl (cJ, 3, .inr (.inl lo))), (f1, .inl (cJ, 6, .inr (.inl ff))), (s2, .inl (cJ, 6, .inr (.inl sf))), (ms, .inl (cI, 6, .inl mm)), (nx, .inl (cI, 6, .inl nf)), (bs, .inl (cI, 6, .inl bf))] H := hP.sub (ws' := [(h0, .inr (4, [.int 0, .ref ow, .int re, .int (nI w), .int mt, .ref cl, .ref tu, .int (nI k), .ref lk, .ref f1, .ref s2, .ref ms, .ref nx, .ref bs, .int fd])), (ow, .inl (cJ, 3, .inr (.inl fo))), (cl, .inl (cI, 36, .inl cs)), (tu, .inl (cI, 36, .inl ts)), (lk, .inl (cJ, 3, .inr (.inl lo))), (f1, .inl (cJ, 6, .inr (.inl ff))), (s2, .inl (cJ, 6, .inr (.inl sf))), (ms, .inl (cI, 6, .inl mm)), (nx, .inl (cI, 6, .inl nf)), (bs, .inl (cI, 6, .inl bf))]) [0, 1, 2, 3, 4, 5, 6, 7, 8, 9] rfl
      have hD : va_D A [(h0, .inr (4, [.int 0, .ref ow, .int re, .int (nI w), .int mt, .ref cl, .ref tu, .int (nI k), .ref lk, .ref f1, .ref s2, .ref ms, .ref nx, .ref bs, .int fd])), (ow, .inl (cJ, 3, .inr (.inl fo))), (cl, .inl (cI, 36, .inl cs)), (tu, .inl (cI, 36, .inl ts)), (lk, .inl (cJ, 3, .inr (.inl lo))), (f1, .inl (cJ, 6, .inr (.inl ff))), (s2, .inl (cJ, 6, .inr (.inl sf))), (ms, .inl (cI, 6, .inl mm)), (nx, .inl (cI, 6, .inl nf)), (bs, .inl (cI, 6, .inl bf))] := hD.sub (ws' := [(h0, .inr (4, [.int 0, .ref ow, .int re, .int (nI w), .int mt, .ref cl, .ref tu, .int (nI k), .ref lk, .ref f1, .ref s2, .ref ms, .ref nx, .ref bs, .int fd])), (ow, .inl (cJ, 3, .inr (.inl fo))), (cl, .inl (cI, 36, .inl cs)), (tu, .inl (cI, 36, .inl ts)), (lk, .inl (cJ, 3, .inr (.inl lo))), (f1, .inl (cJ, 6, .inr (.inl ff))), (s2, .inl (cJ, 6, .inr (.inl sf))), (ms, .inl (cI, 6, .inl mm)), (nx, .inl (cI, 6, .inl nf)), (bs, .inl (cI, 6, .inl bf))]) [0, 1, 2, 3, 4, 5, 6, 7, 8, 9] (by decide) rfl
      obtain rfl := hw13.symm
      refine pk_ti (y := 1) (if_pos (by decide)) ?_
      refine lv_if_eq (tgt := 40) hx hb dX7_fours_16 (by decide) (fun c16 => ?_) (fun c16 => ?_)
      · exact absurd c16 (by decide)
      · refine lv_aload_n hx hb dX7_fours_19 rfl (lv_at hl 0 rfl) ?_
        refine va_get (D := D) (ci := 4) (v := .ref ow) (C := RX7) (T := TX7) (N := 15) hx hb hts hinX7 hown hK hP 0 rfl rfl 1 (by decide) hfl7 (fun _ h9 => h9) rfl dX7_fours_20 ?_
        refine lv_iload_n hx hb dX7_fours_23 rfl (lv_at hl 1 rfl) ?_
        refine va_lald hx hb hK hP 1 1 rfl rfl (vp_in_nI (n := j) (N := 3) (by omega) (by decide)) dX7_fours_24 ?_
        refine pk_tl (y := (fo j)) (congrArg fo (pk_cl j)) ?_
        refine lv_aload_n hx hb dX7_fours_25 rfl (lv_at hl 0 rfl) ?_
        refine va_get (D := D) (ci := 4) (v := .ref ow) (C := RX7) (T := TX7) (N := 15) hx hb hts hinX7 hown hK hP 0 rfl rfl 1 (by decide) hfl7 (fun _ h9 => h9) rfl dX7_fours_26 ?_
        refine lv_iconst (v := 3) hx hb dX7_fours_29 (by decide) ?_
        refine lv_iload_n hx hb dX7_fours_30 rfl (lv_at hl 1 rfl) ?_
        refine lv_isub hx hb dX7_fours_31 ?_
        refine pk_ti (y := nI (3 - j)) (pk_sub (a := 3) (b := j) (by omega)) ?_
        refine va_lald hx hb hK hP 1 1 rfl rfl (vp_in_nI (n := (3 - j)) (N := 3) (by omega) (by decide)) dX7_fours_32 ?_
        refine pk_tl (y := (fo (3 - j))) (congrArg fo (pk_cl (3 - j))) ?_
        refine lv_iconst (v := 4) hx hb dX7_fours_33 (by decide) ?_
        refine vp_callSi (W.runS (As := [.long (fo j), .long (fo (3 - j)), .int 4]) (rest := []) ⟨hx, hb, hml, hown, hts⟩ (c_X7_count l (fo j) (fo (3 - j)) 4) (va_cwS 3 hts gX7_fours_X7_count rfl rfl rfl (by decide +kernel) ⟨Nat.le_of_ble_eq_true rfl, Nat.le_of_ble_eq_true rfl⟩) ⟨px_blind0, fun U hU hW => ⟨rfl, trivial⟩⟩ rfl rfl hl.1 rfl (lv_room (Nat.le_of_ble_eq_true rfl)) dX7_fours_34 ⟨(Nat.le_of_ble_eq_true rfl), (Nat.le_of_ble_eq_true rfl)⟩) (fun r34 er34 => ?_)
        obtain rfl := er34.symm
        refine lv_goto (tgt := 41) hx hb dX7_fours_37 (by decide) ?_
        refine W.iret (v := (msum (fo j) (fo (3 - j)) 4 32)) hx hb hr (fun tt ht hW => ⟨⟨(msum (fo j) (fo (3 - j)) 4 32), (), rfl, ?_, by rw [ht]; exact hP, va_K.moved hW.alike hK, hD⟩, hS.F ht⟩) hS.2.2 dX7_fours_41
        exact rfl
  · exact absurd (s_ok hj) b2

set_option maxHeartbeats 400000 in
set_option maxRecDepth 100000 in
theorem c_X7_foursBehind_bad1 (l : Launch) (D : va_G) (cI cJ : ClassId) (sz : Nat) (h0 ow cl tu lk f1 s2 ms nx bs : Nat) (th re mt fd : Int32) (w k : Nat) (fo lo ff sf : Nat → Int64) (cs ts mm nf bf : Nat → Int32) (v v2 v3 : Int32) (hc : ¬ ((1 ≤ v ∧ v ≤ 2) ∧ (0 ≤ v2 ∧ v2 ≤ 3))) : Met l yX7_foursBehind wsX7_foursBehind ({ frames := 2, cells := 0, slots := 0, locals := 51 } : Room) (va_Pc [.ref h0, .int v, .int v2, .int v3] (pv_C D cI cJ [(h0, .inr (4, [.int th, .ref ow, .int re, .int (nI w), .int mt, .ref cl, .ref tu, .int (nI k), .ref lk, .ref f1, .ref s2, .ref ms, .ref nx, .ref bs, .int fd])), (ow, .inl (cJ, 3, .inr (.inl fo))), (cl, .inl (cI, 36, .inl cs)), (tu, .inl (cI, 36, .inl ts)), (lk, .inl (cJ, 3, .inr (.inl lo))), (f1, .inl (cJ, 6, .inr (.inl ff))), (s2, .inl (cJ, 6, .inr (.inl sf))), (ms, .inl (cI, 6, .inl mm)), (nx, .inl (cI, 6, .inl nf)), (bs, .inl (cI, 6, .inl bf))] sz)) (va_Qi (fun (r : Int32) (u : Unit) => r = 0) (fun (u : Unit) => pv_B D cI cJ (va_A [(h0, .inr (4, [.int th, .ref ow, .int re, .int (nI w), .int mt, .ref cl, .ref tu, .int (nI k), .ref lk, .ref f1, .ref s2, .ref ms, .ref nx, .ref bs, .int fd])), (ow, .inl (cJ, 3, .inr (.inl fo))), (cl, .inl (cI, 36, .inl cs)), (tu, .inl (cI, 36, .inl ts)), (lk, .inl (cJ, 3, .inr (.inl lo))), (f1, .inl (cJ, 6, .inr (.inl ff))), (s2, .inl (cJ, 6, .inr (.inl sf))), (ms, .inl (cI, 6, .inl mm)), (nx, .inl (cI, 6, .inl nf)), (bs, .inl (cI, 6, .inl bf))] sz) [(h0, .inr (4, [.int 1, .ref ow, .int re, .int (nI w), .int mt, .ref cl, .ref tu, .int (nI k), .ref lk, .ref f1, .ref s2, .ref ms, .ref nx, .ref bs, .int fd])), (ow, .inl (cJ, 3, .inr (.inl fo))), (cl, .inl (cI, 36, .inl cs)), (tu, .inl (cI, 36, .inl ts)), (lk, .inl (cJ, 3, .inr (.inl lo))), (f1, .inl (cJ, 6, .inr (.inl ff))), (s2, .inl (cJ, 6, .inr (.inl sf))), (ms, .inl (cI, 6, .inl mm)), (nx, .inl (cI, 6, .inl nf)), (bs, .inl (cI, 6, .inl bf))]) (va_A [(h0, .inr (4, [.int th, .ref ow, .int re, .int (nI w), .int mt, .ref cl, .ref tu, .int (nI k), .ref lk, .ref f1, .ref s2, .ref ms, .ref nx, .ref bs, .int fd])), (ow, .inl (cJ, 3, .inr (.inl fo))), (cl, .inl (cI, 36, .inl cs)), (tu, .inl (cI, 36, .inl ts)), (lk, .inl (cJ, 3, .inr (.inl lo))), (f1, .inl (cJ, 6, .inr (.inl ff))), (s2, .inl (cJ, 6, .inr (.inl sf))), (ms, .inl (cI, 6, .inl mm)), (nx, .inl (cI, 6, .inl nf)), (bs, .inl (cI, 6, .inl bf))] sz)) 0 0 (va_A [(h0, .inr (4, [.int th, .ref ow, .int re, .int (nI w), .int mt, .ref cl, .ref tu, .int (nI k), .ref lk, .ref f1, .ref s2, .ref ms, .ref nx, .ref bs, .int fd])), (ow, .inl (cJ, 3, .inr (.inl fo))), (cl, .inl (cI, 36, .inl cs)), (tu, .inl (cI, 36, .inl ts)), (lk, .inl (cJ, 3, .inr (.inl lo))), (f1, .inl (cJ, 6, .inr (.inl ff))), (s2, .inl (cJ, 6, .inr (.inl sf))), (ms, .inl (cI, 6, .inl mm)), (nx, .inl (cI, 6, .inl nf)), (bs, .inl (cI, 6, .inl bf))] sz) := by
  refine Met.ofW (cc := cX7_foursBehind) (maxL := 5) (ret := (some .int)) (by decide) rfl ?_
  intro p e s m args below meth c s₁ B hml hv
  obtain ⟨rfl, rfl, hP, hK, hD0⟩ := hv
  have hx := B.exec
  have hb := B.bytes
  have hr := B.returns
  have hts := atoms_spec (ws := wsX7_foursBehind) B.pre
  have hown : s.vm.findClass RX7 = some m.cls := findClass_of_methodNamed B.named
  have hlocks := B.notSynchronized
  have hD := hD0.self (sz := s.heap.size)
  generalize hAe : va_A [(h0, .inr (4, [.int th, .ref ow, .int re, .int (nI w), .int mt, .ref cl, .ref tu, .int (nI k), .ref lk, .ref f1, .ref s2, .ref ms, .ref nx, .ref bs, .int fd])), (ow, .inl (cJ, 3, .inr (.inl fo))), (cl, .inl (cI, 36, .inl cs)), (tu, .inl (cI, 36, .inl ts)), (lk, .inl (cJ, 3, .inr (.inl lo))), (f1, .inl (cJ, 6, .inr (.inl ff))), (s2, .inl (cJ, 6, .inr (.inl sf))), (ms, .inl (cI, 6, .inl mm)), (nx, .inl (cI, 6, .inl nf)), (bs, .inl (cI, 6, .inl bf))] s.heap.size = A at hD ⊢
  have hA : ∀ q : Nat, s.heap.size ≤ q → A q := fun q h => by rw [← hAe]; exact Or.inr h
  have hS : va_S A s.heap s.heap [] := va_S.rf
  have hl := lv_entry ([.ref h0, .int v, .int v2, .int v3]) (n := 5) (Nat.le_of_ble_eq_true rfl)
  rw [lg_entry_eq]
  generalize (lg_sl ([.ref h0, .int v, .int v2, .int v3]) ++ List.replicate (5 - (lg_sl ([.ref h0, .int v, .int v2, .int v3])).length) Slot.unset).toArray = ls at hl ⊢
  have hl : lv_has ls 5 [(0, .ref h0), (1, .int v), (2, .int v2), (3, .int v3)] := hl
  refine lv_iload_n hx hb dX7_foursBehind_0 rfl (lv_at hl 1 rfl) ?_
  refine vp_callSi (W.runS (As := [.int v]) (rest := []) ⟨hx, hb, hml, hown, hts⟩ (c_X7_isSide l v) (va_cwS 1 hts gX7_foursBehind_X7_isSide rfl rfl rfl (by decide +kernel) ⟨Nat.le_of_ble_eq_true rfl, Nat.le_of_ble_eq_true rfl⟩) ⟨px_blind0, fun U hU hW => ⟨rfl, trivial⟩⟩ rfl rfl hl.1 rfl (lv_room (Nat.le_of_ble_eq_true rfl)) dX7_foursBehind_1 ⟨(Nat.le_of_ble_eq_true rfl), (Nat.le_of_ble_eq_true rfl)⟩) (fun r1 er1 => ?_)
  obtain rfl := er1.symm
  refine pk_b (P := 1 ≤ v ∧ v ≤ 2) (fun b1 => ?_) (fun b1 => ?_)
  · refine lv_if_eq (tgt := 20) hx hb dX7_foursBehind_4 (by decide) (fun c4 => ?_) (fun c4 => ?_)
    · exact absurd c4 (by decide)
    · refine lv_iload_n hx hb dX7_foursBehind_7 rfl (lv_at hl 2 rfl) ?_
      refine lv_iconst (v := 0) hx hb dX7_foursBehind_8 (by decide) ?_
      refine lv_iconst (v := 3) hx hb dX7_foursBehind_9 (by decide) ?_
      refine vp_callSi (W.runS (As := [.int v2, .int 0, .int 3]) (rest := []) ⟨hx, hb, hml, hown, hts⟩ (c_X7_in l v2 0 3) (va_cwS 3 hts gX7_foursBehind_X7_in rfl rfl rfl (by decide +kernel) ⟨Nat.le_of_ble_eq_true rfl, Nat.le_of_ble_eq_true rfl⟩) ⟨px_blind0, fun U hU hW => ⟨rfl, trivial⟩⟩ rfl rfl hl.1 rfl (lv_room (Nat.le_of_ble_eq_true rfl)) dX7_foursBehind_10 ⟨(Nat.le_of_ble_eq_true rfl), (Nat.le_of_ble_eq_true rfl)⟩) (fun r10 er10 => ?_)
      obtain rfl := er10.symm
      refine pk_b (P := 0 ≤ v2 ∧ v2 ≤ 3) (fun b10 => ?_) (fun b10 => ?_)
      · exact absurd ⟨b1, b10⟩ hc
      · refine lv_if_eq (tgt := 20) hx hb dX7_foursBehind_13 (by decide) (fun c13 => ?_) (fun c13 => ?_)
        · refine lv_iconst (v := 0) hx hb dX7_foursBehind_20 (by decide) ?_
          refine lv_istore (lv' := [(4, .int 0), (0, .ref h0), (1, .int v), (2, .int v2), (3, .int v3)]) hx hb dX7_foursBehind_21 hl (by decide) rfl (fun ls hl => ?_)
          refine lv_aload_n hx hb dX7_foursBehind_23 rfl (lv_at hl 1 rfl) ?_
          refine lv_iload hx hb dX7_foursBehind_24 (lv_at hl 0 rfl) ?_
          refine lv_if_ne (tgt := 33) hx hb dX7_foursBehind_26 (by decide) (fun c26 => ?_) (fun c26 => ?_)
          · exact absurd c26 (by decide)
          · refine lv_iconst (v := 1) hx hb dX7_foursBehind_29 (by decide) ?_
            refine lv_goto (tgt := 47) hx hb dX7_foursBehind_30 (by decide) ?_
            have hPc := hP.sub (ws' := [(h0, .inr (4, [.int th, .ref ow, .int re, .int (nI w), .int mt, .ref cl, .ref tu, .int (nI k), .ref lk, .ref f1, .ref s2, .ref ms, .ref nx, .ref bs, .int fd])), (ow, .inl (cJ, 3, .inr (.inl fo))), (cl, .inl (cI, 36, .inl cs)), (tu, .inl (cI, 36, .inl ts)), (lk, .inl (cJ, 3, .inr (.inl lo))), (f1, .inl (cJ, 6, .inr (.inl ff))), (s2, .inl (cJ, 6, .inr (.inl sf))), (ms, .inl (cI, 6, .inl mm)), (nx, .inl (cI, 6, .inl nf)), (bs, .inl (cI, 6, .inl bf))]) [0, 1, 2, 3, 4, 5, 6, 7, 8, 9] rfl
            have hDc := hD.sub (ws' := [(h0, .inr (4, [.int th, .ref ow, .int re, .int (nI w), .int mt, .ref cl, .ref tu, .int (nI k), .ref lk, .ref f1, .ref s2, .ref ms, .ref nx, .ref bs, .int fd])), (ow, .inl (cJ, 3, .inr (.inl fo))), (cl, .inl (cI, 36, .inl cs)), (tu, .inl (cI, 36, .inl ts)), (lk, .inl (cJ, 3, .inr (.inl lo))), (f1, .inl (cJ, 6, .inr (.inl ff))), (s2, .inl (cJ, 6, .inr (.inl sf))), (ms, .inl (cI, 6, .inl mm)), (nx, .inl (cI, 6, .inl nf)), (bs, .inl (cI, 6, .inl bf))]) [0, 1, 2, 3, 4, 5, 6, 7, 8, 9] (by decide) rfl
            have hFc := va_free (wc := [(h0, .inr (4, [.int th, .ref ow, .int re, .int (nI w), .int mt, .ref cl, .ref tu, .int (nI k), .ref lk, .ref f1, .ref s2, .ref ms, .ref nx, .ref bs, .int fd])), (ow, .inl (cJ, 3, .inr (.inl fo))), (cl, .inl (cI, 36, .inl cs)), (tu, .inl (cI, 36, .inl ts)), (lk, .inl (cJ, 3, .inr (.inl lo))), (f1, .inl (cJ, 6, .inr (.inl ff))), (s2, .inl (cJ, 6, .inr (.inl sf))), (ms, .inl (cI, 6, .inl mm)), (nx, .inl (cI, 6, .inl nf)), (bs, .inl (cI, 6, .inl bf))]) hD hS hA [0, 1, 2, 3, 4, 5, 6, 7, 8, 9] rfl
            refine va_calli (va_runV (As := [.int 1]) (rest := []) ⟨hx, hb, hml, hown, hts⟩ (c_X7_goesWell l D cI cJ s.heap.size  h0 ow cl tu lk f1 s2 ms nx bs th re mt fd w k fo lo ff sf cs ts mm nf bf 1) (cwV 1 hts gX7_foursBehind_X7_goesWell rfl rfl rfl (by decide +kernel) ⟨Nat.le_of_ble_eq_true rfl, Nat.le_of_ble_eq_true rfl⟩) ⟨pv_blind, va_recv hK hPc (ci := 4) (q0 := 0) rfl rfl, fun U hU hW => ⟨rfl, by rw [hU], by rw [hU]; exact hPc, va_K.moved hW.alike hK, hDc.weaken (fun _ _ _ _ => trivial)⟩⟩ rfl rfl hl.1 rfl (lv_room (Nat.le_of_ble_eq_true rfl)) dX7_foursBehind_47 ⟨(Nat.le_of_ble_eq_true rfl), (Nat.le_of_ble_eq_true rfl)⟩) hS (fun q _ h => hFc q h) hFc (fun r47 u t9 H1 locs hth hvm hw47 hB hz1 hk1 hS => ?_)
            try dsimp only at hw47
            obtain ⟨hP1, hK1, hD1⟩ := hB
            rw [hth] at hP1
            obtain ⟨hP, hD⟩ := va_join (wr := []) (w1 := [(h0, .inr (4, [.int 1, .ref ow, .int re, .int (nI w), .int mt, .ref cl, .ref tu, .int (nI k), .ref lk, .ref f1, .ref s2, .ref ms, .ref nx, .ref bs, .int fd])), (ow, .inl (cJ, 3, .inr (.inl fo))), (cl, .inl (cI, 36, .inl cs)), (tu, .inl (cI, 36, .inl ts)), (lk, .inl (cJ, 3, .inr (.inl lo))), (f1, .inl (cJ, 6, .inr (.inl ff))), (s2, .inl (cJ, 6, .inr (.inl sf))), (ms, .inl (cI, 6, .inl mm)), (nx, .inl (cI, 6, .inl nf)), (bs, .inl (cI, 6, .inl bf))]) hP hD [0, 1, 2, 3, 4, 5, 6, 7, 8, 9] [] rfl rfl (by decide) (by decide) hk1 hFc hP1 hD1
            generalize H1 = H at hP hS ⊢
            have hP : va_P D vwCl [(h0, .inr (4, [.int 1, .ref ow, .int re, .int (nI w), .int mt, .ref cl, .ref tu, .int (nI k), .ref lk, .ref f1, .ref s2, .ref ms, .ref nx, .ref bs, .int fd])), (ow, .inl (cJ, 3, .inr (.inl fo))), (cl, .inl (cI, 36, .inl cs)), (tu, .inl (cI, 36, .inl ts)), (lk, .inl (cJ, 3, .inr (.inl lo))), (f1, .inl (cJ, 6, .inr (.inl ff))), (s2, .inl (cJ, 6, .inr (.inl sf))), (ms, .inl (cI, 6, .inl mm)), (nx, .inl (cI, 6, .inl nf)), (bs, .inl (cI, 6, .inl bf))] H := hP.sub (ws' := [(h0, .inr (4, [.int 1, .ref ow, .int re, .int (nI w), .int mt, .ref cl, .ref tu, .int (nI k), .ref lk, .ref f1, .ref s2, .ref ms, .ref nx, .ref bs, .int fd])), (ow, .inl (cJ, 3, .inr (.inl fo))), (cl, .inl (cI, 36, .inl cs)), (tu, .inl (cI, 36, .inl ts)), (lk, .inl (cJ, 3, .inr (.inl lo))), (f1, .inl (cJ, 6, .inr (.inl ff))), (s2, .inl (cJ, 6, .inr (.inl sf))), (ms, .inl (cI, 6, .inl mm)), (nx, .inl (cI, 6, .inl nf)), (bs, .inl (cI, 6, .inl bf))]) [0, 1, 2, 3, 4, 5, 6, 7, 8, 9] rfl
            have hD : va_D A [(h0, .inr (4, [.int 1, .ref ow, .int re, .int (nI w), .int mt, .ref cl, .ref tu, .int (nI k), .ref lk, .ref f1, .ref s2, .ref ms, .ref nx, .ref bs, .int fd])), (ow, .inl (cJ, 3, .inr (.inl fo))), (cl, .inl (cI, 36, .inl cs)), (tu, .inl (cI, 36, .inl ts)), (lk, .inl (cJ, 3, .inr (.inl lo))), (f1, .inl (cJ, 6, .inr (.inl ff))), (s2, .inl (cJ, 6, .inr (.inl sf))), (ms, .inl (cI, 6, .inl mm)), (nx, .inl (cI, 6, .inl nf)), (bs, .inl (cI, 6, .inl bf))] := hD.sub (ws' := [(h0, .inr (4, [.int 1, .ref ow, .int re, .int (nI w), .int mt, .ref cl, .ref tu, .int (nI k), .ref lk, .ref f1, .ref s2, .ref ms, .ref nx, .ref bs, .int fd])), (ow, .inl (cJ, 3, .inr (.inl fo))), (cl, .inl (cI, 36, .inl cs)), (tu, .inl (cI, 36, .inl ts)), (lk, .inl (cJ, 3, .inr (.inl lo))), (f1, .inl (cJ, 6, .inr (.inl ff))), (s2, .inl (cJ, 6, .inr (.inl sf))), (ms, .inl (cI, 6, .inl mm)), (nx, .inl (cI, 6, .inl nf)), (bs, .inl (cI, 6, .inl bf))]) [0, 1, 2, 3, 4, 5, 6, 7, 8, 9] (by decide) rfl
            obtain rfl := hw47.symm
            refine pk_ti (y := 0) (if_neg (by decide)) ?_
            refine lv_if_ne (tgt := 55) hx hb dX7_foursBehind_50 (by decide) (fun c50 => ?_) (fun c50 => ?_)
            · exact absurd c50 (by decide)
            · refine lv_iconst (v := 0) hx hb dX7_foursBehind_53 (by decide) ?_
              refine W.iret (v := 0) hx hb hr (fun tt ht hW => ⟨⟨0, (), rfl, ?_, by rw [ht]; exact hP, va_K.moved hW.alike hK, hD⟩, hS.F ht⟩) hS.2.2 dX7_foursBehind_54
              exact rfl
        · exact absurd c13 (by decide)
  · refine lv_if_eq (tgt := 20) hx hb dX7_foursBehind_4 (by decide) (fun c4 => ?_) (fun c4 => ?_)
    · refine lv_iconst (v := 0) hx hb dX7_foursBehind_20 (by decide) ?_
      refine lv_istore (lv' := [(4, .int 0), (0, .ref h0), (1, .int v), (2, .int v2), (3, .int v3)]) hx hb dX7_foursBehind_21 hl (by decide) rfl (fun ls hl => ?_)
      refine lv_aload_n hx hb dX7_foursBehind_23 rfl (lv_at hl 1 rfl) ?_
      refine lv_iload hx hb dX7_foursBehind_24 (lv_at hl 0 rfl) ?_
      refine lv_if_ne (tgt := 33) hx hb dX7_foursBehind_26 (by decide) (fun c26 => ?_) (fun c26 => ?_)
      · exact absurd c26 (by decide)
      · refine lv_iconst (v := 1) hx hb dX7_foursBehind_29 (by decide) ?_
        refine lv_goto (tgt := 47) hx hb dX7_foursBehind_30 (by decide) ?_
        have hPc := hP.sub (ws' := [(h0, .inr (4, [.int th, .ref ow, .int re, .int (nI w), .int mt, .ref cl, .ref tu, .int (nI k), .ref lk, .ref f1, .ref s2, .ref ms, .ref nx, .ref bs, .int fd])), (ow, .inl (cJ, 3, .inr (.inl fo))), (cl, .inl (cI, 36, .inl cs)), (tu, .inl (cI, 36, .inl ts)), (lk, .inl (cJ, 3, .inr (.inl lo))), (f1, .inl (cJ, 6, .inr (.inl ff))), (s2, .inl (cJ, 6, .inr (.inl sf))), (ms, .inl (cI, 6, .inl mm)), (nx, .inl (cI, 6, .inl nf)), (bs, .inl (cI, 6, .inl bf))]) [0, 1, 2, 3, 4, 5, 6, 7, 8, 9] rfl
        have hDc := hD.sub (ws' := [(h0, .inr (4, [.int th, .ref ow, .int re, .int (nI w), .int mt, .ref cl, .ref tu, .int (nI k), .ref lk, .ref f1, .ref s2, .ref ms, .ref nx, .ref bs, .int fd])), (ow, .inl (cJ, 3, .inr (.inl fo))), (cl, .inl (cI, 36, .inl cs)), (tu, .inl (cI, 36, .inl ts)), (lk, .inl (cJ, 3, .inr (.inl lo))), (f1, .inl (cJ, 6, .inr (.inl ff))), (s2, .inl (cJ, 6, .inr (.inl sf))), (ms, .inl (cI, 6, .inl mm)), (nx, .inl (cI, 6, .inl nf)), (bs, .inl (cI, 6, .inl bf))]) [0, 1, 2, 3, 4, 5, 6, 7, 8, 9] (by decide) rfl
        have hFc := va_free (wc := [(h0, .inr (4, [.int th, .ref ow, .int re, .int (nI w), .int mt, .ref cl, .ref tu, .int (nI k), .ref lk, .ref f1, .ref s2, .ref ms, .ref nx, .ref bs, .int fd])), (ow, .inl (cJ, 3, .inr (.inl fo))), (cl, .inl (cI, 36, .inl cs)), (tu, .inl (cI, 36, .inl ts)), (lk, .inl (cJ, 3, .inr (.inl lo))), (f1, .inl (cJ, 6, .inr (.inl ff))), (s2, .inl (cJ, 6, .inr (.inl sf))), (ms, .inl (cI, 6, .inl mm)), (nx, .inl (cI, 6, .inl nf)), (bs, .inl (cI, 6, .inl bf))]) hD hS hA [0, 1, 2, 3, 4, 5, 6, 7, 8, 9] rfl
        refine va_calli (va_runV (As := [.int 1]) (rest := []) ⟨hx, hb, hml, hown, hts⟩ (c_X7_goesWell l D cI cJ s.heap.size  h0 ow cl tu lk f1 s2 ms nx bs th re mt fd w k fo lo ff sf cs ts mm nf bf 1) (cwV 1 hts gX7_foursBehind_X7_goesWell rfl rfl rfl (by decide +kernel) ⟨Nat.le_of_ble_eq_true rfl, Nat.le_of_ble_eq_true rfl⟩) ⟨pv_blind, va_recv hK hPc (ci := 4) (q0 := 0) rfl rfl, fun U hU hW => ⟨rfl, by rw [hU], by rw [hU]; exact hPc, va_K.moved hW.alike hK, hDc.weaken (fun _ _ _ _ => trivial)⟩⟩ rfl rfl hl.1 rfl (lv_room (Nat.le_of_ble_eq_true rfl)) dX7_foursBehind_47 ⟨(Nat.le_of_ble_eq_true rfl), (Nat.le_of_ble_eq_true rfl)⟩) hS (fun q _ h => hFc q h) hFc (fun r47 u t9 H1 locs hth hvm hw47 hB hz1 hk1 hS => ?_)
        try dsimp only at hw47
        obtain ⟨hP1, hK1, hD1⟩ := hB
        rw [hth] at hP1
        obtain ⟨hP, hD⟩ := va_join (wr := []) (w1 := [(h0, .inr (4, [.int 1, .ref ow, .int re, .int (nI w), .int mt, .ref cl, .ref tu, .int (nI k), .ref lk, .ref f1, .ref s2, .ref ms, .ref nx, .ref bs, .int fd])), (ow, .inl (cJ, 3, .inr (.inl fo))), (cl, .inl (cI, 36, .inl cs)), (tu, .inl (cI, 36, .inl ts)), (lk, .inl (cJ, 3, .inr (.inl lo))), (f1, .inl (cJ, 6, .inr (.inl ff))), (s2, .inl (cJ, 6, .inr (.inl sf))), (ms, .inl (cI, 6, .inl mm)), (nx, .inl (cI, 6, .inl nf)), (bs, .inl (cI, 6, .inl bf))]) hP hD [0, 1, 2, 3, 4, 5, 6, 7, 8, 9] [] rfl rfl (by decide) (by decide) hk1 hFc hP1 hD1
        generalize H1 = H at hP hS ⊢
        have hP : va_P D vwCl [(h0, .inr (4, [.int 1, .ref ow, .int re, .int (nI w), .int mt, .ref cl, .ref tu, .int (nI k), .ref lk, .ref f1, .ref s2, .ref ms, .ref nx, .ref bs, .int fd])), (ow, .inl (cJ, 3, .inr (.inl fo))), (cl, .inl (cI, 36, .inl cs)), (tu, .inl (cI, 36, .inl ts)), (lk, .inl (cJ, 3, .inr (.inl lo))), (f1, .inl (cJ, 6, .inr (.inl ff))), (s2, .inl (cJ, 6, .inr (.inl sf))), (ms, .inl (cI, 6, .inl mm)), (nx, .inl (cI, 6, .inl nf)), (bs, .inl (cI, 6, .inl bf))] H := hP.sub (ws' := [(h0, .inr (4, [.int 1, .ref ow, .int re, .int (nI w), .int mt, .ref cl, .ref tu, .int (nI k), .ref lk, .ref f1, .ref s2, .ref ms, .ref nx, .ref bs, .int fd])), (ow, .inl (cJ, 3, .inr (.inl fo))), (cl, .inl (cI, 36, .inl cs)), (tu, .inl (cI, 36, .inl ts)), (lk, .inl (cJ, 3, .inr (.inl lo))), (f1, .inl (cJ, 6, .inr (.inl ff))), (s2, .inl (cJ, 6, .inr (.inl sf))), (ms, .inl (cI, 6, .inl mm)), (nx, .inl (cI, 6, .inl nf)), (bs, .inl (cI, 6, .inl bf))]) [0, 1, 2, 3, 4, 5, 6, 7, 8, 9] rfl
        have hD : va_D A [(h0, .inr (4, [.int 1, .ref ow, .int re, .int (nI w), .int mt, .ref cl, .ref tu, .int (nI k), .ref lk, .ref f1, .ref s2, .ref ms, .ref nx, .ref bs, .int fd])), (ow, .inl (cJ, 3, .inr (.inl fo))), (cl, .inl (cI, 36, .inl cs)), (tu, .inl (cI, 36, .inl ts)), (lk, .inl (cJ, 3, .inr (.inl lo))), (f1, .inl (cJ, 6, .inr (.inl ff))), (s2, .inl (cJ, 6, .inr (.inl sf))), (ms, .inl (cI, 6, .inl mm)), (nx, .inl (cI, 6, .inl nf)), (bs, .inl (cI, 6, .inl bf))] := hD.sub (ws' := [(h0, .inr (4, [.int 1, .ref ow, .int re, .int (nI w), .int mt, .ref cl, .ref tu, .int (nI k), .ref lk, .ref f1, .ref s2, .ref ms, .ref nx, .ref bs, .int fd])), (ow, .inl (cJ, 3, .inr (.inl fo))), (cl, .inl (cI, 36, .inl cs)), (tu, .inl (cI, 36, .inl ts)), (lk, .inl (cJ, 3, .inr (.inl lo))), (f1, .inl (cJ, 6, .inr (.inl ff))), (s2, .inl (cJ, 6, .inr (.inl sf))), (ms, .inl (cI, 6, .inl mm)), (nx, .inl (cI, 6, .inl nf)), (bs, .inl (cI, 6, .inl bf))]) [0, 1, 2, 3, 4, 5, 6, 7, 8, 9] (by decide) rfl
        obtain rfl := hw47.symm
        refine pk_ti (y := 0) (if_neg (by decide)) ?_
        refine lv_if_ne (tgt := 55) hx hb dX7_foursBehind_50 (by decide) (fun c50 => ?_) (fun c50 => ?_)
        · exact absurd c50 (by decide)
        · refine lv_iconst (v := 0) hx hb dX7_foursBehind_53 (by decide) ?_
          refine W.iret (v := 0) hx hb hr (fun tt ht hW => ⟨⟨0, (), rfl, ?_, by rw [ht]; exact hP, va_K.moved hW.alike hK, hD⟩, hS.F ht⟩) hS.2.2 dX7_foursBehind_54
          exact rfl
    · exact absurd c4 (by decide)

set_option maxHeartbeats 400000 in
set_option maxRecDepth 100000 in
theorem c_X7_foursBehind_bad2 (l : Launch) (D : va_G) (cI cJ : ClassId) (sz : Nat) (h0 ow cl tu lk f1 s2 ms nx bs : Nat) (th re mt fd : Int32) (w k : Nat) (fo lo ff sf : Nat → Int64) (cs ts mm nf bf : Nat → Int32) (j q : Nat) (v3 : Int32) (hj : j = 1 ∨ j = 2) (hq : q < 4) (hc : ¬ (0 ≤ v3 ∧ v3 ≤ 1)) : Met l yX7_foursBehind wsX7_foursBehind ({ frames := 2, cells := 0, slots := 0, locals := 51 } : Room) (va_Pc [.ref h0, .int (nI j), .int (nI q), .int v3] (pv_C D cI cJ [(h0, .inr (4, [.int th, .ref ow, .int re, .int (nI w), .int mt, .ref cl, .ref tu, .int (nI k), .ref lk, .ref f1, .ref s2, .ref ms, .ref nx, .ref bs, .int fd])), (ow, .inl (cJ, 3, .inr (.inl fo))), (cl, .inl (cI, 36, .inl cs)), (tu, .inl (cI, 36, .inl ts)), (lk, .inl (cJ, 3, .inr (.inl lo))), (f1, .inl (cJ, 6, .inr (.inl ff))), (s2, .inl (cJ, 6, .inr (.inl sf))), (ms, .inl (cI, 6, .inl mm)), (nx, .inl (cI, 6, .inl nf)), (bs, .inl (cI, 6, .inl bf))] sz)) (va_Qi (fun (r : Int32) (u : Unit) => r = 0) (fun (u : Unit) => pv_B D cI cJ (va_A [(h0, .inr (4, [.int th, .ref ow, .int re, .int (nI w), .int mt, .ref cl, .ref tu, .int (nI k), .ref lk, .ref f1, .ref s2, .ref ms, .ref nx, .ref bs, .int fd])), (ow, .inl (cJ, 3, .inr (.inl fo))), (cl, .inl (cI, 36, .inl cs)), (tu, .inl (cI, 36, .inl ts)), (lk, .inl (cJ, 3, .inr (.inl lo))), (f1, .inl (cJ, 6, .inr (.inl ff))), (s2, .inl (cJ, 6, .inr (.inl sf))), (ms, .inl (cI, 6, .inl mm)), (nx, .inl (cI, 6, .inl nf)), (bs, .inl (cI, 6, .inl bf))] sz) [(h0, .inr (4, [.int 2, .ref ow, .int re, .int (nI w), .int mt, .ref cl, .ref tu, .int (nI k), .ref lk, .ref f1, .ref s2, .ref ms, .ref nx, .ref bs, .int fd])), (ow, .inl (cJ, 3, .inr (.inl fo))), (cl, .inl (cI, 36, .inl cs)), (tu, .inl (cI, 36, .inl ts)), (lk, .inl (cJ, 3, .inr (.inl lo))), (f1, .inl (cJ, 6, .inr (.inl ff))), (s2, .inl (cJ, 6, .inr (.inl sf))), (ms, .inl (cI, 6, .inl mm)), (nx, .inl (cI, 6, .inl nf)), (bs, .inl (cI, 6, .inl bf))]) (va_A [(h0, .inr (4, [.int th, .ref ow, .int re, .int (nI w), .int mt, .ref cl, .ref tu, .int (nI k), .ref lk, .ref f1, .ref s2, .ref ms, .ref nx, .ref bs, .int fd])), (ow, .inl (cJ, 3, .inr (.inl fo))), (cl, .inl (cI, 36, .inl cs)), (tu, .inl (cI, 36, .inl ts)), (lk, .inl (cJ, 3, .inr (.inl lo))), (f1, .inl (cJ, 6, .inr (.inl ff))), (s2, .inl (cJ, 6, .inr (.inl sf))), (ms, .inl (cI, 6, .inl mm)), (nx, .inl (cI, 6, .inl nf)), (bs, .inl (cI, 6, .inl bf))] sz)) 0 0 (va_A [(h0, .inr (4, [.int th, .ref ow, .int re, .int (nI w), .int mt, .ref cl, .ref tu, .int (nI k), .ref lk, .ref f1, .ref s2, .ref ms, .ref nx, .ref bs, .int fd])), (ow, .inl (cJ, 3, .inr (.inl fo))), (cl, .inl (cI, 36, .inl cs)), (tu, .inl (cI, 36, .inl ts)), (lk, .inl (cJ, 3, .inr (.inl lo))), (f1, .inl (cJ, 6, .inr (.inl ff))), (s2, .inl (cJ, 6, .inr (.inl sf))), (ms, .inl (cI, 6, .inl mm)), (nx, .inl (cI, 6, .inl nf)), (bs, .inl (cI, 6, .inl bf))] sz) := by
  refine Met.ofW (cc := cX7_foursBehind) (maxL := 5) (ret := (some .int)) (by decide) rfl ?_
  intro p e s m args below meth c s₁ B hml hv
  obtain ⟨rfl, rfl, hP, hK, hD0⟩ := hv
  have hx := B.exec
  have hb := B.bytes
  have hr := B.returns
  have hts := atoms_spec (ws := wsX7_foursBehind) B.pre
  have hown : s.vm.findClass RX7 = some m.cls := findClass_of_methodNamed B.named
  have hlocks := B.notSynchronized
  have hD := hD0.self (sz := s.heap.size)
  generalize hAe : va_A [(h0, .inr (4, [.int th, .ref ow, .int re, .int (nI w), .int mt, .ref cl, .ref tu, .int (nI k), .ref lk, .ref f1, .ref s2, .ref ms, .ref nx, .ref bs, .int fd])), (ow, .inl (cJ, 3, .inr (.inl fo))), (cl, .inl (cI, 36, .inl cs)), (tu, .inl (cI, 36, .inl ts)), (lk, .inl (cJ, 3, .inr (.inl lo))), (f1, .inl (cJ, 6, .inr (.inl ff))), (s2, .inl (cJ, 6, .inr (.inl sf))), (ms, .inl (cI, 6, .inl mm)), (nx, .inl (cI, 6, .inl nf)), (bs, .inl (cI, 6, .inl bf))] s.heap.size = A at hD ⊢
  have hA : ∀ q : Nat, s.heap.size ≤ q → A q := fun q h => by rw [← hAe]; exact Or.inr h
  have hS : va_S A s.heap s.heap [] := va_S.rf
  have hl := lv_entry ([.ref h0, .int (nI j), .int (nI q), .int v3]) (n := 5) (Nat.le_of_ble_eq_true rfl)
  rw [lg_entry_eq]
  generalize (lg_sl ([.ref h0, .int (nI j), .int (nI q), .int v3]) ++ List.replicate (5 - (lg_sl ([.ref h0, .int (nI j), .int (nI q), .int v3])).length) Slot.unset).toArray = ls at hl ⊢
  have hl : lv_has ls 5 [(0, .ref h0), (1, .int (nI j)), (2, .int (nI q)), (3, .int v3)] := hl
  refine lv_iload_n hx hb dX7_foursBehind_0 rfl (lv_at hl 1 rfl) ?_
  refine vp_callSi (W.runS (As := [.int (nI j)]) (rest := []) ⟨hx, hb, hml, hown, hts⟩ (c_X7_isSide l (nI j)) (va_cwS 1 hts gX7_foursBehind_X7_isSide rfl rfl rfl (by decide +kernel) ⟨Nat.le_of_ble_eq_true rfl, Nat.le_of_ble_eq_true rfl⟩) ⟨px_blind0, fun U hU hW => ⟨rfl, trivial⟩⟩ rfl rfl hl.1 rfl (lv_room (Nat.le_of_ble_eq_true rfl)) dX7_foursBehind_1 ⟨(Nat.le_of_ble_eq_true rfl), (Nat.le_of_ble_eq_true rfl)⟩) (fun r1 er1 => ?_)
  obtain rfl := er1.symm
  refine pk_b (P := 1 ≤ (nI j) ∧ (nI j) ≤ 2) (fun b1 => ?_) (fun b1 => ?_)
  · refine lv_if_eq (tgt := 20) hx hb dX7_foursBehind_4 (by decide) (fun c4 => ?_) (fun c4 => ?_)
    · exact absurd c4 (by decide)
    · refine lv_iload_n hx hb dX7_foursBehind_7 rfl (lv_at hl 2 rfl) ?_
      refine lv_iconst (v := 0) hx hb dX7_foursBehind_8 (by decide) ?_
      refine lv_iconst (v := 3) hx hb dX7_foursBehind_9 (by decide) ?_
      refine vp_callSi (W.runS (As := [.int (nI q), .int 0, .int 3]) (rest := []) ⟨hx, hb, hml, hown, hts⟩ (c_X7_in l (nI q) 0 3) (va_cwS 3 hts gX7_foursBehind_X7_in rfl rfl rfl (by decide +kernel) ⟨Nat.le_of_ble_eq_true rfl, Nat.le_of_ble_eq_true rfl⟩) ⟨px_blind0, fun U hU hW => ⟨rfl, trivial⟩⟩ rfl rfl hl.1 rfl (lv_room (Nat.le_of_ble_eq_true rfl)) dX7_foursBehind_10 ⟨(Nat.le_of_ble_eq_true rfl), (Nat.le_of_ble_eq_true rfl)⟩) (fun r10 er10 => ?_)
      obtain rfl := er10.symm
      refine pk_b (P := 0 ≤ (nI q) ∧ (nI q) ≤ 3) (fun b10 => ?_) (fun b10 => ?_)
      · refine lv_if_eq (tgt := 20) hx hb dX7_foursBehind_13 (by decide) (fun c13 => ?_) (fun c13 => ?_)
        · exact absurd c13 (by decide)
        · refine lv_iconst (v := 1) hx hb dX7_foursBehind_16 (by decide) ?_
          refine lv_goto (tgt := 21) hx hb dX7_foursBehind_17 (by decide) ?_
          refine lv_istore (lv' := [(4, .int 1), (0, .ref h0), (1, .int (nI j)), (2, .int (nI q)), (3, .int v3)]) hx hb dX7_foursBehind_21 hl (by decide) rfl (fun ls hl => ?_)
          refine lv_aload_n hx hb dX7_foursBehind_23 rfl (lv_at hl 1 rfl) ?_
          refine lv_iload hx hb dX7_foursBehind_24 (lv_at hl 0 rfl) ?_
          refine lv_if_ne (tgt := 33) hx hb dX7_foursBehind_26 (by decide) (fun c26 => ?_) (fun c26 => ?_)
          · refine lv_iload_n hx hb dX7_foursBehind_33 rfl (lv_at hl 4 rfl) ?_
            refine lv_iconst (v := 0) hx hb dX7_foursBehind_34 (by decide) ?_
            refine lv_iconst (v := 1) hx hb dX7_foursBehind_35 (by decide) ?_
            refine vp_callSi (W.runS (As := [.int v3, .int 0, .int 1]) (rest := [.ref h0]) ⟨hx, hb, hml, hown, hts⟩ (c_X7_in l v3 0 1) (va_cwS 3 hts gX7_foursBehind_X7_in rfl rfl rfl (by decide +kernel) ⟨Nat.le_of_ble_eq_true rfl, Nat.le_of_ble_eq_true rfl⟩) ⟨px_blind0, fun U hU hW => ⟨rfl, trivial⟩⟩ rfl rfl hl.1 rfl (lv_room (Nat.le_of_ble_eq_true rfl)) dX7_foursBehind_36 ⟨(Nat.le_of_ble_eq_true rfl), (Nat.le_of_ble_eq_true rfl)⟩) (fun r36 er36 => ?_)
            obtain rfl := er36.symm
            refine pk_b (P := 0 ≤ v3 ∧ v3 ≤ 1) (fun b36 => ?_) (fun b36 => ?_)
            · exact absurd b36 hc
            · refine lv_if_eq (tgt := 46) hx hb dX7_foursBehind_39 (by decide) (fun c39 => ?_) (fun c39 => ?_)
              · refine lv_iconst (v := 2) hx hb dX7_foursBehind_46 (by decide) ?_
                have hPc := hP.sub (ws' := [(h0, .inr (4, [.int th, .ref ow, .int re, .int (nI w), .int mt, .ref cl, .ref tu, .int (nI k), .ref lk, .ref f1, .ref s2, .ref ms, .ref nx, .ref bs, .int fd])), (ow, .inl (cJ, 3, .inr (.inl fo))), (cl, .inl (cI, 36, .inl cs)), (tu, .inl (cI, 36, .inl ts)), (lk, .inl (cJ, 3, .inr (.inl lo))), (f1, .inl (cJ, 6, .inr (.inl ff))), (s2, .inl (cJ, 6, .inr (.inl sf))), (ms, .inl (cI, 6, .inl mm)), (nx, .inl (cI, 6, .inl nf)), (bs, .inl (cI, 6, .inl bf))]) [0, 1, 2, 3, 4, 5, 6, 7, 8, 9] rfl
                have hDc := hD.sub (ws' := [(h0, .inr (4, [.int th, .ref ow, .int re, .int (nI w), .int mt, .ref cl, .ref tu, .int (nI k), .ref lk, .ref f1, .ref s2, .ref ms, .ref nx, .ref bs, .int fd])), (ow, .inl (cJ, 3, .inr (.inl fo))), (cl, .inl (cI, 36, .inl cs)), (tu, .inl (cI, 36, .inl ts)), (lk, .inl (cJ, 3, .inr (.inl lo))), (f1, .inl (cJ, 6, .inr (.inl ff))), (s2, .inl (cJ, 6, .inr (.inl sf))), (ms, .inl (cI, 6, .inl mm)), (nx, .inl (cI, 6, .inl nf)), (bs, .inl (cI, 6, .inl bf))]) [0, 1, 2, 3, 4, 5, 6, 7, 8, 9] (by decide) rfl
                have hFc := va_free (wc := [(h0, .inr (4, [.int th, .ref ow, .int re, .int (nI w), .int mt, .ref cl, .ref tu, .int (nI k), .ref lk, .ref f1, .ref s2, .ref ms, .ref nx, .ref bs, .int fd])), (ow, .inl (cJ, 3, .inr (.inl fo))), (cl, .inl (cI, 36, .inl cs)), (tu, .inl (cI, 36, .inl ts)), (lk, .inl (cJ, 3, .inr (.inl lo))), (f1, .inl (cJ, 6, .inr (.inl ff))), (s2, .inl (cJ, 6, .inr (.inl sf))), (ms, .inl (cI, 6, .inl mm)), (nx, .inl (cI, 6, .inl nf)), (bs, .inl (cI, 6, .inl bf))]) hD hS hA [0, 1, 2, 3, 4, 5, 6, 7, 8, 9] rfl
                refine va_calli (va_runV (As := [.int 2]) (rest := []) ⟨hx, hb, hml, hown, hts⟩ (c_X7_goesWell l D cI cJ s.heap.size  h0 ow cl tu lk f1 s2 ms nx bs th re mt fd w k fo lo ff sf cs ts mm nf bf 2) (cwV 1 hts gX7_foursBehind_X7_goesWell rfl rfl rfl (by decide +kernel) ⟨Nat.le_of_ble_eq_true rfl, Nat.le_of_ble_eq_true rfl⟩) ⟨pv_blind, va_recv hK hPc (ci := 4) (q0 := 0) rfl rfl, fun U hU hW => ⟨rfl, by rw [hU], by rw [hU]; exact hPc, va_K.moved hW.alike hK, hDc.weaken (fun _ _ _ _ => trivial)⟩⟩ rfl rfl hl.1 rfl (lv_room (Nat.le_of_ble_eq_true rfl)) dX7_foursBehind_47 ⟨(Nat.le_of_ble_eq_true rfl), (Nat.le_of_ble_eq_true rfl)⟩) hS (fun q _ h => hFc q h) hFc (fun r47 u t9 H1 locs hth hvm hw47 hB hz1 hk1 hS => ?_)
                try dsimp only at hw47
                obtain ⟨hP1, hK1, hD1⟩ := hB
                rw [hth] at hP1
                obtain ⟨hP, hD⟩ := va_join (wr := []) (w1 := [(h0, .inr (4, [.int 2, .ref ow, .int re, .int (nI w), .int mt, .ref cl, .ref tu, .int (nI k), .ref lk, .ref f1, .ref s2, .ref ms, .ref nx, .ref bs, .int fd])), (ow, .inl (cJ, 3, .inr (.inl fo))), (cl, .inl (cI, 36, .inl cs)), (tu, .inl (cI, 36, .inl ts)), (lk, .inl (cJ, 3, .inr (.inl lo))), (f1, .inl (cJ, 6, .inr (.inl ff))), (s2, .inl (cJ, 6, .inr (.inl sf))), (ms, .inl (cI, 6, .inl mm)), (nx, .inl (cI, 6, .inl nf)), (bs, .inl (cI, 6, .inl bf))]) hP hD [0, 1, 2, 3, 4, 5, 6, 7, 8, 9] [] rfl rfl (by decide) (by decide) hk1 hFc hP1 hD1
                generalize H1 = H at hP hS ⊢
                have hP : va_P D vwCl [(h0, .inr (4, [.int 2, .ref ow, .int re, .int (nI w), .int mt, .ref cl, .ref tu, .int (nI k), .ref lk, .ref f1, .ref s2, .ref ms, .ref nx, .ref bs, .int fd])), (ow, .inl (cJ, 3, .inr (.inl fo))), (cl, .inl (cI, 36, .inl cs)), (tu, .inl (cI, 36, .inl ts)), (lk, .inl (cJ, 3, .inr (.inl lo))), (f1, .inl (cJ, 6, .inr (.inl ff))), (s2, .inl (cJ, 6, .inr (.inl sf))), (ms, .inl (cI, 6, .inl mm)), (nx, .inl (cI, 6, .inl nf)), (bs, .inl (cI, 6, .inl bf))] H := hP.sub (ws' := [(h0, .inr (4, [.int 2, .ref ow, .int re, .int (nI w), .int mt, .ref cl, .ref tu, .int (nI k), .ref lk, .ref f1, .ref s2, .ref ms, .ref nx, .ref bs, .int fd])), (ow, .inl (cJ, 3, .inr (.inl fo))), (cl, .inl (cI, 36, .inl cs)), (tu, .inl (cI, 36, .inl ts)), (lk, .inl (cJ, 3, .inr (.inl lo))), (f1, .inl (cJ, 6, .inr (.inl ff))), (s2, .inl (cJ, 6, .inr (.inl sf))), (ms, .inl (cI, 6, .inl mm)), (nx, .inl (cI, 6, .inl nf)), (bs, .inl (cI, 6, .inl bf))]) [0, 1, 2, 3, 4, 5, 6, 7, 8, 9] rfl
                have hD : va_D A [(h0, .inr (4, [.int 2, .ref ow, .int re, .int (nI w), .int mt, .ref cl, .ref tu, .int (nI k), .ref lk, .ref f1, .ref s2, .ref ms, .ref nx, .ref bs, .int fd])), (ow, .inl (cJ, 3, .inr (.inl fo))), (cl, .inl (cI, 36, .inl cs)), (tu, .inl (cI, 36, .inl ts)), (lk, .inl (cJ, 3, .inr (.inl lo))), (f1, .inl (cJ, 6, .inr (.inl ff))), (s2, .inl (cJ, 6, .inr (.inl sf))), (ms, .inl (cI, 6, .inl mm)), (nx, .inl (cI, 6, .inl nf)), (bs, .inl (cI, 6, .inl bf))] := hD.sub (ws' := [(h0, .inr (4, [.int 2, .ref ow, .int re, .int (nI w), .int mt, .ref cl, .ref tu, .int (nI k), .ref lk, .ref f1, .ref s2, .ref ms, .ref nx, .ref bs, .int fd])), (ow, .inl (cJ, 3, .inr (.inl fo))), (cl, .inl (cI, 36, .inl cs)), (tu, .inl (cI, 36, .inl ts)), (lk, .inl (cJ, 3, .inr (.inl lo))), (f1, .inl (cJ, 6, .inr (.inl ff))), (s2, .inl (cJ, 6, .inr (.inl sf))), (ms, .inl (cI, 6, .inl mm)), (nx, .inl (cI, 6, .inl nf)), (bs, .inl (cI, 6, .inl bf))]) [0, 1, 2, 3, 4, 5, 6, 7, 8, 9] (by decide) rfl
                obtain rfl := hw47.symm
                refine pk_ti (y := 0) (if_neg (by decide)) ?_
                refine lv_if_ne (tgt := 55) hx hb dX7_foursBehind_50 (by decide) (fun c50 => ?_) (fun c50 => ?_)
                · exact absurd c50 (by decide)
                · refine lv_iconst (v := 0) hx hb dX7_foursBehind_53 (by decide) ?_
                  refine W.iret (v := 0) hx hb hr (fun tt ht hW => ⟨⟨0, (), rfl, ?_, by rw [ht]; exact hP, va_K.moved hW.alike hK, hD⟩, hS.F ht⟩) hS.2.2 dX7_foursBehind_54
                  exact rfl
              · exact absurd c39 (by decide)
          · exact absurd c26 (by decide)
      · exact absurd (q_ok hq) b10
  · exact absurd (s_ok hj) b1

set_option maxHeartbeats 400000 in
set_option maxRecDepth 100000 in
theorem c_X7_foursBehind_ok (l : Launch) (D : va_G) (cI cJ : ClassId) (sz : Nat) (h0 ow cl tu lk f1 s2 ms nx bs : Nat) (th re mt fd : Int32) (w k : Nat) (fo lo ff sf : Nat → Int64) (cs ts mm nf bf : Nat → Int32) (j q wy : Nat) (hj : j = 1 ∨ j = 2) (hq : q < 4) (hwy : wy < 2) : Met l yX7_foursBehind wsX7_foursBehind ({ frames := 2, cells := 0, slots := 0, locals := 51 } : Room) (va_Pc [.ref h0, .int (nI j), .int (nI q), .int (nI wy)] (pv_C D cI cJ [(h0, .inr (4, [.int th, .ref ow, .int re, .int (nI w), .int mt, .ref cl, .ref tu, .int (nI k), .ref lk, .ref f1, .ref s2, .ref ms, .ref nx, .ref bs, .int fd])), (ow, .inl (cJ, 3, .inr (.inl fo))), (cl, .inl (cI, 36, .inl cs)), (tu, .inl (cI, 36, .inl ts)), (lk, .inl (cJ, 3, .inr (.inl lo))), (f1, .inl (cJ, 6, .inr (.inl ff))), (s2, .inl (cJ, 6, .inr (.inl sf))), (ms, .inl (cI, 6, .inl mm)), (nx, .inl (cI, 6, .inl nf)), (bs, .inl (cI, 6, .inl bf))] sz)) (va_Qi (fun (r : Int32) (u : Unit) => r = msum (mturned (fo j) q wy) (mturned (fo (3 - j)) q wy) 4 32) (fun (u : Unit) => pv_B D cI cJ (va_A [(h0, .inr (4, [.int th, .ref ow, .int re, .int (nI w), .int mt, .ref cl, .ref tu, .int (nI k), .ref lk, .ref f1, .ref s2, .ref ms, .ref nx, .ref bs, .int fd])), (ow, .inl (cJ, 3, .inr (.inl fo))), (cl, .inl (cI, 36, .inl cs)), (tu, .inl (cI, 36, .inl ts)), (lk, .inl (cJ, 3, .inr (.inl lo))), (f1, .inl (cJ, 6, .inr (.inl ff))), (s2, .inl (cJ, 6, .inr (.inl sf))), (ms, .inl (cI, 6, .inl mm)), (nx, .inl (cI, 6, .inl nf)), (bs, .inl (cI, 6, .inl bf))] sz) [(h0, .inr (4, [.int 0, .ref ow, .int re, .int (nI w), .int mt, .ref cl, .ref tu, .int (nI k), .ref lk, .ref f1, .ref s2, .ref ms, .ref nx, .ref bs, .int fd])), (ow, .inl (cJ, 3, .inr (.inl fo))), (cl, .inl (cI, 36, .inl cs)), (tu, .inl (cI, 36, .inl ts)), (lk, .inl (cJ, 3, .inr (.inl lo))), (f1, .inl (cJ, 6, .inr (.inl ff))), (s2, .inl (cJ, 6, .inr (.inl sf))), (ms, .inl (cI, 6, .inl mm)), (nx, .inl (cI, 6, .inl nf)), (bs, .inl (cI, 6, .inl bf))]) (va_A [(h0, .inr (4, [.int th, .ref ow, .int re, .int (nI w), .int mt, .ref cl, .ref tu, .int (nI k), .ref lk, .ref f1, .ref s2, .ref ms, .ref nx, .ref bs, .int fd])), (ow, .inl (cJ, 3, .inr (.inl fo))), (cl, .inl (cI, 36, .inl cs)), (tu, .inl (cI, 36, .inl ts)), (lk, .inl (cJ, 3, .inr (.inl lo))), (f1, .inl (cJ, 6, .inr (.inl ff))), (s2, .inl (cJ, 6, .inr (.inl sf))), (ms, .inl (cI, 6, .inl mm)), (nx, .inl (cI, 6, .inl nf)), (bs, .inl (cI, 6, .inl bf))] sz)) 0 0 (va_A [(h0, .inr (4, [.int th, .ref ow, .int re, .int (nI w), .int mt, .ref cl, .ref tu, .int (nI k), .ref lk, .ref f1, .ref s2, .ref ms, .ref nx, .ref bs, .int fd])), (ow, .inl (cJ, 3, .inr (.inl fo))), (cl, .inl (cI, 36, .inl cs)), (tu, .inl (cI, 36, .inl ts)), (lk, .inl (cJ, 3, .inr (.inl lo))), (f1, .inl (cJ, 6, .inr (.inl ff))), (s2, .inl (cJ, 6, .inr (.inl sf))), (ms, .inl (cI, 6, .inl mm)), (nx, .inl (cI, 6, .inl nf)), (bs, .inl (cI, 6, .inl bf))] sz) := by
  refine Met.ofW (cc := cX7_foursBehind) (maxL := 5) (ret := (some .int)) (by decide) rfl ?_
  intro p e s m args below meth c s₁ B hml hv
  obtain ⟨rfl, rfl, hP, hK, hD0⟩ := hv
  have hx := B.exec
  have hb := B.bytes
  have hr := B.returns
  have hts := atoms_spec (ws := wsX7_foursBehind) B.pre
  have hown : s.vm.findClass RX7 = some m.cls := findClass_of_methodNamed B.named
  have hlocks := B.notSynchronized
  have hD := hD0.self (sz := s.heap.size)
  generalize hAe : va_A [(h0, .inr (4, [.int th, .ref ow, .int re, .int (nI w), .int mt, .ref cl, .ref tu, .int (nI k), .ref lk, .ref f1, .ref s2, .ref ms, .ref nx, .ref bs, .int fd])), (ow, .inl (cJ, 3, .inr (.inl fo))), (cl, .inl (cI, 36, .inl cs)), (tu, .inl (cI, 36, .inl ts)), (lk, .inl (cJ, 3, .inr (.inl lo))), (f1, .inl (cJ, 6, .inr (.inl ff))), (s2, .inl (cJ, 6, .inr (.inl sf))), (ms, .inl (cI, 6, .inl mm)), (nx, .inl (cI, 6, .inl nf)), (bs, .inl (cI, 6, .inl bf))] s.heap.size = A at hD ⊢
  have hA : ∀ q : Nat, s.heap.size ≤ q → A q := fun q h => by rw [← hAe]; exact Or.inr h
  have hS : va_S A s.heap s.heap [] := va_S.rf
  have hinX7 : ∀ w ∈ wsX70, w ∈ wsX7_foursBehind := by decide +kernel
  have hfl7 : (Cond.fieldLink RX7 7 "TwistquadModel" "own" "[J").before ([.ref h0, .int (nI j), .int (nI q), .int (nI wy)] : List Value).toArray s = true := hts _ (by decide +kernel)
  have hl := lv_entry ([.ref h0, .int (nI j), .int (nI q), .int (nI wy)]) (n := 5) (Nat.le_of_ble_eq_true rfl)
  rw [lg_entry_eq]
  generalize (lg_sl ([.ref h0, .int (nI j), .int (nI q), .int (nI wy)]) ++ List.replicate (5 - (lg_sl ([.ref h0, .int (nI j), .int (nI q), .int (nI wy)])).length) Slot.unset).toArray = ls at hl ⊢
  have hl : lv_has ls 5 [(0, .ref h0), (1, .int (nI j)), (2, .int (nI q)), (3, .int (nI wy))] := hl
  refine lv_iload_n hx hb dX7_foursBehind_0 rfl (lv_at hl 1 rfl) ?_
  refine vp_callSi (W.runS (As := [.int (nI j)]) (rest := []) ⟨hx, hb, hml, hown, hts⟩ (c_X7_isSide l (nI j)) (va_cwS 1 hts gX7_foursBehind_X7_isSide rfl rfl rfl (by decide +kernel) ⟨Nat.le_of_ble_eq_true rfl, Nat.le_of_ble_eq_true rfl⟩) ⟨px_blind0, fun U hU hW => ⟨rfl, trivial⟩⟩ rfl rfl hl.1 rfl (lv_room (Nat.le_of_ble_eq_true rfl)) dX7_foursBehind_1 ⟨(Nat.le_of_ble_eq_true rfl), (Nat.le_of_ble_eq_true rfl)⟩) (fun r1 er1 => ?_)
  obtain rfl := er1.symm
  refine pk_b (P := 1 ≤ (nI j) ∧ (nI j) ≤ 2) (fun b1 => ?_) (fun b1 => ?_)
  · refine lv_if_eq (tgt := 20) hx hb dX7_foursBehind_4 (by decide) (fun c4 => ?_) (fun c4 => ?_)
    · exact absurd c4 (by decide)
    · refine lv_iload_n hx hb dX7_foursBehind_7 rfl (lv_at hl 2 rfl) ?_
      refine lv_iconst (v := 0) hx hb dX7_foursBehind_8 (by decide) ?_
      refine lv_iconst (v := 3) hx hb dX7_foursBehind_9 (by decide) ?_
      refine vp_callSi (W.runS (As := [.int (nI q), .int 0, .int 3]) (rest := []) ⟨hx, hb, hml, hown, hts⟩ (c_X7_in l (nI q) 0 3) (va_cwS 3 hts gX7_foursBehind_X7_in rfl rfl rfl (by decide +kernel) ⟨Nat.le_of_ble_eq_true rfl, Nat.le_of_ble_eq_true rfl⟩) ⟨px_blind0, fun U hU hW => ⟨rfl, trivial⟩⟩ rfl rfl hl.1 rfl (lv_room (Nat.le_of_ble_eq_true rfl)) dX7_foursBehind_10 ⟨(Nat.le_of_ble_eq_true rfl), (Nat.le_of_ble_eq_true rfl)⟩) (fun r10 er10 => ?_)
      obtain rfl := er10.symm
      refine pk_b (P := 0 ≤ (nI q) ∧ (nI q) ≤ 3) (fun b10 => ?_) (fun b10 => ?_)
      · refine lv_if_eq (tgt := 20) hx hb dX7_foursBehind_13 (by decide) (fun c13 => ?_) (fun c13 => ?_)
        · exact absurd c13 (by decide)
        · refine lv_iconst (v := 1) hx hb dX7_foursBehind_16 (by decide) ?_
          refine lv_goto (tgt := 21) hx hb dX7_foursBehind_17 (by decide) ?_
          refine lv_istore (lv' := [(4, .int 1), (0, .ref h0), (1, .int (nI j)), (2, .int (nI q)), (3, .int (nI wy))]) hx hb dX7_foursBehind_21 hl (by decide) rfl (fun ls hl => ?_)
          refine lv_aload_n hx hb dX7_foursBehind_23 rfl (lv_at hl 1 rfl) ?_
          refine lv_iload hx hb dX7_foursBehind_24 (lv_at hl 0 rfl) ?_
          refine lv_if_ne (tgt := 33) hx hb dX7_foursBehind_26 (by decide) (fun c26 => ?_) (fun c26 => ?_)
          · refine lv_iload_n hx hb dX7_foursBehind_33 rfl (lv_at hl 4 rfl) ?_
            refine lv_iconst (v := 0) hx hb dX7_foursBehind_34 (by decide) ?_
            refine lv_iconst (v := 1) hx hb dX7_foursBehind_35 (by decide) ?_
            refine vp_callSi (W.runS (As := [.int (nI wy), .int 0, .int 1]) (rest := [.ref h0]) ⟨hx, hb, hml, hown, hts⟩ (c_X7_in l (nI wy) 0 1) (va_cwS 3 hts gX7_foursBehind_X7_in rfl rfl rfl (by decide +kernel) ⟨Nat.le_of_ble_eq_true rfl, Nat.le_of_ble_eq_true rfl⟩) ⟨px_blind0, fun U hU hW => ⟨rfl, trivial⟩⟩ rfl rfl hl.1 rfl (lv_room (Nat.le_of_ble_eq_true rfl)) dX7_foursBehind_36 ⟨(Nat.le_of_ble_eq_true rfl), (Nat.le_of_ble_eq_true rfl)⟩) (fun r36 er36 => ?_)
            obtain rfl := er36.symm
            refine pk_b (P := 0 ≤ (nI wy) ∧ (nI wy) ≤ 1) (fun b36 => ?_) (fun b36 => ?_)
            · refine lv_if_eq (tgt := 46) hx hb dX7_foursBehind_39 (by decide) (fun c39 => ?_) (fun c39 => ?_)
              · exact absurd c39 (by decide)
              · refine lv_iconst (v := 0) hx hb dX7_foursBehind_42 (by decide) ?_
                refine lv_goto (tgt := 47) hx hb dX7_foursBehind_43 (by decide) ?_
                have hPc := hP.sub (ws' := [(h0, .inr (4, [.int th, .ref ow, .int re, .int (nI w), .int mt, .ref cl, .ref tu, .int (nI k), .ref lk, .ref f1, .ref s2, .ref ms, .ref nx, .ref bs, .int fd])), (ow, .inl (cJ, 3, .inr (.inl fo))), (cl, .inl (cI, 36, .inl cs)), (tu, .inl (cI, 36, .inl ts)), (lk, .inl (cJ, 3, .inr (.inl lo))), (f1, .inl (cJ, 6, .inr (.inl ff))), (s2, .inl (cJ, 6, .inr (.inl sf))), (ms, .inl (cI, 6, .inl mm)), (nx, .inl (cI, 6, .inl nf)), (bs, .inl (cI, 6, .inl bf))]) [0, 1, 2, 3, 4, 5, 6, 7, 8, 9] rfl
                have hDc := hD.sub (ws' := [(h0, .inr (4, [.int th, .ref ow, .int re, .int (nI w), .int mt, .ref cl, .ref tu, .int (nI k), .ref lk, .ref f1, .ref s2, .ref ms, .ref nx, .ref bs, .int fd])), (ow, .inl (cJ, 3, .inr (.inl fo))), (cl, .inl (cI, 36, .inl cs)), (tu, .inl (cI, 36, .inl ts)), (lk, .inl (cJ, 3, .inr (.inl lo))), (f1, .inl (cJ, 6, .inr (.inl ff))), (s2, .inl (cJ, 6, .inr (.inl sf))), (ms, .inl (cI, 6, .inl mm)), (nx, .inl (cI, 6, .inl nf)), (bs, .inl (cI, 6, .inl bf))]) [0, 1, 2, 3, 4, 5, 6, 7, 8, 9] (by decide) rfl
                have hFc := va_free (wc := [(h0, .inr (4, [.int th, .ref ow, .int re, .int (nI w), .int mt, .ref cl, .ref tu, .int (nI k), .ref lk, .ref f1, .ref s2, .ref ms, .ref nx, .ref bs, .int fd])), (ow, .inl (cJ, 3, .inr (.inl fo))), (cl, .inl (cI, 36, .inl cs)), (tu, .inl (cI, 36, .inl ts)), (lk, .inl (cJ, 3, .inr (.inl lo))), (f1, .inl (cJ, 6, .inr (.inl ff))), (s2, .inl (cJ, 6, .inr (.inl sf))), (ms, .inl (cI, 6, .inl mm)), (nx, .inl (cI, 6, .inl nf)), (bs, .inl (cI, 6, .inl bf))]) hD hS hA [0, 1, 2, 3, 4, 5, 6, 7, 8, 9] rfl
                refine va_calli (va_runV (As := [.int 0]) (rest := []) ⟨hx, hb, hml, hown, hts⟩ (c_X7_goesWell l D cI cJ s.heap.size  h0 ow cl tu lk f1 s2 ms nx bs th re mt fd w k fo lo ff sf cs ts mm nf bf 0) (cwV 1 hts gX7_foursBehind_X7_goesWell rfl rfl rfl (by decide +kernel) ⟨Nat.le_of_ble_eq_true rfl, Nat.le_of_ble_eq_true rfl⟩) ⟨pv_blind, va_recv hK hPc (ci := 4) (q0 := 0) rfl rfl, fun U hU hW => ⟨rfl, by rw [hU], by rw [hU]; exact hPc, va_K.moved hW.alike hK, hDc.weaken (fun _ _ _ _ => trivial)⟩⟩ rfl rfl hl.1 rfl (lv_room (Nat.le_of_ble_eq_true rfl)) dX7_foursBehind_47 ⟨(Nat.le_of_ble_eq_true rfl), (Nat.le_of_ble_eq_true rfl)⟩) hS (fun q _ h => hFc q h) hFc (fun r47 u t9 H1 locs hth hvm hw47 hB hz1 hk1 hS => ?_)
                try dsimp only at hw47
                obtain ⟨hP1, hK1, hD1⟩ := hB
                rw [hth] at hP1
                obtain ⟨hP, hD⟩ := va_join (wr := []) (w1 := [(h0, .inr (4, [.int 0, .ref ow, .int re, .int (nI w), .int mt, .ref cl, .ref tu, .int (nI k), .ref lk, .ref f1, .ref s2, .ref ms, .ref nx, .ref bs, .int fd])), (ow, .inl (cJ, 3, .inr (.inl fo))), (cl, .inl (cI, 36, .inl cs)), (tu, .inl (cI, 36, .inl ts)), (lk, .inl (cJ, 3, .inr (.inl lo))), (f1, .inl (cJ, 6, .inr (.inl ff))), (s2, .inl (cJ, 6, .inr (.inl sf))), (ms, .inl (cI, 6, .inl mm)), (nx, .inl (cI, 6, .inl nf)), (bs, .inl (cI, 6, .inl bf))]) hP hD [0, 1, 2, 3, 4, 5, 6, 7, 8, 9] [] rfl rfl (by decide) (by decide) hk1 hFc hP1 hD1
                generalize H1 = H at hP hS ⊢
                have hP : va_P D vwCl [(h0, .inr (4, [.int 0, .ref ow, .int re, .int (nI w), .int mt, .ref cl, .ref tu, .int (nI k), .ref lk, .ref f1, .ref s2, .ref ms, .ref nx, .ref bs, .int fd])), (ow, .inl (cJ, 3, .inr (.inl fo))), (cl, .inl (cI, 36, .inl cs)), (tu, .inl (cI, 36, .inl ts)), (lk, .inl (cJ, 3, .inr (.inl lo))), (f1, .inl (cJ, 6, .inr (.inl ff))), (s2, .inl (cJ, 6, .inr (.inl sf))), (ms, .inl (cI, 6, .inl mm)), (nx, .inl (cI, 6, .inl nf)), (bs, .inl (cI, 6, .inl bf))] H := hP.sub (ws' := [(h0, .inr (4, [.int 0, .ref ow, .int re, .int (nI w), .int mt, .ref cl, .ref tu, .int (nI k), .ref lk, .ref f1, .ref s2, .ref ms, .ref nx, .ref bs, .int fd])), (ow, .inl (cJ, 3, .inr (.inl fo))), (cl, .inl (cI, 36, .inl cs)), (tu, .inl (cI, 36, .inl ts)), (lk, .inl (cJ, 3, .inr (.inl lo))), (f1, .inl (cJ, 6, .inr (.inl ff))), (s2, .inl (cJ, 6, .inr (.inl sf))), (ms, .inl (cI, 6, .inl mm)), (nx, .inl (cI, 6, .inl nf)), (bs, .inl (cI, 6, .inl bf))]) [0, 1, 2, 3, 4, 5, 6, 7, 8, 9] rfl
                have hD : va_D A [(h0, .inr (4, [.int 0, .ref ow, .int re, .int (nI w), .int mt, .ref cl, .ref tu, .int (nI k), .ref lk, .ref f1, .ref s2, .ref ms, .ref nx, .ref bs, .int fd])), (ow, .inl (cJ, 3, .inr (.inl fo))), (cl, .inl (cI, 36, .inl cs)), (tu, .inl (cI, 36, .inl ts)), (lk, .inl (cJ, 3, .inr (.inl lo))), (f1, .inl (cJ, 6, .inr (.inl ff))), (s2, .inl (cJ, 6, .inr (.inl sf))), (ms, .inl (cI, 6, .inl mm)), (nx, .inl (cI, 6, .inl nf)), (bs, .inl (cI, 6, .inl bf))] := hD.sub (ws' := [(h0, .inr (4, [.int 0, .ref ow, .int re, .int (nI w), .int mt, .ref cl, .ref tu, .int (nI k), .ref lk, .ref f1, .ref s2, .ref ms, .ref nx, .ref bs, .int fd])), (ow, .inl (cJ, 3, .inr (.inl fo))), (cl, .inl (cI, 36, .inl cs)), (tu, .inl (cI, 36, .inl ts)), (lk, .inl (cJ, 3, .inr (.inl lo))), (f1, .inl (cJ, 6, .inr (.inl ff))), (s2, .inl (cJ, 6, .inr (.inl sf))), (ms, .inl (cI, 6, .inl mm)), (nx, .inl (cI, 6, .inl nf)), (bs, .inl (cI, 6, .inl bf))]) [0, 1, 2, 3, 4, 5, 6, 7, 8, 9] (by decide) rfl
                obtain rfl := hw47.symm
                refine pk_ti (y := 1) (if_pos (by decide)) ?_
                refine lv_if_ne (tgt := 55) hx hb dX7_foursBehind_50 (by decide) (fun c50 => ?_) (fun c50 => ?_)
                · refine lv_aload_n hx hb dX7_foursBehind_55 rfl (lv_at hl 1 rfl) ?_
                  refine va_get (D := D) (ci := 4) (v := .ref ow) (C := RX7) (T := TX7) (N := 15) hx hb hts hinX7 hown hK hP 0 rfl rfl 1 (by decide) hfl7 (fun _ h9 => h9) rfl dX7_foursBehind_56 ?_
                  refine lv_iload_n hx hb dX7_foursBehind_59 rfl (lv_at hl 2 rfl) ?_
                  refine va_lald hx hb hK hP 1 1 rfl rfl (vp_in_nI (n := j) (N := 3) (by omega) (by decide)) dX7_foursBehind_60 ?_
                  refine pk_tl (y := (fo j)) (congrArg fo (pk_cl j)) ?_
                  refine lv_iload_n hx hb dX7_foursBehind_61 rfl (lv_at hl 3 rfl) ?_
                  refine lv_iload_n hx hb dX7_foursBehind_62 rfl (lv_at hl 4 rfl) ?_
                  refine vp_callSl (W.runS (As := [.long (fo j), .int (nI q), .int (nI wy)]) (rest := []) ⟨hx, hb, hml, hown, hts⟩ (c_X7_turned l (fo j) q wy (by omega) (by omega)) (va_cwS 3 hts gX7_foursBehind_X7_turned rfl rfl rfl (by decide +kernel) ⟨Nat.le_of_ble_eq_true rfl, Nat.le_of_ble_eq_true rfl⟩) ⟨px_blind0, fun U hU hW => ⟨rfl, trivial⟩⟩ rfl rfl hl.1 rfl (lv_room (Nat.le_of_ble_eq_true rfl)) dX7_foursBehind_63 ⟨(Nat.le_of_ble_eq_true rfl), (Nat.le_of_ble_eq_true rfl)⟩) (fun r63 er63 => ?_)
                  obtain rfl := er63.symm
                  refine lv_aload_n hx hb dX7_foursBehind_66 rfl (lv_at hl 1 rfl) ?_
                  refine va_get (D := D) (ci := 4) (v := .ref ow) (C := RX7) (T := TX7) (N := 15) hx hb hts hinX7 hown hK hP 0 rfl rfl 1 (by decide) hfl7 (fun _ h9 => h9) rfl dX7_foursBehind_67 ?_
                  refine lv_iconst (v := 3) hx hb dX7_foursBehind_70 (by decide) ?_
                  refine lv_iload_n hx hb dX7_foursBehind_71 rfl (lv_at hl 2 rfl) ?_
                  refine lv_isub hx hb dX7_foursBehind_72 ?_
                  refine pk_ti (y := nI (3 - j)) (pk_sub (a := 3) (b := j) (by omega)) ?_
                  refine va_lald hx hb hK hP 1 1 rfl rfl (vp_in_nI (n := (3 - j)) (N := 3) (by omega) (by decide)) dX7_foursBehind_73 ?_
                  refine pk_tl (y := (fo (3 - j))) (congrArg fo (pk_cl (3 - j))) ?_
                  refine lv_iload_n hx hb dX7_foursBehind_74 rfl (lv_at hl 3 rfl) ?_
                  refine lv_iload_n hx hb dX7_foursBehind_75 rfl (lv_at hl 4 rfl) ?_
                  refine vp_callSl (W.runS (As := [.long (fo (3 - j)), .int (nI q), .int (nI wy)]) (rest := [.long (mturned (fo j) q wy)]) ⟨hx, hb, hml, hown, hts⟩ (c_X7_turned l (fo (3 - j)) q wy (by omega) (by omega)) (va_cwS 3 hts gX7_foursBehind_X7_turned rfl rfl rfl (by decide +kernel) ⟨Nat.le_of_ble_eq_true rfl, Nat.le_of_ble_eq_true rfl⟩) ⟨px_blind0, fun U hU hW => ⟨rfl, trivial⟩⟩ rfl rfl hl.1 rfl (lv_room (Nat.le_of_ble_eq_true rfl)) dX7_foursBehind_76 ⟨(Nat.le_of_ble_eq_true rfl), (Nat.le_of_ble_eq_true rfl)⟩) (fun r76 er76 => ?_)
                  obtain rfl := er76.symm
                  refine lv_iconst (v := 4) hx hb dX7_foursBehind_79 (by decide) ?_
                  refine vp_callSi (W.runS (As := [.long (mturned (fo j) q wy), .long (mturned (fo (3 - j)) q wy), .int 4]) (rest := []) ⟨hx, hb, hml, hown, hts⟩ (c_X7_count l (mturned (fo j) q wy) (mturned (fo (3 - j)) q wy) 4) (va_cwS 3 hts gX7_foursBehind_X7_count rfl rfl rfl (by decide +kernel) ⟨Nat.le_of_ble_eq_true rfl, Nat.le_of_ble_eq_true rfl⟩) ⟨px_blind0, fun U hU hW => ⟨rfl, trivial⟩⟩ rfl rfl hl.1 rfl (lv_room (Nat.le_of_ble_eq_true rfl)) dX7_foursBehind_80 ⟨(Nat.le_of_ble_eq_true rfl), (Nat.le_of_ble_eq_true rfl)⟩) (fun r80 er80 => ?_)
                  obtain rfl := er80.symm
                  refine W.iret (v := (msum (mturned (fo j) q wy) (mturned (fo (3 - j)) q wy) 4 32)) hx hb hr (fun tt ht hW => ⟨⟨(msum (mturned (fo j) q wy) (mturned (fo (3 - j)) q wy) 4 32), (), rfl, ?_, by rw [ht]; exact hP, va_K.moved hW.alike hK, hD⟩, hS.F ht⟩) hS.2.2 dX7_foursBehind_83
                  exact rfl
                · exact absurd c50 (by decide)
            · exact absurd (w_ok hwy) b36
          · exact absurd c26 (by decide)
      · exact absurd (q_ok hq) b10
  · exact absurd (s_ok hj) b1

set_option maxHeartbeats 400000 in
set_option maxRecDepth 100000 in
theorem c_X7_textLength_bad (l : Launch) (D : va_G) (cI cJ : ClassId) (sz : Nat) (h0 ow cl tu lk f1 s2 ms nx bs : Nat) (th re mt fd : Int32) (w k : Nat) (fo lo ff sf : Nat → Int64) (cs ts mm nf bf : Nat → Int32) (hk : k ≤ 36) (v : Int32) (hc : ¬ (0 ≤ v ∧ v ≤ nI k - 1)) : Met l yX7_textLength wsX7_textLength ({ frames := 1, cells := 0, slots := 0, locals := 22 } : Room) (va_Pc [.ref h0, .int v] (pv_C D cI cJ [(h0, .inr (4, [.int th, .ref ow, .int re, .int (nI w), .int mt, .ref cl, .ref tu, .int (nI k), .ref lk, .ref f1, .ref s2, .ref ms, .ref nx, .ref bs, .int fd])), (ow, .inl (cJ, 3, .inr (.inl fo))), (cl, .inl (cI, 36, .inl cs)), (tu, .inl (cI, 36, .inl ts)), (lk, .inl (cJ, 3, .inr (.inl lo))), (f1, .inl (cJ, 6, .inr (.inl ff))), (s2, .inl (cJ, 6, .inr (.inl sf))), (ms, .inl (cI, 6, .inl mm)), (nx, .inl (cI, 6, .inl nf)), (bs, .inl (cI, 6, .inl bf))] sz)) (va_Qi (fun (r : Int32) (u : Unit) => r = 0) (fun (u : Unit) => pv_B D cI cJ (va_A [(h0, .inr (4, [.int th, .ref ow, .int re, .int (nI w), .int mt, .ref cl, .ref tu, .int (nI k), .ref lk, .ref f1, .ref s2, .ref ms, .ref nx, .ref bs, .int fd])), (ow, .inl (cJ, 3, .inr (.inl fo))), (cl, .inl (cI, 36, .inl cs)), (tu, .inl (cI, 36, .inl ts)), (lk, .inl (cJ, 3, .inr (.inl lo))), (f1, .inl (cJ, 6, .inr (.inl ff))), (s2, .inl (cJ, 6, .inr (.inl sf))), (ms, .inl (cI, 6, .inl mm)), (nx, .inl (cI, 6, .inl nf)), (bs, .inl (cI, 6, .inl bf))] sz) [(h0, .inr (4, [.int 1, .ref ow, .int re, .int (nI w), .int mt, .ref cl, .ref tu, .int (nI k), .ref lk, .ref f1, .ref s2, .ref ms, .ref nx, .ref bs, .int fd])), (ow, .inl (cJ, 3, .inr (.inl fo))), (cl, .inl (cI, 36, .inl cs)), (tu, .inl (cI, 36, .inl ts)), (lk, .inl (cJ, 3, .inr (.inl lo))), (f1, .inl (cJ, 6, .inr (.inl ff))), (s2, .inl (cJ, 6, .inr (.inl sf))), (ms, .inl (cI, 6, .inl mm)), (nx, .inl (cI, 6, .inl nf)), (bs, .inl (cI, 6, .inl bf))]) (va_A [(h0, .inr (4, [.int th, .ref ow, .int re, .int (nI w), .int mt, .ref cl, .ref tu, .int (nI k), .ref lk, .ref f1, .ref s2, .ref ms, .ref nx, .ref bs, .int fd])), (ow, .inl (cJ, 3, .inr (.inl fo))), (cl, .inl (cI, 36, .inl cs)), (tu, .inl (cI, 36, .inl ts)), (lk, .inl (cJ, 3, .inr (.inl lo))), (f1, .inl (cJ, 6, .inr (.inl ff))), (s2, .inl (cJ, 6, .inr (.inl sf))), (ms, .inl (cI, 6, .inl mm)), (nx, .inl (cI, 6, .inl nf)), (bs, .inl (cI, 6, .inl bf))] sz)) 0 0 (va_A [(h0, .inr (4, [.int th, .ref ow, .int re, .int (nI w), .int mt, .ref cl, .ref tu, .int (nI k), .ref lk, .ref f1, .ref s2, .ref ms, .ref nx, .ref bs, .int fd])), (ow, .inl (cJ, 3, .inr (.inl fo))), (cl, .inl (cI, 36, .inl cs)), (tu, .inl (cI, 36, .inl ts)), (lk, .inl (cJ, 3, .inr (.inl lo))), (f1, .inl (cJ, 6, .inr (.inl ff))), (s2, .inl (cJ, 6, .inr (.inl sf))), (ms, .inl (cI, 6, .inl mm)), (nx, .inl (cI, 6, .inl nf)), (bs, .inl (cI, 6, .inl bf))] sz) := by
  refine Met.ofW (cc := cX7_textLength) (maxL := 2) (ret := (some .int)) (by decide) rfl ?_
  intro p e s m args below meth c s₁ B hml hv
  obtain ⟨rfl, rfl, hP, hK, hD0⟩ := hv
  have hx := B.exec
  have hb := B.bytes
  have hr := B.returns
  have hts := atoms_spec (ws := wsX7_textLength) B.pre
  have hown : s.vm.findClass RX7 = some m.cls := findClass_of_methodNamed B.named
  have hlocks := B.notSynchronized
  have hD := hD0.self (sz := s.heap.size)
  generalize hAe : va_A [(h0, .inr (4, [.int th, .ref ow, .int re, .int (nI w), .int mt, .ref cl, .ref tu, .int (nI k), .ref lk, .ref f1, .ref s2, .ref ms, .ref nx, .ref bs, .int fd])), (ow, .inl (cJ, 3, .inr (.inl fo))), (cl, .inl (cI, 36, .inl cs)), (tu, .inl (cI, 36, .inl ts)), (lk, .inl (cJ, 3, .inr (.inl lo))), (f1, .inl (cJ, 6, .inr (.inl ff))), (s2, .inl (cJ, 6, .inr (.inl sf))), (ms, .inl (cI, 6, .inl mm)), (nx, .inl (cI, 6, .inl nf)), (bs, .inl (cI, 6, .inl bf))] s.heap.size = A at hD ⊢
  have hA : ∀ q : Nat, s.heap.size ≤ q → A q := fun q h => by rw [← hAe]; exact Or.inr h
  have hS : va_S A s.heap s.heap [] := va_S.rf
  have hinX7 : ∀ w ∈ wsX70, w ∈ wsX7_textLength := by decide +kernel
  have hfl83 : (Cond.fieldLink RX7 83 "TwistquadModel" "moves" "I").before ([.ref h0, .int v] : List Value).toArray s = true := hts _ (by decide +kernel)
  have hl := lv_entry ([.ref h0, .int v]) (n := 2) (Nat.le_of_ble_eq_true rfl)
  rw [lg_entry_eq]
  generalize (lg_sl ([.ref h0, .int v]) ++ List.replicate (2 - (lg_sl ([.ref h0, .int v])).length) Slot.unset).toArray = ls at hl ⊢
  have hl : lv_has ls 2 [(0, .ref h0), (1, .int v)] := hl
  refine lv_aload_n hx hb dX7_textLength_0 rfl (lv_at hl 0 rfl) ?_
  refine lv_iload_n hx hb dX7_textLength_1 rfl (lv_at hl 1 rfl) ?_
  refine lv_iconst (v := 0) hx hb dX7_textLength_2 (by decide) ?_
  refine lv_aload_n hx hb dX7_textLength_3 rfl (lv_at hl 0 rfl) ?_
  refine va_get (D := D) (ci := 4) (v := .int (nI k)) (C := RX7) (T := TX7) (N := 15) hx hb hts hinX7 hown hK hP 0 rfl rfl 7 (by decide) hfl83 (fun _ h9 => h9) rfl dX7_textLength_4 ?_
  refine lv_iconst (v := 1) hx hb dX7_textLength_7 (by decide) ?_
  refine lv_isub hx hb dX7_textLength_8 ?_
  refine lv_topi (fun x8 ex8 => ?_)
  refine vp_callSi (W.runS (As := [.int v, .int 0, .int x8]) (rest := [.ref h0]) ⟨hx, hb, hml, hown, hts⟩ (c_X7_in l v 0 x8) (va_cwS 3 hts gX7_textLength_X7_in rfl rfl rfl (by decide +kernel) ⟨Nat.le_of_ble_eq_true rfl, Nat.le_of_ble_eq_true rfl⟩) ⟨px_blind0, fun U hU hW => ⟨rfl, trivial⟩⟩ rfl rfl hl.1 rfl (lv_room (Nat.le_of_ble_eq_true rfl)) dX7_textLength_9 ⟨(Nat.le_of_ble_eq_true rfl), (Nat.le_of_ble_eq_true rfl)⟩) (fun r9 er9 => ?_)
  obtain rfl := er9.symm
  refine pk_b (P := 0 ≤ v ∧ v ≤ x8) (fun b9 => ?_) (fun b9 => ?_)
  · exact absurd (by obtain rfl := ex8.symm; exact b9) hc
  · refine lv_if_eq (tgt := 19) hx hb dX7_textLength_12 (by decide) (fun c12 => ?_) (fun c12 => ?_)
    · refine lv_iconst (v := 1) hx hb dX7_textLength_19 (by decide) ?_
      have hPc := hP.sub (ws' := [(h0, .inr (4, [.int th, .ref ow, .int re, .int (nI w), .int mt, .ref cl, .ref tu, .int (nI k), .ref lk, .ref f1, .ref s2, .ref ms, .ref nx, .ref bs, .int fd])), (ow, .inl (cJ, 3, .inr (.inl fo))), (cl, .inl (cI, 36, .inl cs)), (tu, .inl (cI, 36, .inl ts)), (lk, .inl (cJ, 3, .inr (.inl lo))), (f1, .inl (cJ, 6, .inr (.inl ff))), (s2, .inl (cJ, 6, .inr (.inl sf))), (ms, .inl (cI, 6, .inl mm)), (nx, .inl (cI, 6, .inl nf)), (bs, .inl (cI, 6, .inl bf))]) [0, 1, 2, 3, 4, 5, 6, 7, 8, 9] rfl
      have hDc := hD.sub (ws' := [(h0, .inr (4, [.int th, .ref ow, .int re, .int (nI w), .int mt, .ref cl, .ref tu, .int (nI k), .ref lk, .ref f1, .ref s2, .ref ms, .ref nx, .ref bs, .int fd])), (ow, .inl (cJ, 3, .inr (.inl fo))), (cl, .inl (cI, 36, .inl cs)), (tu, .inl (cI, 36, .inl ts)), (lk, .inl (cJ, 3, .inr (.inl lo))), (f1, .inl (cJ, 6, .inr (.inl ff))), (s2, .inl (cJ, 6, .inr (.inl sf))), (ms, .inl (cI, 6, .inl mm)), (nx, .inl (cI, 6, .inl nf)), (bs, .inl (cI, 6, .inl bf))]) [0, 1, 2, 3, 4, 5, 6, 7, 8, 9] (by decide) rfl
      have hFc := va_free (wc := [(h0, .inr (4, [.int th, .ref ow, .int re, .int (nI w), .int mt, .ref cl, .ref tu, .int (nI k), .ref lk, .ref f1, .ref s2, .ref ms, .ref nx, .ref bs, .int fd])), (ow, .inl (cJ, 3, .inr (.inl fo))), (cl, .inl (cI, 36, .inl cs)), (tu, .inl (cI, 36, .inl ts)), (lk, .inl (cJ, 3, .inr (.inl lo))), (f1, .inl (cJ, 6, .inr (.inl ff))), (s2, .inl (cJ, 6, .inr (.inl sf))), (ms, .inl (cI, 6, .inl mm)), (nx, .inl (cI, 6, .inl nf)), (bs, .inl (cI, 6, .inl bf))]) hD hS hA [0, 1, 2, 3, 4, 5, 6, 7, 8, 9] rfl
      refine va_calli (va_runV (As := [.int 1]) (rest := []) ⟨hx, hb, hml, hown, hts⟩ (c_X7_goesWell l D cI cJ s.heap.size  h0 ow cl tu lk f1 s2 ms nx bs th re mt fd w k fo lo ff sf cs ts mm nf bf 1) (cwV 1 hts gX7_textLength_X7_goesWell rfl rfl rfl (by decide +kernel) ⟨Nat.le_of_ble_eq_true rfl, Nat.le_of_ble_eq_true rfl⟩) ⟨pv_blind, va_recv hK hPc (ci := 4) (q0 := 0) rfl rfl, fun U hU hW => ⟨rfl, by rw [hU], by rw [hU]; exact hPc, va_K.moved hW.alike hK, hDc.weaken (fun _ _ _ _ => trivial)⟩⟩ rfl rfl hl.1 rfl (lv_room (Nat.le_of_ble_eq_true rfl)) dX7_textLength_20 ⟨(Nat.le_of_ble_eq_true rfl), (Nat.le_of_ble_eq_true rfl)⟩) hS (fun q _ h => hFc q h) hFc (fun r20 u t9 H1 locs hth hvm hw20 hB hz1 hk1 hS => ?_)
      try dsimp only at hw20
      obtain ⟨hP1, hK1, hD1⟩ := hB
      rw [hth] at hP1
      obtain ⟨hP, hD⟩ := va_join (wr := []) (w1 := [(h0, .inr (4, [.int 1, .ref ow, .int re, .int (nI w), .int mt, .ref cl, .ref tu, .int (nI k), .ref lk, .ref f1, .ref s2, .ref ms, .ref nx, .ref bs, .int fd])), (ow, .inl (cJ, 3, .inr (.inl fo))), (cl, .inl (cI, 36, .inl cs)), (tu, .inl (cI, 36, .inl ts)), (lk, .inl (cJ, 3, .inr (.inl lo))), (f1, .inl (cJ, 6, .inr (.inl ff))), (s2, .inl (cJ, 6, .inr (.inl sf))), (ms, .inl (cI, 6, .inl mm)), (nx, .inl (cI, 6, .inl nf)), (bs, .inl (cI, 6, .inl bf))]) hP hD [0, 1, 2, 3, 4, 5, 6, 7, 8, 9] [] rfl rfl (by decide) (by decide) hk1 hFc hP1 hD1
      generalize H1 = H at hP hS ⊢
      have hP : va_P D vwCl [(h0, .inr (4, [.int 1, .ref ow, .int re, .int (nI w), .int mt, .ref cl, .ref tu, .int (nI k), .ref lk, .ref f1, .ref s2, .ref ms, .ref nx, .ref bs, .int fd])), (ow, .inl (cJ, 3, .inr (.inl fo))), (cl, .inl (cI, 36, .inl cs)), (tu, .inl (cI, 36, .inl ts)), (lk, .inl (cJ, 3, .inr (.inl lo))), (f1, .inl (cJ, 6, .inr (.inl ff))), (s2, .inl (cJ, 6, .inr (.inl sf))), (ms, .inl (cI, 6, .inl mm)), (nx, .inl (cI, 6, .inl nf)), (bs, .inl (cI, 6, .inl bf))] H := hP.sub (ws' := [(h0, .inr (4, [.int 1, .ref ow, .int re, .int (nI w), .int mt, .ref cl, .ref tu, .int (nI k), .ref lk, .ref f1, .ref s2, .ref ms, .ref nx, .ref bs, .int fd])), (ow, .inl (cJ, 3, .inr (.inl fo))), (cl, .inl (cI, 36, .inl cs)), (tu, .inl (cI, 36, .inl ts)), (lk, .inl (cJ, 3, .inr (.inl lo))), (f1, .inl (cJ, 6, .inr (.inl ff))), (s2, .inl (cJ, 6, .inr (.inl sf))), (ms, .inl (cI, 6, .inl mm)), (nx, .inl (cI, 6, .inl nf)), (bs, .inl (cI, 6, .inl bf))]) [0, 1, 2, 3, 4, 5, 6, 7, 8, 9] rfl
      have hD : va_D A [(h0, .inr (4, [.int 1, .ref ow, .int re, .int (nI w), .int mt, .ref cl, .ref tu, .int (nI k), .ref lk, .ref f1, .ref s2, .ref ms, .ref nx, .ref bs, .int fd])), (ow, .inl (cJ, 3, .inr (.inl fo))), (cl, .inl (cI, 36, .inl cs)), (tu, .inl (cI, 36, .inl ts)), (lk, .inl (cJ, 3, .inr (.inl lo))), (f1, .inl (cJ, 6, .inr (.inl ff))), (s2, .inl (cJ, 6, .inr (.inl sf))), (ms, .inl (cI, 6, .inl mm)), (nx, .inl (cI, 6, .inl nf)), (bs, .inl (cI, 6, .inl bf))] := hD.sub (ws' := [(h0, .inr (4, [.int 1, .ref ow, .int re, .int (nI w), .int mt, .ref cl, .ref tu, .int (nI k), .ref lk, .ref f1, .ref s2, .ref ms, .ref nx, .ref bs, .int fd])), (ow, .inl (cJ, 3, .inr (.inl fo))), (cl, .inl (cI, 36, .inl cs)), (tu, .inl (cI, 36, .inl ts)), (lk, .inl (cJ, 3, .inr (.inl lo))), (f1, .inl (cJ, 6, .inr (.inl ff))), (s2, .inl (cJ, 6, .inr (.inl sf))), (ms, .inl (cI, 6, .inl mm)), (nx, .inl (cI, 6, .inl nf)), (bs, .inl (cI, 6, .inl bf))]) [0, 1, 2, 3, 4, 5, 6, 7, 8, 9] (by decide) rfl
      obtain rfl := hw20.symm
      refine pk_ti (y := 0) (if_neg (by decide)) ?_
      refine lv_if_eq (tgt := 34) hx hb dX7_textLength_23 (by decide) (fun c23 => ?_) (fun c23 => ?_)
      · refine lv_iconst (v := 0) hx hb dX7_textLength_34 (by decide) ?_
        obtain rfl := ex8.symm
        refine W.iret (v := 0) hx hb hr (fun tt ht hW => ⟨⟨0, (), rfl, ?_, by rw [ht]; exact hP, va_K.moved hW.alike hK, hD⟩, hS.F ht⟩) hS.2.2 dX7_textLength_35
        exact rfl
      · exact absurd c23 (by decide)
    · exact absurd c12 (by decide)

set_option maxHeartbeats 400000 in
set_option maxRecDepth 100000 in
theorem c_X7_textLength_ok (l : Launch) (D : va_G) (cI cJ : ClassId) (sz : Nat) (h0 ow cl tu lk f1 s2 ms nx bs : Nat) (th re mt fd : Int32) (w k : Nat) (fo lo ff sf : Nat → Int64) (cs ts mm nf bf : Nat → Int32) (hk : k ≤ 36) (j : Nat) (hj : j < k) : Met l yX7_textLength wsX7_textLength ({ frames := 1, cells := 0, slots := 0, locals := 22 } : Room) (va_Pc [.ref h0, .int (nI j)] (pv_C D cI cJ [(h0, .inr (4, [.int th, .ref ow, .int re, .int (nI w), .int mt, .ref cl, .ref tu, .int (nI k), .ref lk, .ref f1, .ref s2, .ref ms, .ref nx, .ref bs, .int fd])), (ow, .inl (cJ, 3, .inr (.inl fo))), (cl, .inl (cI, 36, .inl cs)), (tu, .inl (cI, 36, .inl ts)), (lk, .inl (cJ, 3, .inr (.inl lo))), (f1, .inl (cJ, 6, .inr (.inl ff))), (s2, .inl (cJ, 6, .inr (.inl sf))), (ms, .inl (cI, 6, .inl mm)), (nx, .inl (cI, 6, .inl nf)), (bs, .inl (cI, 6, .inl bf))] sz)) (va_Qi (fun (r : Int32) (u : Unit) => r = if ts j = (-1) then 2 else 4) (fun (u : Unit) => pv_B D cI cJ (va_A [(h0, .inr (4, [.int th, .ref ow, .int re, .int (nI w), .int mt, .ref cl, .ref tu, .int (nI k), .ref lk, .ref f1, .ref s2, .ref ms, .ref nx, .ref bs, .int fd])), (ow, .inl (cJ, 3, .inr (.inl fo))), (cl, .inl (cI, 36, .inl cs)), (tu, .inl (cI, 36, .inl ts)), (lk, .inl (cJ, 3, .inr (.inl lo))), (f1, .inl (cJ, 6, .inr (.inl ff))), (s2, .inl (cJ, 6, .inr (.inl sf))), (ms, .inl (cI, 6, .inl mm)), (nx, .inl (cI, 6, .inl nf)), (bs, .inl (cI, 6, .inl bf))] sz) [(h0, .inr (4, [.int 0, .ref ow, .int re, .int (nI w), .int mt, .ref cl, .ref tu, .int (nI k), .ref lk, .ref f1, .ref s2, .ref ms, .ref nx, .ref bs, .int fd])), (ow, .inl (cJ, 3, .inr (.inl fo))), (cl, .inl (cI, 36, .inl cs)), (tu, .inl (cI, 36, .inl ts)), (lk, .inl (cJ, 3, .inr (.inl lo))), (f1, .inl (cJ, 6, .inr (.inl ff))), (s2, .inl (cJ, 6, .inr (.inl sf))), (ms, .inl (cI, 6, .inl mm)), (nx, .inl (cI, 6, .inl nf)), (bs, .inl (cI, 6, .inl bf))]) (va_A [(h0, .inr (4, [.int th, .ref ow, .int re, .int (nI w), .int mt, .ref cl, .ref tu, .int (nI k), .ref lk, .ref f1, .ref s2, .ref ms, .ref nx, .ref bs, .int fd])), (ow, .inl (cJ, 3, .inr (.inl fo))), (cl, .inl (cI, 36, .inl cs)), (tu, .inl (cI, 36, .inl ts)), (lk, .inl (cJ, 3, .inr (.inl lo))), (f1, .inl (cJ, 6, .inr (.inl ff))), (s2, .inl (cJ, 6, .inr (.inl sf))), (ms, .inl (cI, 6, .inl mm)), (nx, .inl (cI, 6, .inl nf)), (bs, .inl (cI, 6, .inl bf))] sz)) 0 0 (va_A [(h0, .inr (4, [.int th, .ref ow, .int re, .int (nI w), .int mt, .ref cl, .ref tu, .int (nI k), .ref lk, .ref f1, .ref s2, .ref ms, .ref nx, .ref bs, .int fd])), (ow, .inl (cJ, 3, .inr (.inl fo))), (cl, .inl (cI, 36, .inl cs)), (tu, .inl (cI, 36, .inl ts)), (lk, .inl (cJ, 3, .inr (.inl lo))), (f1, .inl (cJ, 6, .inr (.inl ff))), (s2, .inl (cJ, 6, .inr (.inl sf))), (ms, .inl (cI, 6, .inl mm)), (nx, .inl (cI, 6, .inl nf)), (bs, .inl (cI, 6, .inl bf))] sz) := by
  refine Met.ofW (cc := cX7_textLength) (maxL := 2) (ret := (some .int)) (by decide) rfl ?_
  intro p e s m args below meth c s₁ B hml hv
  obtain ⟨rfl, rfl, hP, hK, hD0⟩ := hv
  have hx := B.exec
  have hb := B.bytes
  have hr := B.returns
  have hts := atoms_spec (ws := wsX7_textLength) B.pre
  have hown : s.vm.findClass RX7 = some m.cls := findClass_of_methodNamed B.named
  have hlocks := B.notSynchronized
  have hD := hD0.self (sz := s.heap.size)
  generalize hAe : va_A [(h0, .inr (4, [.int th, .ref ow, .int re, .int (nI w), .int mt, .ref cl, .ref tu, .int (nI k), .ref lk, .ref f1, .ref s2, .ref ms, .ref nx, .ref bs, .int fd])), (ow, .inl (cJ, 3, .inr (.inl fo))), (cl, .inl (cI, 36, .inl cs)), (tu, .inl (cI, 36, .inl ts)), (lk, .inl (cJ, 3, .inr (.inl lo))), (f1, .inl (cJ, 6, .inr (.inl ff))), (s2, .inl (cJ, 6, .inr (.inl sf))), (ms, .inl (cI, 6, .inl mm)), (nx, .inl (cI, 6, .inl nf)), (bs, .inl (cI, 6, .inl bf))] s.heap.size = A at hD ⊢
  have hA : ∀ q : Nat, s.heap.size ≤ q → A q := fun q h => by rw [← hAe]; exact Or.inr h
  have hS : va_S A s.heap s.heap [] := va_S.rf
  have hinX7 : ∀ w ∈ wsX70, w ∈ wsX7_textLength := by decide +kernel
  have hfl83 : (Cond.fieldLink RX7 83 "TwistquadModel" "moves" "I").before ([.ref h0, .int (nI j)] : List Value).toArray s = true := hts _ (by decide +kernel)
  have hl := lv_entry ([.ref h0, .int (nI j)]) (n := 2) (Nat.le_of_ble_eq_true rfl)
  rw [lg_entry_eq]
  generalize (lg_sl ([.ref h0, .int (nI j)]) ++ List.replicate (2 - (lg_sl ([.ref h0, .int (nI j)])).length) Slot.unset).toArray = ls at hl ⊢
  have hl : lv_has ls 2 [(0, .ref h0), (1, .int (nI j))] := hl
  refine lv_aload_n hx hb dX7_textLength_0 rfl (lv_at hl 0 rfl) ?_
  refine lv_iload_n hx hb dX7_textLength_1 rfl (lv_at hl 1 rfl) ?_
  refine lv_iconst (v := 0) hx hb dX7_textLength_2 (by decide) ?_
  refine lv_aload_n hx hb dX7_textLength_3 rfl (lv_at hl 0 rfl) ?_
  refine va_get (D := D) (ci := 4) (v := .int (nI k)) (C := RX7) (T := TX7) (N := 15) hx hb hts hinX7 hown hK hP 0 rfl rfl 7 (by decide) hfl83 (fun _ h9 => h9) rfl dX7_textLength_4 ?_
  refine lv_iconst (v := 1) hx hb dX7_textLength_7 (by decide) ?_
  refine lv_isub hx hb dX7_textLength_8 ?_
  refine lv_topi (fun x8 ex8 => ?_)
  refine vp_callSi (W.runS (As := [.int (nI j), .int 0, .int x8]) (rest := [.ref h0]) ⟨hx, hb, hml, hown, hts⟩ (c_X7_in l (nI j) 0 x8) (va_cwS 3 hts gX7_textLength_X7_in rfl rfl rfl (by decide +kernel) ⟨Nat.le_of_ble_eq_true rfl, Nat.le_of_ble_eq_true rfl⟩) ⟨px_blind0, fun U hU hW => ⟨rfl, trivial⟩⟩ rfl rfl hl.1 rfl (lv_room (Nat.le_of_ble_eq_true rfl)) dX7_textLength_9 ⟨(Nat.le_of_ble_eq_true rfl), (Nat.le_of_ble_eq_true rfl)⟩) (fun r9 er9 => ?_)
  obtain rfl := er9.symm
  refine pk_b (P := 0 ≤ (nI j) ∧ (nI j) ≤ x8) (fun b9 => ?_) (fun b9 => ?_)
  · refine lv_if_eq (tgt := 19) hx hb dX7_textLength_12 (by decide) (fun c12 => ?_) (fun c12 => ?_)
    · exact absurd c12 (by decide)
    · refine lv_iconst (v := 0) hx hb dX7_textLength_15 (by decide) ?_
      refine lv_goto (tgt := 20) hx hb dX7_textLength_16 (by decide) ?_
      have hPc := hP.sub (ws' := [(h0, .inr (4, [.int th, .ref ow, .int re, .int (nI w), .int mt, .ref cl, .ref tu, .int (nI k), .ref lk, .ref f1, .ref s2, .ref ms, .ref nx, .ref bs, .int fd])), (ow, .inl (cJ, 3, .inr (.inl fo))), (cl, .inl (cI, 36, .inl cs)), (tu, .inl (cI, 36, .inl ts)), (lk, .inl (cJ, 3, .inr (.inl lo))), (f1, .inl (cJ, 6, .inr (.inl ff))), (s2, .inl (cJ, 6, .inr (.inl sf))), (ms, .inl (cI, 6, .inl mm)), (nx, .inl (cI, 6, .inl nf)), (bs, .inl (cI, 6, .inl bf))]) [0, 1, 2, 3, 4, 5, 6, 7, 8, 9] rfl
      have hDc := hD.sub (ws' := [(h0, .inr (4, [.int th, .ref ow, .int re, .int (nI w), .int mt, .ref cl, .ref tu, .int (nI k), .ref lk, .ref f1, .ref s2, .ref ms, .ref nx, .ref bs, .int fd])), (ow, .inl (cJ, 3, .inr (.inl fo))), (cl, .inl (cI, 36, .inl cs)), (tu, .inl (cI, 36, .inl ts)), (lk, .inl (cJ, 3, .inr (.inl lo))), (f1, .inl (cJ, 6, .inr (.inl ff))), (s2, .inl (cJ, 6, .inr (.inl sf))), (ms, .inl (cI, 6, .inl mm)), (nx, .inl (cI, 6, .inl nf)), (bs, .inl (cI, 6, .inl bf))]) [0, 1, 2, 3, 4, 5, 6, 7, 8, 9] (by decide) rfl
      have hFc := va_free (wc := [(h0, .inr (4, [.int th, .ref ow, .int re, .int (nI w), .int mt, .ref cl, .ref tu, .int (nI k), .ref lk, .ref f1, .ref s2, .ref ms, .ref nx, .ref bs, .int fd])), (ow, .inl (cJ, 3, .inr (.inl fo))), (cl, .inl (cI, 36, .inl cs)), (tu, .inl (cI, 36, .inl ts)), (lk, .inl (cJ, 3, .inr (.inl lo))), (f1, .inl (cJ, 6, .inr (.inl ff))), (s2, .inl (cJ, 6, .inr (.inl sf))), (ms, .inl (cI, 6, .inl mm)), (nx, .inl (cI, 6, .inl nf)), (bs, .inl (cI, 6, .inl bf))]) hD hS hA [0, 1, 2, 3, 4, 5, 6, 7, 8, 9] rfl
      refine va_calli (va_runV (As := [.int 0]) (rest := []) ⟨hx, hb, hml, hown, hts⟩ (c_X7_goesWell l D cI cJ s.heap.size  h0 ow cl tu lk f1 s2 ms nx bs th re mt fd w k fo lo ff sf cs ts mm nf bf 0) (cwV 1 hts gX7_textLength_X7_goesWell rfl rfl rfl (by decide +kernel) ⟨Nat.le_of_ble_eq_true rfl, Nat.le_of_ble_eq_true rfl⟩) ⟨pv_blind, va_recv hK hPc (ci := 4) (q0 := 0) rfl rfl, fun U hU hW => ⟨rfl, by rw [hU], by rw [hU]; exact hPc, va_K.moved hW.alike hK, hDc.weaken (fun _ _ _ _ => trivial)⟩⟩ rfl rfl hl.1 rfl (lv_room (Nat.le_of_ble_eq_true rfl)) dX7_textLength_20 ⟨(Nat.le_of_ble_eq_true rfl), (Nat.le_of_ble_eq_true rfl)⟩) hS (fun q _ h => hFc q h) hFc (fun r20 u t9 H1 locs hth hvm hw20 hB hz1 hk1 hS => ?_)
      try dsimp only at hw20
      obtain ⟨hP1, hK1, hD1⟩ := hB
      rw [hth] at hP1
      obtain ⟨hP, hD⟩ := va_join (wr := []) (w1 := [(h0, .inr (4, [.int 0, .ref ow, .int re, .int (nI w), .int mt, .ref cl, .ref tu, .int (nI k), .ref lk, .ref f1, .ref s2, .ref ms, .ref nx, .ref bs, .int fd])), (ow, .inl (cJ, 3, .inr (.inl fo))), (cl, .inl (cI, 36, .inl cs)), (tu, .inl (cI, 36, .inl ts)), (lk, .inl (cJ, 3, .inr (.inl lo))), (f1, .inl (cJ, 6, .inr (.inl ff))), (s2, .inl (cJ, 6, .inr (.inl sf))), (ms, .inl (cI, 6, .inl mm)), (nx, .inl (cI, 6, .inl nf)), (bs, .inl (cI, 6, .inl bf))]) hP hD [0, 1, 2, 3, 4, 5, 6, 7, 8, 9] [] rfl rfl (by decide) (by decide) hk1 hFc hP1 hD1
      generalize H1 = H at hP hS ⊢
      have hP : va_P D vwCl [(h0, .inr (4, [.int 0, .ref ow, .int re, .int (nI w), .int mt, .ref cl, .ref tu, .int (nI k), .ref lk, .ref f1, .ref s2, .ref ms, .ref nx, .ref bs, .int fd])), (ow, .inl (cJ, 3, .inr (.inl fo))), (cl, .inl (cI, 36, .inl cs)), (tu, .inl (cI, 36, .inl ts)), (lk, .inl (cJ, 3, .inr (.inl lo))), (f1, .inl (cJ, 6, .inr (.inl ff))), (s2, .inl (cJ, 6, .inr (.inl sf))), (ms, .inl (cI, 6, .inl mm)), (nx, .inl (cI, 6, .inl nf)), (bs, .inl (cI, 6, .inl bf))] H := hP.sub (ws' := [(h0, .inr (4, [.int 0, .ref ow, .int re, .int (nI w), .int mt, .ref cl, .ref tu, .int (nI k), .ref lk, .ref f1, .ref s2, .ref ms, .ref nx, .ref bs, .int fd])), (ow, .inl (cJ, 3, .inr (.inl fo))), (cl, .inl (cI, 36, .inl cs)), (tu, .inl (cI, 36, .inl ts)), (lk, .inl (cJ, 3, .inr (.inl lo))), (f1, .inl (cJ, 6, .inr (.inl ff))), (s2, .inl (cJ, 6, .inr (.inl sf))), (ms, .inl (cI, 6, .inl mm)), (nx, .inl (cI, 6, .inl nf)), (bs, .inl (cI, 6, .inl bf))]) [0, 1, 2, 3, 4, 5, 6, 7, 8, 9] rfl
      have hD : va_D A [(h0, .inr (4, [.int 0, .ref ow, .int re, .int (nI w), .int mt, .ref cl, .ref tu, .int (nI k), .ref lk, .ref f1, .ref s2, .ref ms, .ref nx, .ref bs, .int fd])), (ow, .inl (cJ, 3, .inr (.inl fo))), (cl, .inl (cI, 36, .inl cs)), (tu, .inl (cI, 36, .inl ts)), (lk, .inl (cJ, 3, .inr (.inl lo))), (f1, .inl (cJ, 6, .inr (.inl ff))), (s2, .inl (cJ, 6, .inr (.inl sf))), (ms, .inl (cI, 6, .inl mm)), (nx, .inl (cI, 6, .inl nf)), (bs, .inl (cI, 6, .inl bf))] := hD.sub (ws' := [(h0, .inr (4, [.int 0, .ref ow, .int re, .int (nI w), .int mt, .ref cl, .ref tu, .int (nI k), .ref lk, .ref f1, .ref s2, .ref ms, .ref nx, .ref bs, .int fd])), (ow, .inl (cJ, 3, .inr (.inl fo))), (cl, .inl (cI, 36, .inl cs)), (tu, .inl (cI, 36, .inl ts)), (lk, .inl (cJ, 3, .inr (.inl lo))), (f1, .inl (cJ, 6, .inr (.inl ff))), (s2, .inl (cJ, 6, .inr (.inl sf))), (ms, .inl (cI, 6, .inl mm)), (nx, .inl (cI, 6, .inl nf)), (bs, .inl (cI, 6, .inl bf))]) [0, 1, 2, 3, 4, 5, 6, 7, 8, 9] (by decide) rfl
      obtain rfl := hw20.symm
      refine pk_ti (y := 1) (if_pos (by decide)) ?_
      refine lv_if_eq (tgt := 34) hx hb dX7_textLength_23 (by decide) (fun c23 => ?_) (fun c23 => ?_)
      · exact absurd c23 (by decide)
      · refine lv_aload_n hx hb dX7_textLength_26 rfl (lv_at hl 0 rfl) ?_
        refine lv_iload_n hx hb dX7_textLength_27 rfl (lv_at hl 1 rfl) ?_
        refine vp_callSi (W.runV (As := [.int (nI j)]) (rest := []) ⟨hx, hb, hml, hown, hts⟩ (c_X7_lengthOf l D cI cJ h0 ow cl tu lk f1 s2 ms nx bs 0 re mt fd w k fo lo ff sf cs ts mm nf bf j (by omega)) (cwV 1 hts gX7_textLength_X7_lengthOf rfl rfl rfl (by decide +kernel) ⟨Nat.le_of_ble_eq_true rfl, Nat.le_of_ble_eq_true rfl⟩) ⟨px_blindW, va_recv hK hP (ci := 4) (q0 := 0) rfl rfl, fun U hU hW => ⟨rfl, by rw [hU]; exact hP.sub (ws' := [(h0, .inr (4, [.int 0, .ref ow, .int re, .int (nI w), .int mt, .ref cl, .ref tu, .int (nI k), .ref lk, .ref f1, .ref s2, .ref ms, .ref nx, .ref bs, .int fd])), (ow, .inl (cJ, 3, .inr (.inl fo))), (cl, .inl (cI, 36, .inl cs)), (tu, .inl (cI, 36, .inl ts)), (lk, .inl (cJ, 3, .inr (.inl lo))), (f1, .inl (cJ, 6, .inr (.inl ff))), (s2, .inl (cJ, 6, .inr (.inl sf))), (ms, .inl (cI, 6, .inl mm)), (nx, .inl (cI, 6, .inl nf)), (bs, .inl (cI, 6, .inl bf))]) [0, 1, 2, 3, 4, 5, 6, 7, 8, 9] rfl, va_K.moved hW.alike hK⟩⟩ rfl rfl hl.1 rfl (lv_room (Nat.le_of_ble_eq_true rfl)) dX7_textLength_28 ⟨(Nat.le_of_ble_eq_true rfl), (Nat.le_of_ble_eq_true rfl)⟩) (fun r28 er28 => ?_)
        obtain rfl := er28.symm
        refine lv_goto (tgt := 35) hx hb dX7_textLength_31 (by decide) ?_
        obtain rfl := ex8.symm
        refine W.iret (v := (if ts j = (-1) then 2 else 4)) hx hb hr (fun tt ht hW => ⟨⟨(if ts j = (-1) then 2 else 4), (), rfl, ?_, by rw [ht]; exact hP, va_K.moved hW.alike hK, hD⟩, hS.F ht⟩) hS.2.2 dX7_textLength_35
        exact rfl
  · exact absurd (by obtain rfl := ex8.symm; exact mv_in1 hj hk) b9
