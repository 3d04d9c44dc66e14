theorem msub_0 (f g : Int64) : (nI (msize f 36) - nI (msize g 36) = 0) ↔ msize f 36 = msize g 36 := by
  have h1 := msize_le f 36; have h2 := msize_le g 36
  constructor
  · intro h
    have e : nI (msize f 36) - nI (msize g 36) + nI (msize g 36) = 0 + nI (msize g 36) := by rw [h]
    rw [Int32.sub_add_cancel, Int32.zero_add] at e
    exact (nq_eq (by omega) (by omega)).mp e
  · intro h
    rw [h]; exact Int32.sub_self _

theorem tx_01 {P : Prop} [Decidable P] {x : Int32} (hx : x = 0 ∨ x = 1) : 0 ≤ x ∧ x ≤ (if P then (2 : Int32) else 4) - 1 := by
  rcases hx with rfl | rfl <;> (refine ⟨by decide, ?_⟩; split <;> decide)
theorem tx_23 {P : Prop} [Decidable P] {x : Int32} (hx : x = 2 ∨ x = 3) (hp : ¬ P) : 0 ≤ x ∧ x ≤ (if P then (2 : Int32) else 4) - 1 := by
  rw [if_neg hp]; rcases hx with rfl | rfl <;> (refine ⟨by decide, ?_⟩; decide)

set_option maxHeartbeats 400000 in
set_option maxRecDepth 100000 in
theorem c_X7_share_r (l : Launch) (D : va_G) (cI cJ : ClassId) (sz : Nat) (h0 ow cl tu lk f1 s2 ms nx bs : Nat) (th re mt fd : Int32) (w k : Nat) (fo lo ff sf : Nat → Int64) (cs ts mm nf bf : Nat → Int32)  : Met l yX7_share wsX7_share ({ frames := 2, cells := 0, slots := 0, locals := 45 } : Room) (va_Pc [.ref h0] (pv_C D cI cJ [(h0, .inr (4, [.int th, .ref ow, .int re, .int (nI w), .int mt, .ref cl, .ref tu, .int (nI k), .ref lk, .ref f1, .ref s2, .ref ms, .ref nx, .ref bs, .int fd])), (ow, .inl (cJ, 3, .inr (.inl fo))), (cl, .inl (cI, 36, .inl cs)), (tu, .inl (cI, 36, .inl ts)), (lk, .inl (cJ, 3, .inr (.inl lo))), (f1, .inl (cJ, 6, .inr (.inl ff))), (s2, .inl (cJ, 6, .inr (.inl sf))), (ms, .inl (cI, 6, .inl mm)), (nx, .inl (cI, 6, .inl nf)), (bs, .inl (cI, 6, .inl bf))] sz)) (va_Qf (fun (r : UInt32) (u : Unit) => r = cshare (msize (fo 1 ||| fo 2) 36)) (fun (u : Unit) => pv_B D cI cJ (va_A [(h0, .inr (4, [.int th, .ref ow, .int re, .int (nI w), .int mt, .ref cl, .ref tu, .int (nI k), .ref lk, .ref f1, .ref s2, .ref ms, .ref nx, .ref bs, .int fd])), (ow, .inl (cJ, 3, .inr (.inl fo))), (cl, .inl (cI, 36, .inl cs)), (tu, .inl (cI, 36, .inl ts)), (lk, .inl (cJ, 3, .inr (.inl lo))), (f1, .inl (cJ, 6, .inr (.inl ff))), (s2, .inl (cJ, 6, .inr (.inl sf))), (ms, .inl (cI, 6, .inl mm)), (nx, .inl (cI, 6, .inl nf)), (bs, .inl (cI, 6, .inl bf))] sz) [(h0, .inr (4, [.int 0, .ref ow, .int re, .int (nI w), .int mt, .ref cl, .ref tu, .int (nI k), .ref lk, .ref f1, .ref s2, .ref ms, .ref nx, .ref bs, .int fd])), (ow, .inl (cJ, 3, .inr (.inl fo))), (cl, .inl (cI, 36, .inl cs)), (tu, .inl (cI, 36, .inl ts)), (lk, .inl (cJ, 3, .inr (.inl lo))), (f1, .inl (cJ, 6, .inr (.inl ff))), (s2, .inl (cJ, 6, .inr (.inl sf))), (ms, .inl (cI, 6, .inl mm)), (nx, .inl (cI, 6, .inl nf)), (bs, .inl (cI, 6, .inl bf))]) (va_A [(h0, .inr (4, [.int th, .ref ow, .int re, .int (nI w), .int mt, .ref cl, .ref tu, .int (nI k), .ref lk, .ref f1, .ref s2, .ref ms, .ref nx, .ref bs, .int fd])), (ow, .inl (cJ, 3, .inr (.inl fo))), (cl, .inl (cI, 36, .inl cs)), (tu, .inl (cI, 36, .inl ts)), (lk, .inl (cJ, 3, .inr (.inl lo))), (f1, .inl (cJ, 6, .inr (.inl ff))), (s2, .inl (cJ, 6, .inr (.inl sf))), (ms, .inl (cI, 6, .inl mm)), (nx, .inl (cI, 6, .inl nf)), (bs, .inl (cI, 6, .inl bf))] sz)) 0 0 (va_A [(h0, .inr (4, [.int th, .ref ow, .int re, .int (nI w), .int mt, .ref cl, .ref tu, .int (nI k), .ref lk, .ref f1, .ref s2, .ref ms, .ref nx, .ref bs, .int fd])), (ow, .inl (cJ, 3, .inr (.inl fo))), (cl, .inl (cI, 36, .inl cs)), (tu, .inl (cI, 36, .inl ts)), (lk, .inl (cJ, 3, .inr (.inl lo))), (f1, .inl (cJ, 6, .inr (.inl ff))), (s2, .inl (cJ, 6, .inr (.inl sf))), (ms, .inl (cI, 6, .inl mm)), (nx, .inl (cI, 6, .inl nf)), (bs, .inl (cI, 6, .inl bf))] sz) := by
  refine Met.ofW (cc := cX7_share) (maxL := 1) (ret := (some .float)) (by decide) rfl ?_
  intro p e s m args below meth c s₁ B hml hv
  obtain ⟨rfl, rfl, hP, hK, hD0⟩ := hv
  have hx := B.exec
  have hb := B.bytes
  have hr := B.returns
  have hts := atoms_spec (ws := wsX7_share) B.pre
  have hown : s.vm.findClass RX7 = some m.cls := findClass_of_methodNamed B.named
  have hlocks := B.notSynchronized
  have hD := hD0.self (sz := s.heap.size)
  generalize hAe : va_A [(h0, .inr (4, [.int th, .ref ow, .int re, .int (nI w), .int mt, .ref cl, .ref tu, .int (nI k), .ref lk, .ref f1, .ref s2, .ref ms, .ref nx, .ref bs, .int fd])), (ow, .inl (cJ, 3, .inr (.inl fo))), (cl, .inl (cI, 36, .inl cs)), (tu, .inl (cI, 36, .inl ts)), (lk, .inl (cJ, 3, .inr (.inl lo))), (f1, .inl (cJ, 6, .inr (.inl ff))), (s2, .inl (cJ, 6, .inr (.inl sf))), (ms, .inl (cI, 6, .inl mm)), (nx, .inl (cI, 6, .inl nf)), (bs, .inl (cI, 6, .inl bf))] s.heap.size = A at hD ⊢
  have hA : ∀ q : Nat, s.heap.size ≤ q → A q := fun q h => by rw [← hAe]; exact Or.inr h
  have hS : va_S A s.heap s.heap [] := va_S.rf
  have hinX7 : ∀ w ∈ wsX70, w ∈ wsX7_share := by decide +kernel
  have hfl42 : (Cond.fieldLink RX7 42 "TwistquadModel" "thrown" "I").before ([.ref h0] : List Value).toArray s = true := hts _ (by decide +kernel)
  have hfl7 : (Cond.fieldLink RX7 7 "TwistquadModel" "own" "[J").before ([.ref h0] : List Value).toArray s = true := hts _ (by decide +kernel)
  have hl := lv_entry ([.ref h0]) (n := 1) (Nat.le_of_ble_eq_true rfl)
  rw [lg_entry_eq]
  generalize (lg_sl ([.ref h0]) ++ List.replicate (1 - (lg_sl ([.ref h0])).length) Slot.unset).toArray = ls at hl ⊢
  have hl : lv_has ls 1 [(0, .ref h0)] := hl
  refine lv_aload_n hx hb dX7_share_0 rfl (lv_at hl 0 rfl) ?_
  refine lv_iconst (v := 0) hx hb dX7_share_1 (by decide) ?_
  refine va_put (D := D) (ci := 4) (v := .int 0) (ty := .int) (C := RX7) (T := TX7) (N := 15) hx hb hts hinX7 tyX7 tyX7_ok nmX7 hown hK hP hD hS 0 rfl rfl 0 (by decide) hfl42 (fun _ h9 => h9) rfl (by decide +kernel) rfl rfl (Nat.le_of_ble_eq_true rfl) dX7_share_2 (fun H locs hP hD hS => ?_)
  have hP : va_P D vwCl [(h0, .inr (4, [.int 0, .ref ow, .int re, .int (nI w), .int mt, .ref cl, .ref tu, .int (nI k), .ref lk, .ref f1, .ref s2, .ref ms, .ref nx, .ref bs, .int fd])), (ow, .inl (cJ, 3, .inr (.inl fo))), (cl, .inl (cI, 36, .inl cs)), (tu, .inl (cI, 36, .inl ts)), (lk, .inl (cJ, 3, .inr (.inl lo))), (f1, .inl (cJ, 6, .inr (.inl ff))), (s2, .inl (cJ, 6, .inr (.inl sf))), (ms, .inl (cI, 6, .inl mm)), (nx, .inl (cI, 6, .inl nf)), (bs, .inl (cI, 6, .inl bf))] H := hP
  have hD : va_D A [(h0, .inr (4, [.int 0, .ref ow, .int re, .int (nI w), .int mt, .ref cl, .ref tu, .int (nI k), .ref lk, .ref f1, .ref s2, .ref ms, .ref nx, .ref bs, .int fd])), (ow, .inl (cJ, 3, .inr (.inl fo))), (cl, .inl (cI, 36, .inl cs)), (tu, .inl (cI, 36, .inl ts)), (lk, .inl (cJ, 3, .inr (.inl lo))), (f1, .inl (cJ, 6, .inr (.inl ff))), (s2, .inl (cJ, 6, .inr (.inl sf))), (ms, .inl (cI, 6, .inl mm)), (nx, .inl (cI, 6, .inl nf)), (bs, .inl (cI, 6, .inl bf))] := hD
  refine lv_aload_n hx hb dX7_share_5 rfl (lv_at hl 0 rfl) ?_
  refine va_get (D := D) (ci := 4) (v := .ref ow) (C := RX7) (T := TX7) (N := 15) hx hb hts hinX7 hown hK hP 0 rfl rfl 1 (by decide) hfl7 (fun _ h9 => h9) rfl dX7_share_6 ?_
  refine lv_iconst (v := 1) hx hb dX7_share_9 (by decide) ?_
  refine va_lald hx hb hK hP 1 1 rfl rfl (vp_in_nI (n := 1) (N := 3) (by omega) (by decide)) dX7_share_10 ?_
  refine pk_tl (y := (fo 1)) (congrArg fo (pk_cl 1)) ?_
  refine lv_aload_n hx hb dX7_share_11 rfl (lv_at hl 0 rfl) ?_
  refine va_get (D := D) (ci := 4) (v := .ref ow) (C := RX7) (T := TX7) (N := 15) hx hb hts hinX7 hown hK hP 0 rfl rfl 1 (by decide) hfl7 (fun _ h9 => h9) rfl dX7_share_12 ?_
  refine lv_iconst (v := 2) hx hb dX7_share_15 (by decide) ?_
  refine va_lald hx hb hK hP 1 1 rfl rfl (vp_in_nI (n := 2) (N := 3) (by omega) (by decide)) dX7_share_16 ?_
  refine pk_tl (y := (fo 2)) (congrArg fo (pk_cl 2)) ?_
  refine lv_lor hx hb dX7_share_17 ?_
  refine lv_topl (fun x17 ex17 => ?_)
  refine vp_callSi (W.runS (As := [.long x17]) (rest := []) ⟨hx, hb, hml, hown, hts⟩ (c_X7_sizeOf l x17) (va_cwS 1 hts gX7_share_X7_sizeOf rfl rfl rfl (by decide +kernel) ⟨Nat.le_of_ble_eq_true rfl, Nat.le_of_ble_eq_true rfl⟩) ⟨px_blind0, fun U hU hW => ⟨rfl, trivial⟩⟩ rfl rfl hl.1 rfl (lv_room (Nat.le_of_ble_eq_true rfl)) dX7_share_18 ⟨(Nat.le_of_ble_eq_true rfl), (Nat.le_of_ble_eq_true rfl)⟩) (fun r18 er18 => ?_)
  obtain rfl := er18.symm
  refine lv_i2f hx hb dX7_share_21 ?_
  refine lv_ldcf (v := 1108344832) hx hb hown (hts (.constantFloat RX7 104 (1108344832)) (by decide +kernel)) dX7_share_22 ?_
  refine lv_fdiv hx hb dX7_share_24 (cshare_ok (Nat.le_trans (msize_le _ 36) (by decide))) ?_
  obtain rfl := ex17.symm
  refine W.fret (v := (FP.fdiv (FP.i2f (nI (msize ((fo 1) ||| (fo 2)) 36))) 1108344832)) hx hb hr (fun tt ht hW => ⟨⟨(FP.fdiv (FP.i2f (nI (msize ((fo 1) ||| (fo 2)) 36))) 1108344832), (), rfl, ?_, by rw [ht]; exact hP, va_K.moved hW.alike hK, hD⟩, hS.F ht⟩) hS.2.2 dX7_share_25
  exact rfl

set_option maxHeartbeats 400000 in
set_option maxRecDepth 100000 in
theorem c_X7_textAt_bad1 (l : Launch) (D : va_G) (cI cJ : ClassId) (sz : Nat) (h0 ow cl tu lk f1 s2 ms nx bs : Nat) (th re mt fd : Int32) (w k : Nat) (fo lo ff sf : Nat → Int64) (cs ts mm nf bf : Nat → Int32) (hk : k ≤ 36) (v v2 : Int32) (hc : ¬ (0 ≤ v ∧ v ≤ nI k - 1)) : Met l yX7_textAt wsX7_textAt ({ frames := 1, cells := 0, slots := 0, locals := 22 } : Room) (va_Pc [.ref h0, .int v, .int v2] (pv_C D cI cJ [(h0, .inr (4, [.int th, .ref ow, .int re, .int (nI w), .int mt, .ref cl, .ref tu, .int (nI k), .ref lk, .ref f1, .ref s2, .ref ms, .ref nx, .ref bs, .int fd])), (ow, .inl (cJ, 3, .inr (.inl fo))), (cl, .inl (cI, 36, .inl cs)), (tu, .inl (cI, 36, .inl ts)), (lk, .inl (cJ, 3, .inr (.inl lo))), (f1, .inl (cJ, 6, .inr (.inl ff))), (s2, .inl (cJ, 6, .inr (.inl sf))), (ms, .inl (cI, 6, .inl mm)), (nx, .inl (cI, 6, .inl nf)), (bs, .inl (cI, 6, .inl bf))] sz)) (va_Qi (fun (r : Int32) (u : Unit) => r = 32) (fun (u : Unit) => pv_B D cI cJ (va_A [(h0, .inr (4, [.int th, .ref ow, .int re, .int (nI w), .int mt, .ref cl, .ref tu, .int (nI k), .ref lk, .ref f1, .ref s2, .ref ms, .ref nx, .ref bs, .int fd])), (ow, .inl (cJ, 3, .inr (.inl fo))), (cl, .inl (cI, 36, .inl cs)), (tu, .inl (cI, 36, .inl ts)), (lk, .inl (cJ, 3, .inr (.inl lo))), (f1, .inl (cJ, 6, .inr (.inl ff))), (s2, .inl (cJ, 6, .inr (.inl sf))), (ms, .inl (cI, 6, .inl mm)), (nx, .inl (cI, 6, .inl nf)), (bs, .inl (cI, 6, .inl bf))] sz) [(h0, .inr (4, [.int 1, .ref ow, .int re, .int (nI w), .int mt, .ref cl, .ref tu, .int (nI k), .ref lk, .ref f1, .ref s2, .ref ms, .ref nx, .ref bs, .int fd])), (ow, .inl (cJ, 3, .inr (.inl fo))), (cl, .inl (cI, 36, .inl cs)), (tu, .inl (cI, 36, .inl ts)), (lk, .inl (cJ, 3, .inr (.inl lo))), (f1, .inl (cJ, 6, .inr (.inl ff))), (s2, .inl (cJ, 6, .inr (.inl sf))), (ms, .inl (cI, 6, .inl mm)), (nx, .inl (cI, 6, .inl nf)), (bs, .inl (cI, 6, .inl bf))]) (va_A [(h0, .inr (4, [.int th, .ref ow, .int re, .int (nI w), .int mt, .ref cl, .ref tu, .int (nI k), .ref lk, .ref f1, .ref s2, .ref ms, .ref nx, .ref bs, .int fd])), (ow, .inl (cJ, 3, .inr (.inl fo))), (cl, .inl (cI, 36, .inl cs)), (tu, .inl (cI, 36, .inl ts)), (lk, .inl (cJ, 3, .inr (.inl lo))), (f1, .inl (cJ, 6, .inr (.inl ff))), (s2, .inl (cJ, 6, .inr (.inl sf))), (ms, .inl (cI, 6, .inl mm)), (nx, .inl (cI, 6, .inl nf)), (bs, .inl (cI, 6, .inl bf))] sz)) 0 0 (va_A [(h0, .inr (4, [.int th, .ref ow, .int re, .int (nI w), .int mt, .ref cl, .ref tu, .int (nI k), .ref lk, .ref f1, .ref s2, .ref ms, .ref nx, .ref bs, .int fd])), (ow, .inl (cJ, 3, .inr (.inl fo))), (cl, .inl (cI, 36, .inl cs)), (tu, .inl (cI, 36, .inl ts)), (lk, .inl (cJ, 3, .inr (.inl lo))), (f1, .inl (cJ, 6, .inr (.inl ff))), (s2, .inl (cJ, 6, .inr (.inl sf))), (ms, .inl (cI, 6, .inl mm)), (nx, .inl (cI, 6, .inl nf)), (bs, .inl (cI, 6, .inl bf))] sz) := by
  refine Met.ofW (cc := cX7_textAt) (maxL := 4) (ret := (some .char)) (by decide) rfl ?_
  intro p e s m args below meth c s₁ B hml hv
  obtain ⟨rfl, rfl, hP, hK, hD0⟩ := hv
  have hx := B.exec
  have hb := B.bytes
  have hr := B.returns
  have hts := atoms_spec (ws := wsX7_textAt) B.pre
  have hown : s.vm.findClass RX7 = some m.cls := findClass_of_methodNamed B.named
  have hlocks := B.notSynchronized
  have hD := hD0.self (sz := s.heap.size)
  generalize hAe : va_A [(h0, .inr (4, [.int th, .ref ow, .int re, .int (nI w), .int mt, .ref cl, .ref tu, .int (nI k), .ref lk, .ref f1, .ref s2, .ref ms, .ref nx, .ref bs, .int fd])), (ow, .inl (cJ, 3, .inr (.inl fo))), (cl, .inl (cI, 36, .inl cs)), (tu, .inl (cI, 36, .inl ts)), (lk, .inl (cJ, 3, .inr (.inl lo))), (f1, .inl (cJ, 6, .inr (.inl ff))), (s2, .inl (cJ, 6, .inr (.inl sf))), (ms, .inl (cI, 6, .inl mm)), (nx, .inl (cI, 6, .inl nf)), (bs, .inl (cI, 6, .inl bf))] s.heap.size = A at hD ⊢
  have hA : ∀ q : Nat, s.heap.size ≤ q → A q := fun q h => by rw [← hAe]; exact Or.inr h
  have hS : va_S A s.heap s.heap [] := va_S.rf
  have hinX7 : ∀ w ∈ wsX70, w ∈ wsX7_textAt := by decide +kernel
  have hfl83 : (Cond.fieldLink RX7 83 "TwistquadModel" "moves" "I").before ([.ref h0, .int v, .int v2] : List Value).toArray s = true := hts _ (by decide +kernel)
  have hl := lv_entry ([.ref h0, .int v, .int v2]) (n := 4) (Nat.le_of_ble_eq_true rfl)
  rw [lg_entry_eq]
  generalize (lg_sl ([.ref h0, .int v, .int v2]) ++ List.replicate (4 - (lg_sl ([.ref h0, .int v, .int v2])).length) Slot.unset).toArray = ls at hl ⊢
  have hl : lv_has ls 4 [(0, .ref h0), (1, .int v), (2, .int v2)] := hl
  refine lv_iload_n hx hb dX7_textAt_0 rfl (lv_at hl 1 rfl) ?_
  refine lv_iconst (v := 0) hx hb dX7_textAt_1 (by decide) ?_
  refine lv_aload_n hx hb dX7_textAt_2 rfl (lv_at hl 0 rfl) ?_
  refine va_get (D := D) (ci := 4) (v := .int (nI k)) (C := RX7) (T := TX7) (N := 15) hx hb hts hinX7 hown hK hP 0 rfl rfl 7 (by decide) hfl83 (fun _ h9 => h9) rfl dX7_textAt_3 ?_
  refine lv_iconst (v := 1) hx hb dX7_textAt_6 (by decide) ?_
  refine lv_isub hx hb dX7_textAt_7 ?_
  refine lv_topi (fun x7 ex7 => ?_)
  refine vp_callSi (W.runS (As := [.int v, .int 0, .int x7]) (rest := []) ⟨hx, hb, hml, hown, hts⟩ (c_X7_in l v 0 x7) (va_cwS 3 hts gX7_textAt_X7_in rfl rfl rfl (by decide +kernel) ⟨Nat.le_of_ble_eq_true rfl, Nat.le_of_ble_eq_true rfl⟩) ⟨px_blind0, fun U hU hW => ⟨rfl, trivial⟩⟩ rfl rfl hl.1 rfl (lv_room (Nat.le_of_ble_eq_true rfl)) dX7_textAt_8 ⟨(Nat.le_of_ble_eq_true rfl), (Nat.le_of_ble_eq_true rfl)⟩) (fun r8 er8 => ?_)
  obtain rfl := er8.symm
  refine pk_b (P := 0 ≤ v ∧ v ≤ x7) (fun b8 => ?_) (fun b8 => ?_)
  · exact absurd (by obtain rfl := ex7.symm; exact b8) hc
  · refine lv_if_eq (tgt := 33) hx hb dX7_textAt_11 (by decide) (fun c11 => ?_) (fun c11 => ?_)
    · refine lv_iconst (v := 0) hx hb dX7_textAt_33 (by decide) ?_
      refine lv_istore_n (lv' := [(3, .int 0), (0, .ref h0), (1, .int v), (2, .int v2)]) hx hb dX7_textAt_34 rfl hl (by decide) rfl (fun ls hl => ?_)
      refine lv_aload_n hx hb dX7_textAt_35 rfl (lv_at hl 1 rfl) ?_
      refine lv_iload_n hx hb dX7_textAt_36 rfl (lv_at hl 0 rfl) ?_
      refine lv_if_eq (tgt := 44) hx hb dX7_textAt_37 (by decide) (fun c37 => ?_) (fun c37 => ?_)
      · refine lv_iconst (v := 1) hx hb dX7_textAt_44 (by decide) ?_
        have hPc := hP.sub (ws' := [(h0, .inr (4, [.int th, .ref ow, .int re, .int (nI w), .int mt, .ref cl, .ref tu, .int (nI k), .ref lk, .ref f1, .ref s2, .ref ms, .ref nx, .ref bs, .int fd])), (ow, .inl (cJ, 3, .inr (.inl fo))), (cl, .inl (cI, 36, .inl cs)), (tu, .inl (cI, 36, .inl ts)), (lk, .inl (cJ, 3, .inr (.inl lo))), (f1, .inl (cJ, 6, .inr (.inl ff))), (s2, .inl (cJ, 6, .inr (.inl sf))), (ms, .inl (cI, 6, .inl mm)), (nx, .inl (cI, 6, .inl nf)), (bs, .inl (cI, 6, .inl bf))]) [0, 1, 2, 3, 4, 5, 6, 7, 8, 9] rfl
        have hDc := hD.sub (ws' := [(h0, .inr (4, [.int th, .ref ow, .int re, .int (nI w), .int mt, .ref cl, .ref tu, .int (nI k), .ref lk, .ref f1, .ref s2, .ref ms, .ref nx, .ref bs, .int fd])), (ow, .inl (cJ, 3, .inr (.inl fo))), (cl, .inl (cI, 36, .inl cs)), (tu, .inl (cI, 36, .inl ts)), (lk, .inl (cJ, 3, .inr (.inl lo))), (f1, .inl (cJ, 6, .inr (.inl ff))), (s2, .inl (cJ, 6, .inr (.inl sf))), (ms, .inl (cI, 6, .inl mm)), (nx, .inl (cI, 6, .inl nf)), (bs, .inl (cI, 6, .inl bf))]) [0, 1, 2, 3, 4, 5, 6, 7, 8, 9] (by decide) rfl
        have hFc := va_free (wc := [(h0, .inr (4, [.int th, .ref ow, .int re, .int (nI w), .int mt, .ref cl, .ref tu, .int (nI k), .ref lk, .ref f1, .ref s2, .ref ms, .ref nx, .ref bs, .int fd])), (ow, .inl (cJ, 3, .inr (.inl fo))), (cl, .inl (cI, 36, .inl cs)), (tu, .inl (cI, 36, .inl ts)), (lk, .inl (cJ, 3, .inr (.inl lo))), (f1, .inl (cJ, 6, .inr (.inl ff))), (s2, .inl (cJ, 6, .inr (.inl sf))), (ms, .inl (cI, 6, .inl mm)), (nx, .inl (cI, 6, .inl nf)), (bs, .inl (cI, 6, .inl bf))]) hD hS hA [0, 1, 2, 3, 4, 5, 6, 7, 8, 9] rfl
        refine va_calli (va_runV (As := [.int 1]) (rest := []) ⟨hx, hb, hml, hown, hts⟩ (c_X7_goesWell l D cI cJ s.heap.size  h0 ow cl tu lk f1 s2 ms nx bs th re mt fd w k fo lo ff sf cs ts mm nf bf 1) (cwV 1 hts gX7_textAt_X7_goesWell rfl rfl rfl (by decide +kernel) ⟨Nat.le_of_ble_eq_true rfl, Nat.le_of_ble_eq_true rfl⟩) ⟨pv_blind, va_recv hK hPc (ci := 4) (q0 := 0) rfl rfl, fun U hU hW => ⟨rfl, by rw [hU], by rw [hU]; exact hPc, va_K.moved hW.alike hK, hDc.weaken (fun _ _ _ _ => trivial)⟩⟩ rfl rfl hl.1 rfl (lv_room (Nat.le_of_ble_eq_true rfl)) dX7_textAt_45 ⟨(Nat.le_of_ble_eq_true rfl), (Nat.le_of_ble_eq_true rfl)⟩) hS (fun q _ h => hFc q h) hFc (fun r45 u t9 H1 locs hth hvm hw45 hB hz1 hk1 hS => ?_)
        try dsimp only at hw45
        obtain ⟨hP1, hK1, hD1⟩ := hB
        rw [hth] at hP1
        obtain ⟨hP, hD⟩ := va_join (wr := []) (w1 := [(h0, .inr (4, [.int 1, .ref ow, .int re, .int (nI w), .int mt, .ref cl, .ref tu, .int (nI k), .ref lk, .ref f1, .ref s2, .ref ms, .ref nx, .ref bs, .int fd])), (ow, .inl (cJ, 3, .inr (.inl fo))), (cl, .inl (cI, 36, .inl cs)), (tu, .inl (cI, 36, .inl ts)), (lk, .inl (cJ, 3, .inr (.inl lo))), (f1, .inl (cJ, 6, .inr (.inl ff))), (s2, .inl (cJ, 6, .inr (.inl sf))), (ms, .inl (cI, 6, .inl mm)), (nx, .inl (cI, 6, .inl nf)), (bs, .inl (cI, 6, .inl bf))]) hP hD [0, 1, 2, 3, 4, 5, 6, 7, 8, 9] [] rfl rfl (by decide) (by decide) hk1 hFc hP1 hD1
        generalize H1 = H at hP hS ⊢
        have hP : va_P D vwCl [(h0, .inr (4, [.int 1, .ref ow, .int re, .int (nI w), .int mt, .ref cl, .ref tu, .int (nI k), .ref lk, .ref f1, .ref s2, .ref ms, .ref nx, .ref bs, .int fd])), (ow, .inl (cJ, 3, .inr (.inl fo))), (cl, .inl (cI, 36, .inl cs)), (tu, .inl (cI, 36, .inl ts)), (lk, .inl (cJ, 3, .inr (.inl lo))), (f1, .inl (cJ, 6, .inr (.inl ff))), (s2, .inl (cJ, 6, .inr (.inl sf))), (ms, .inl (cI, 6, .inl mm)), (nx, .inl (cI, 6, .inl nf)), (bs, .inl (cI, 6, .inl bf))] H := hP.sub (ws' := [(h0, .inr (4, [.int 1, .ref ow, .int re, .int (nI w), .int mt, .ref cl, .ref tu, .int (nI k), .ref lk, .ref f1, .ref s2, .ref ms, .ref nx, .ref bs, .int fd])), (ow, .inl (cJ, 3, .inr (.inl fo))), (cl, .inl (cI, 36, .inl cs)), (tu, .inl (cI, 36, .inl ts)), (lk, .inl (cJ, 3, .inr (.inl lo))), (f1, .inl (cJ, 6, .inr (.inl ff))), (s2, .inl (cJ, 6, .inr (.inl sf))), (ms, .inl (cI, 6, .inl mm)), (nx, .inl (cI, 6, .inl nf)), (bs, .inl (cI, 6, .inl bf))]) [0, 1, 2, 3, 4, 5, 6, 7, 8, 9] rfl
        have hD : va_D A [(h0, .inr (4, [.int 1, .ref ow, .int re, .int (nI w), .int mt, .ref cl, .ref tu, .int (nI k), .ref lk, .ref f1, .ref s2, .ref ms, .ref nx, .ref bs, .int fd])), (ow, .inl (cJ, 3, .inr (.inl fo))), (cl, .inl (cI, 36, .inl cs)), (tu, .inl (cI, 36, .inl ts)), (lk, .inl (cJ, 3, .inr (.inl lo))), (f1, .inl (cJ, 6, .inr (.inl ff))), (s2, .inl (cJ, 6, .inr (.inl sf))), (ms, .inl (cI, 6, .inl mm)), (nx, .inl (cI, 6, .inl nf)), (bs, .inl (cI, 6, .inl bf))] := hD.sub (ws' := [(h0, .inr (4, [.int 1, .ref ow, .int re, .int (nI w), .int mt, .ref cl, .ref tu, .int (nI k), .ref lk, .ref f1, .ref s2, .ref ms, .ref nx, .ref bs, .int fd])), (ow, .inl (cJ, 3, .inr (.inl fo))), (cl, .inl (cI, 36, .inl cs)), (tu, .inl (cI, 36, .inl ts)), (lk, .inl (cJ, 3, .inr (.inl lo))), (f1, .inl (cJ, 6, .inr (.inl ff))), (s2, .inl (cJ, 6, .inr (.inl sf))), (ms, .inl (cI, 6, .inl mm)), (nx, .inl (cI, 6, .inl nf)), (bs, .inl (cI, 6, .inl bf))]) [0, 1, 2, 3, 4, 5, 6, 7, 8, 9] (by decide) rfl
        obtain rfl := hw45.symm
        refine pk_ti (y := 0) (if_neg (by decide)) ?_
        refine lv_if_ne (tgt := 54) hx hb dX7_textAt_48 (by decide) (fun c48 => ?_) (fun c48 => ?_)
        · exact absurd c48 (by decide)
        · refine lv_bipush (v := 32) hx hb dX7_textAt_51 (by decide) ?_
          obtain rfl := ex7.symm
          refine W.zret (v := 32) hx hb hr (rfl) (fun tt ht hW => ⟨⟨32, (), rfl, ?_, by rw [ht]; exact hP, va_K.moved hW.alike hK, hD⟩, hS.F ht⟩) hS.2.2 dX7_textAt_53
          exact rfl
      · exact absurd c37 (by decide)
    · exact absurd c11 (by decide)

set_option maxHeartbeats 400000 in
set_option maxRecDepth 100000 in
theorem c_X7_textAt_bad2 (l : Launch) (D : va_G) (cI cJ : ClassId) (sz : Nat) (h0 ow cl tu lk f1 s2 ms nx bs : Nat) (th re mt fd : Int32) (w k : Nat) (fo lo ff sf : Nat → Int64) (cs ts mm nf bf : Nat → Int32) (hk : k ≤ 36) (j : Nat) (v2 : Int32) (hj : j < k) (hc : ¬ (0 ≤ v2 ∧ v2 ≤ (if ts j = (-1) then (2 : Int32) else 4) - 1)) : Met l yX7_textAt wsX7_textAt ({ frames := 1, cells := 0, slots := 0, locals := 22 } : Room) (va_Pc [.ref h0, .int (nI j), .int v2] (pv_C D cI cJ [(h0, .inr (4, [.int th, .ref ow, .int re, .int (nI w), .int mt, .ref cl, .ref tu, .int (nI k), .ref lk, .ref f1, .ref s2, .ref ms, .ref nx, .ref bs, .int fd])), (ow, .inl (cJ, 3, .inr (.inl fo))), (cl, .inl (cI, 36, .inl cs)), (tu, .inl (cI, 36, .inl ts)), (lk, .inl (cJ, 3, .inr (.inl lo))), (f1, .inl (cJ, 6, .inr (.inl ff))), (s2, .inl (cJ, 6, .inr (.inl sf))), (ms, .inl (cI, 6, .inl mm)), (nx, .inl (cI, 6, .inl nf)), (bs, .inl (cI, 6, .inl bf))] sz)) (va_Qi (fun (r : Int32) (u : Unit) => r = 32) (fun (u : Unit) => pv_B D cI cJ (va_A [(h0, .inr (4, [.int th, .ref ow, .int re, .int (nI w), .int mt, .ref cl, .ref tu, .int (nI k), .ref lk, .ref f1, .ref s2, .ref ms, .ref nx, .ref bs, .int fd])), (ow, .inl (cJ, 3, .inr (.inl fo))), (cl, .inl (cI, 36, .inl cs)), (tu, .inl (cI, 36, .inl ts)), (lk, .inl (cJ, 3, .inr (.inl lo))), (f1, .inl (cJ, 6, .inr (.inl ff))), (s2, .inl (cJ, 6, .inr (.inl sf))), (ms, .inl (cI, 6, .inl mm)), (nx, .inl (cI, 6, .inl nf)), (bs, .inl (cI, 6, .inl bf))] sz) [(h0, .inr (4, [.int 1, .ref ow, .int re, .int (nI w), .int mt, .ref cl, .ref tu, .int (nI k), .ref lk, .ref f1, .ref s2, .ref ms, .ref nx, .ref bs, .int fd])), (ow, .inl (cJ, 3, .inr (.inl fo))), (cl, .inl (cI, 36, .inl cs)), (tu, .inl (cI, 36, .inl ts)), (lk, .inl (cJ, 3, .inr (.inl lo))), (f1, .inl (cJ, 6, .inr (.inl ff))), (s2, .inl (cJ, 6, .inr (.inl sf))), (ms, .inl (cI, 6, .inl mm)), (nx, .inl (cI, 6, .inl nf)), (bs, .inl (cI, 6, .inl bf))]) (va_A [(h0, .inr (4, [.int th, .ref ow, .int re, .int (nI w), .int mt, .ref cl, .ref tu, .int (nI k), .ref lk, .ref f1, .ref s2, .ref ms, .ref nx, .ref bs, .int fd])), (ow, .inl (cJ, 3, .inr (.inl fo))), (cl, .inl (cI, 36, .inl cs)), (tu, .inl (cI, 36, .inl ts)), (lk, .inl (cJ, 3, .inr (.inl lo))), (f1, .inl (cJ, 6, .inr (.inl ff))), (s2, .inl (cJ, 6, .inr (.inl sf))), (ms, .inl (cI, 6, .inl mm)), (nx, .inl (cI, 6, .inl nf)), (bs, .inl (cI, 6, .inl bf))] sz)) 0 0 (va_A [(h0, .inr (4, [.int th, .ref ow, .int re, .int (nI w), .int mt, .ref cl, .ref tu, .int (nI k), .ref lk, .ref f1, .ref s2, .ref ms, .ref nx, .ref bs, .int fd])), (ow, .inl (cJ, 3, .inr (.inl fo))), (cl, .inl (cI, 36, .inl cs)), (tu, .inl (cI, 36, .inl ts)), (lk, .inl (cJ, 3, .inr (.inl lo))), (f1, .inl (cJ, 6, .inr (.inl ff))), (s2, .inl (cJ, 6, .inr (.inl sf))), (ms, .inl (cI, 6, .inl mm)), (nx, .inl (cI, 6, .inl nf)), (bs, .inl (cI, 6, .inl bf))] sz) := by
  refine Met.ofW (cc := cX7_textAt) (maxL := 4) (ret := (some .char)) (by decide) rfl ?_
  intro p e s m args below meth c s₁ B hml hv
  obtain ⟨rfl, rfl, hP, hK, hD0⟩ := hv
  have hx := B.exec
  have hb := B.bytes
  have hr := B.returns
  have hts := atoms_spec (ws := wsX7_textAt) B.pre
  have hown : s.vm.findClass RX7 = some m.cls := findClass_of_methodNamed B.named
  have hlocks := B.notSynchronized
  have hD := hD0.self (sz := s.heap.size)
  generalize hAe : va_A [(h0, .inr (4, [.int th, .ref ow, .int re, .int (nI w), .int mt, .ref cl, .ref tu, .int (nI k), .ref lk, .ref f1, .ref s2, .ref ms, .ref nx, .ref bs, .int fd])), (ow, .inl (cJ, 3, .inr (.inl fo))), (cl, .inl (cI, 36, .inl cs)), (tu, .inl (cI, 36, .inl ts)), (lk, .inl (cJ, 3, .inr (.inl lo))), (f1, .inl (cJ, 6, .inr (.inl ff))), (s2, .inl (cJ, 6, .inr (.inl sf))), (ms, .inl (cI, 6, .inl mm)), (nx, .inl (cI, 6, .inl nf)), (bs, .inl (cI, 6, .inl bf))] s.heap.size = A at hD ⊢
  have hA : ∀ q : Nat, s.heap.size ≤ q → A q := fun q h => by rw [← hAe]; exact Or.inr h
  have hS : va_S A s.heap s.heap [] := va_S.rf
  have hinX7 : ∀ w ∈ wsX70, w ∈ wsX7_textAt := by decide +kernel
  have hfl83 : (Cond.fieldLink RX7 83 "TwistquadModel" "moves" "I").before ([.ref h0, .int (nI j), .int v2] : List Value).toArray s = true := hts _ (by decide +kernel)
  have hl := lv_entry ([.ref h0, .int (nI j), .int v2]) (n := 4) (Nat.le_of_ble_eq_true rfl)
  rw [lg_entry_eq]
  generalize (lg_sl ([.ref h0, .int (nI j), .int v2]) ++ List.replicate (4 - (lg_sl ([.ref h0, .int (nI j), .int v2])).length) Slot.unset).toArray = ls at hl ⊢
  have hl : lv_has ls 4 [(0, .ref h0), (1, .int (nI j)), (2, .int v2)] := hl
  refine lv_iload_n hx hb dX7_textAt_0 rfl (lv_at hl 1 rfl) ?_
  refine lv_iconst (v := 0) hx hb dX7_textAt_1 (by decide) ?_
  refine lv_aload_n hx hb dX7_textAt_2 rfl (lv_at hl 0 rfl) ?_
  refine va_get (D := D) (ci := 4) (v := .int (nI k)) (C := RX7) (T := TX7) (N := 15) hx hb hts hinX7 hown hK hP 0 rfl rfl 7 (by decide) hfl83 (fun _ h9 => h9) rfl dX7_textAt_3 ?_
  refine lv_iconst (v := 1) hx hb dX7_textAt_6 (by decide) ?_
  refine lv_isub hx hb dX7_textAt_7 ?_
  refine lv_topi (fun x7 ex7 => ?_)
  refine vp_callSi (W.runS (As := [.int (nI j), .int 0, .int x7]) (rest := []) ⟨hx, hb, hml, hown, hts⟩ (c_X7_in l (nI j) 0 x7) (va_cwS 3 hts gX7_textAt_X7_in rfl rfl rfl (by decide +kernel) ⟨Nat.le_of_ble_eq_true rfl, Nat.le_of_ble_eq_true rfl⟩) ⟨px_blind0, fun U hU hW => ⟨rfl, trivial⟩⟩ rfl rfl hl.1 rfl (lv_room (Nat.le_of_ble_eq_true rfl)) dX7_textAt_8 ⟨(Nat.le_of_ble_eq_true rfl), (Nat.le_of_ble_eq_true rfl)⟩) (fun r8 er8 => ?_)
  obtain rfl := er8.symm
  refine pk_b (P := 0 ≤ (nI j) ∧ (nI j) ≤ x7) (fun b8 => ?_) (fun b8 => ?_)
  · refine lv_if_eq (tgt := 33) hx hb dX7_textAt_11 (by decide) (fun c11 => ?_) (fun c11 => ?_)
    · exact absurd c11 (by decide)
    · refine lv_iload_n hx hb dX7_textAt_14 rfl (lv_at hl 2 rfl) ?_
      refine lv_iconst (v := 0) hx hb dX7_textAt_15 (by decide) ?_
      refine lv_aload_n hx hb dX7_textAt_16 rfl (lv_at hl 0 rfl) ?_
      refine lv_iload_n hx hb dX7_textAt_17 rfl (lv_at hl 1 rfl) ?_
      refine vp_callSi (W.runV (As := [.int (nI j)]) (rest := [.int 0, .int v2]) ⟨hx, hb, hml, hown, hts⟩ (c_X7_lengthOf l D cI cJ h0 ow cl tu lk f1 s2 ms nx bs th re mt fd w k fo lo ff sf cs ts mm nf bf j (by omega)) (cwV 1 hts gX7_textAt_X7_lengthOf rfl rfl rfl (by decide +kernel) ⟨Nat.le_of_ble_eq_true rfl, Nat.le_of_ble_eq_true rfl⟩) ⟨px_blindW, va_recv hK hP (ci := 4) (q0 := 0) rfl rfl, fun U hU hW => ⟨rfl, by rw [hU]; exact hP.sub (ws' := [(h0, .inr (4, [.int th, .ref ow, .int re, .int (nI w), .int mt, .ref cl, .ref tu, .int (nI k), .ref lk, .ref f1, .ref s2, .ref ms, .ref nx, .ref bs, .int fd])), (ow, .inl (cJ, 3, .inr (.inl fo))), (cl, .inl (cI, 36, .inl cs)), (tu, .inl (cI, 36, .inl ts)), (lk, .inl (cJ, 3, .inr (.inl lo))), (f1, .inl (cJ, 6, .inr (.inl ff))), (s2, .inl (cJ, 6, .inr (.inl sf))), (ms, .inl (cI, 6, .inl mm)), (nx, .inl (cI, 6, .inl nf)), (bs, .inl (cI, 6, .inl bf))]) [0, 1, 2, 3, 4, 5, 6, 7, 8, 9] rfl, va_K.moved hW.alike hK⟩⟩ rfl rfl hl.1 rfl (lv_room (Nat.le_of_ble_eq_true rfl)) dX7_textAt_18 ⟨(Nat.le_of_ble_eq_true rfl), (Nat.le_of_ble_eq_true rfl)⟩) (fun r18 er18 => ?_)
      obtain rfl := er18.symm
      refine lv_iconst (v := 1) hx hb dX7_textAt_21 (by decide) ?_
      refine lv_isub hx hb dX7_textAt_22 ?_
      refine lv_topi (fun x22 ex22 => ?_)
      refine vp_callSi (W.runS (As := [.int v2, .int 0, .int x22]) (rest := []) ⟨hx, hb, hml, hown, hts⟩ (c_X7_in l v2 0 x22) (va_cwS 3 hts gX7_textAt_X7_in rfl rfl rfl (by decide +kernel) ⟨Nat.le_of_ble_eq_true rfl, Nat.le_of_ble_eq_true rfl⟩) ⟨px_blind0, fun U hU hW => ⟨rfl, trivial⟩⟩ rfl rfl hl.1 rfl (lv_room (Nat.le_of_ble_eq_true rfl)) dX7_textAt_23 ⟨(Nat.le_of_ble_eq_true rfl), (Nat.le_of_ble_eq_true rfl)⟩) (fun r23 er23 => ?_)
      obtain rfl := er23.symm
      refine pk_b (P := 0 ≤ v2 ∧ v2 ≤ x22) (fun b23 => ?_) (fun b23 => ?_)
      · exact absurd (by obtain rfl := ex7.symm; obtain rfl := ex22.symm; exact b23) hc
      · refine lv_if_eq (tgt := 33) hx hb dX7_textAt_26 (by decide) (fun c26 => ?_) (fun c26 => ?_)
        · refine lv_iconst (v := 0) hx hb dX7_textAt_33 (by decide) ?_
          refine lv_istore_n (lv' := [(3, .int 0), (0, .ref h0), (1, .int (nI j)), (2, .int v2)]) hx hb dX7_textAt_34 rfl hl (by decide) rfl (fun ls hl => ?_)
          refine lv_aload_n hx hb dX7_textAt_35 rfl (lv_at hl 1 rfl) ?_
          refine lv_iload_n hx hb dX7_textAt_36 rfl (lv_at hl 0 rfl) ?_
          refine lv_if_eq (tgt := 44) hx hb dX7_textAt_37 (by decide) (fun c37 => ?_) (fun c37 => ?_)
          · refine lv_iconst (v := 1) hx hb dX7_textAt_44 (by decide) ?_
            have hPc := hP.sub (ws' := [(h0, .inr (4, [.int th, .ref ow, .int re, .int (nI w), .int mt, .ref cl, .ref tu, .int (nI k), .ref lk, .ref f1, .ref s2, .ref ms, .ref nx, .ref bs, .int fd])), (ow, .inl (cJ, 3, .inr (.inl fo))), (cl, .inl (cI, 36, .inl cs)), (tu, .inl (cI, 36, .inl ts)), (lk, .inl (cJ, 3, .inr (.inl lo))), (f1, .inl (cJ, 6, .inr (.inl ff))), (s2, .inl (cJ, 6, .inr (.inl sf))), (ms, .inl (cI, 6, .inl mm)), (nx, .inl (cI, 6, .inl nf)), (bs, .inl (cI, 6, .inl bf))]) [0, 1, 2, 3, 4, 5, 6, 7, 8, 9] rfl
            have hDc := hD.sub (ws' := [(h0, .inr (4, [.int th, .ref ow, .int re, .int (nI w), .int mt, .ref cl, .ref tu, .int (nI k), .ref lk, .ref f1, .ref s2, .ref ms, .ref nx, .ref bs, .int fd])), (ow, .inl (cJ, 3, .inr (.inl fo))), (cl, .inl (cI, 36, .inl cs)), (tu, .inl (cI, 36, .inl ts)), (lk, .inl (cJ, 3, .inr (.inl lo))), (f1, .inl (cJ, 6, .inr (.inl ff))), (s2, .inl (cJ, 6, .inr (.inl sf))), (ms, .inl (cI, 6, .inl mm)), (nx, .inl (cI, 6, .inl nf)), (bs, .inl (cI, 6, .inl bf))]) [0, 1, 2, 3, 4, 5, 6, 7, 8, 9] (by decide) rfl
            have hFc := va_free (wc := [(h0, .inr (4, [.int th, .ref ow, .int re, .int (nI w), .int mt, .ref cl, .ref tu, .int (nI k), .ref lk, .ref f1, .ref s2, .ref ms, .ref nx, .ref bs, .int fd])), (ow, .inl (cJ, 3, .inr (.inl fo))), (cl, .inl (cI, 36, .inl cs)), (tu, .inl (cI, 36, .inl ts)), (lk, .inl (cJ, 3, .inr (.inl lo))), (f1, .inl (cJ, 6, .inr (.inl ff))), (s2, .inl (cJ, 6, .inr (.inl sf))), (ms, .inl (cI, 6, .inl mm)), (nx, .inl (cI, 6, .inl nf)), (bs, .inl (cI, 6, .inl bf))]) hD hS hA [0, 1, 2, 3, 4, 5, 6, 7, 8, 9] rfl
            refine va_calli (va_runV (As := [.int 1]) (rest := []) ⟨hx, hb, hml, hown, hts⟩ (c_X7_goesWell l D cI cJ s.heap.size  h0 ow cl tu lk f1 s2 ms nx bs th re mt fd w k fo lo ff sf cs ts mm nf bf 1) (cwV 1 hts gX7_textAt_X7_goesWell rfl rfl rfl (by decide +kernel) ⟨Nat.le_of_ble_eq_true rfl, Nat.le_of_ble_eq_true rfl⟩) ⟨pv_blind, va_recv hK hPc (ci := 4) (q0 := 0) rfl rfl, fun U hU hW => ⟨rfl, by rw [hU], by rw [hU]; exact hPc, va_K.moved hW.alike hK, hDc.weaken (fun _ _ _ _ => trivial)⟩⟩ rfl rfl hl.1 rfl (lv_room (Nat.le_of_ble_eq_true rfl)) dX7_textAt_45 ⟨(Nat.le_of_ble_eq_true rfl), (Nat.le_of_ble_eq_true rfl)⟩) hS (fun q _ h => hFc q h) hFc (fun r45 u t9 H1 locs hth hvm hw45 hB hz1 hk1 hS => ?_)
            try dsimp only at hw45
            obtain ⟨hP1, hK1, hD1⟩ := hB
            rw [hth] at hP1
            obtain ⟨hP, hD⟩ := va_join (wr := []) (w1 := [(h0, .inr (4, [.int 1, .ref ow, .int re, .int (nI w), .int mt, .ref cl, .ref tu, .int (nI k), .ref lk, .ref f1, .ref s2, .ref ms, .ref nx, .ref bs, .int fd])), (ow, .inl (cJ, 3, .inr (.inl fo))), (cl, .inl (cI, 36, .inl cs)), (tu, .inl (cI, 36, .inl ts)), (lk, .inl (cJ, 3, .inr (.inl lo))), (f1, .inl (cJ, 6, .inr (.inl ff))), (s2, .inl (cJ, 6, .inr (.inl sf))), (ms, .inl (cI, 6, .inl mm)), (nx, .inl (cI, 6, .inl nf)), (bs, .inl (cI, 6, .inl bf))]) hP hD [0, 1, 2, 3, 4, 5, 6, 7, 8, 9] [] rfl rfl (by decide) (by decide) hk1 hFc hP1 hD1
            generalize H1 = H at hP hS ⊢
            have hP : va_P D vwCl [(h0, .inr (4, [.int 1, .ref ow, .int re, .int (nI w), .int mt, .ref cl, .ref tu, .int (nI k), .ref lk, .ref f1, .ref s2, .ref ms, .ref nx, .ref bs, .int fd])), (ow, .inl (cJ, 3, .inr (.inl fo))), (cl, .inl (cI, 36, .inl cs)), (tu, .inl (cI, 36, .inl ts)), (lk, .inl (cJ, 3, .inr (.inl lo))), (f1, .inl (cJ, 6, .inr (.inl ff))), (s2, .inl (cJ, 6, .inr (.inl sf))), (ms, .inl (cI, 6, .inl mm)), (nx, .inl (cI, 6, .inl nf)), (bs, .inl (cI, 6, .inl bf))] H := hP.sub (ws' := [(h0, .inr (4, [.int 1, .ref ow, .int re, .int (nI w), .int mt, .ref cl, .ref tu, .int (nI k), .ref lk, .ref f1, .ref s2, .ref ms, .ref nx, .ref bs, .int fd])), (ow, .inl (cJ, 3, .inr (.inl fo))), (cl, .inl (cI, 36, .inl cs)), (tu, .inl (cI, 36, .inl ts)), (lk, .inl (cJ, 3, .inr (.inl lo))), (f1, .inl (cJ, 6, .inr (.inl ff))), (s2, .inl (cJ, 6, .inr (.inl sf))), (ms, .inl (cI, 6, .inl mm)), (nx, .inl (cI, 6, .inl nf)), (bs, .inl (cI, 6, .inl bf))]) [0, 1, 2, 3, 4, 5, 6, 7, 8, 9] rfl
            have hD : va_D A [(h0, .inr (4, [.int 1, .ref ow, .int re, .int (nI w), .int mt, .ref cl, .ref tu, .int (nI k), .ref lk, .ref f1, .ref s2, .ref ms, .ref nx, .ref bs, .int fd])), (ow, .inl (cJ, 3, .inr (.inl fo))), (cl, .inl (cI, 36, .inl cs)), (tu, .inl (cI, 36, .inl ts)), (lk, .inl (cJ, 3, .inr (.inl lo))), (f1, .inl (cJ, 6, .inr (.inl ff))), (s2, .inl (cJ, 6, .inr (.inl sf))), (ms, .inl (cI, 6, .inl mm)), (nx, .inl (cI, 6, .inl nf)), (bs, .inl (cI, 6, .inl bf))] := hD.sub (ws' := [(h0, .inr (4, [.int 1, .ref ow, .int re, .int (nI w), .int mt, .ref cl, .ref tu, .int (nI k), .ref lk, .ref f1, .ref s2, .ref ms, .ref nx, .ref bs, .int fd])), (ow, .inl (cJ, 3, .inr (.inl fo))), (cl, .inl (cI, 36, .inl cs)), (tu, .inl (cI, 36, .inl ts)), (lk, .inl (cJ, 3, .inr (.inl lo))), (f1, .inl (cJ, 6, .inr (.inl ff))), (s2, .inl (cJ, 6, .inr (.inl sf))), (ms, .inl (cI, 6, .inl mm)), (nx, .inl (cI, 6, .inl nf)), (bs, .inl (cI, 6, .inl bf))]) [0, 1, 2, 3, 4, 5, 6, 7, 8, 9] (by decide) rfl
            obtain rfl := hw45.symm
            refine pk_ti (y := 0) (if_neg (by decide)) ?_
            refine lv_if_ne (tgt := 54) hx hb dX7_textAt_48 (by decide) (fun c48 => ?_) (fun c48 => ?_)
            · exact absurd c48 (by decide)
            · refine lv_bipush (v := 32) hx hb dX7_textAt_51 (by decide) ?_
              obtain rfl := ex7.symm; obtain rfl := ex22.symm
              refine W.zret (v := 32) hx hb hr (rfl) (fun tt ht hW => ⟨⟨32, (), rfl, ?_, by rw [ht]; exact hP, va_K.moved hW.alike hK, hD⟩, hS.F ht⟩) hS.2.2 dX7_textAt_53
              exact rfl
          · exact absurd c37 (by decide)
        · exact absurd c26 (by decide)
  · exact absurd (by obtain rfl := ex7.symm; exact mv_in1 hj hk) b8

set_option maxHeartbeats 400000 in
set_option maxRecDepth 100000 in
theorem c_X7_textAt_ok0 (l : Launch) (D : va_G) (cI cJ : ClassId) (sz : Nat) (h0 ow cl tu lk f1 s2 ms nx bs : Nat) (th re mt fd : Int32) (w k : Nat) (fo lo ff sf : Nat → Int64) (cs ts mm nf bf : Nat → Int32) (hk : k ≤ 36) (j : Nat) (hj : j < k) : Met l yX7_textAt wsX7_textAt ({ frames := 1, cells := 0, slots := 0, locals := 22 } : Room) (va_Pc [.ref h0, .int (nI j), .int 0] (pv_C D cI cJ [(h0, .inr (4, [.int th, .ref ow, .int re, .int (nI w), .int mt, .ref cl, .ref tu, .int (nI k), .ref lk, .ref f1, .ref s2, .ref ms, .ref nx, .ref bs, .int fd])), (ow, .inl (cJ, 3, .inr (.inl fo))), (cl, .inl (cI, 36, .inl cs)), (tu, .inl (cI, 36, .inl ts)), (lk, .inl (cJ, 3, .inr (.inl lo))), (f1, .inl (cJ, 6, .inr (.inl ff))), (s2, .inl (cJ, 6, .inr (.inl sf))), (ms, .inl (cI, 6, .inl mm)), (nx, .inl (cI, 6, .inl nf)), (bs, .inl (cI, 6, .inl bf))] sz)) (va_Qi (fun (r : Int32) (u : Unit) => r = ji2c (97 + (cs j - cs j / 6 * 6))) (fun (u : Unit) => pv_B D cI cJ (va_A [(h0, .inr (4, [.int th, .ref ow, .int re, .int (nI w), .int mt, .ref cl, .ref tu, .int (nI k), .ref lk, .ref f1, .ref s2, .ref ms, .ref nx, .ref bs, .int fd])), (ow, .inl (cJ, 3, .inr (.inl fo))), (cl, .inl (cI, 36, .inl cs)), (tu, .inl (cI, 36, .inl ts)), (lk, .inl (cJ, 3, .inr (.inl lo))), (f1, .inl (cJ, 6, .inr (.inl ff))), (s2, .inl (cJ, 6, .inr (.inl sf))), (ms, .inl (cI, 6, .inl mm)), (nx, .inl (cI, 6, .inl nf)), (bs, .inl (cI, 6, .inl bf))] sz) [(h0, .inr (4, [.int 0, .ref ow, .int re, .int (nI w), .int mt, .ref cl, .ref tu, .int (nI k), .ref lk, .ref f1, .ref s2, .ref ms, .ref nx, .ref bs, .int fd])), (ow, .inl (cJ, 3, .inr (.inl fo))), (cl, .inl (cI, 36, .inl cs)), (tu, .inl (cI, 36, .inl ts)), (lk, .inl (cJ, 3, .inr (.inl lo))), (f1, .inl (cJ, 6, .inr (.inl ff))), (s2, .inl (cJ, 6, .inr (.inl sf))), (ms, .inl (cI, 6, .inl mm)), (nx, .inl (cI, 6, .inl nf)), (bs, .inl (cI, 6, .inl bf))]) (va_A [(h0, .inr (4, [.int th, .ref ow, .int re, .int (nI w), .int mt, .ref cl, .ref tu, .int (nI k), .ref lk, .ref f1, .ref s2, .ref ms, .ref nx, .ref bs, .int fd])), (ow, .inl (cJ, 3, .inr (.inl fo))), (cl, .inl (cI, 36, .inl cs)), (tu, .inl (cI, 36, .inl ts)), (lk, .inl (cJ, 3, .inr (.inl lo))), (f1, .inl (cJ, 6, .inr (.inl ff))), (s2, .inl (cJ, 6, .inr (.inl sf))), (ms, .inl (cI, 6, .inl mm)), (nx, .inl (cI, 6, .inl nf)), (bs, .inl (cI, 6, .inl bf))] sz)) 0 0 (va_A [(h0, .inr (4, [.int th, .ref ow, .int re, .int (nI w), .int mt, .ref cl, .ref tu, .int (nI k), .ref lk, .ref f1, .ref s2, .ref ms, .ref nx, .ref bs, .int fd])), (ow, .inl (cJ, 3, .inr (.inl fo))), (cl, .inl (cI, 36, .inl cs)), (tu, .inl (cI, 36, .inl ts)), (lk, .inl (cJ, 3, .inr (.inl lo))), (f1, .inl (cJ, 6, .inr (.inl ff))), (s2, .inl (cJ, 6, .inr (.inl sf))), (ms, .inl (cI, 6, .inl mm)), (nx, .inl (cI, 6, .inl nf)), (bs, .inl (cI, 6, .inl bf))] sz) := by
  refine Met.ofW (cc := cX7_textAt) (maxL := 4) (ret := (some .char)) (by decide) rfl ?_
  intro p e s m args below meth c s₁ B hml hv
  obtain ⟨rfl, rfl, hP, hK, hD0⟩ := hv
  have hx := B.exec
  have hb := B.bytes
  have hr := B.returns
  have hts := atoms_spec (ws := wsX7_textAt) B.pre
  have hown : s.vm.findClass RX7 = some m.cls := findClass_of_methodNamed B.named
  have hlocks := B.notSynchronized
  have hD := hD0.self (sz := s.heap.size)
  generalize hAe : va_A [(h0, .inr (4, [.int th, .ref ow, .int re, .int (nI w), .int mt, .ref cl, .ref tu, .int (nI k), .ref lk, .ref f1, .ref s2, .ref ms, .ref nx, .ref bs, .int fd])), (ow, .inl (cJ, 3, .inr (.inl fo))), (cl, .inl (cI, 36, .inl cs)), (tu, .inl (cI, 36, .inl ts)), (lk, .inl (cJ, 3, .inr (.inl lo))), (f1, .inl (cJ, 6, .inr (.inl ff))), (s2, .inl (cJ, 6, .inr (.inl sf))), (ms, .inl (cI, 6, .inl mm)), (nx, .inl (cI, 6, .inl nf)), (bs, .inl (cI, 6, .inl bf))] s.heap.size = A at hD ⊢
  have hA : ∀ q : Nat, s.heap.size ≤ q → A q := fun q h => by rw [← hAe]; exact Or.inr h
  have hS : va_S A s.heap s.heap [] := va_S.rf
  have hinX7 : ∀ w ∈ wsX70, w ∈ wsX7_textAt := by decide +kernel
  have hfl83 : (Cond.fieldLink RX7 83 "TwistquadModel" "moves" "I").before ([.ref h0, .int (nI j), .int 0] : List Value).toArray s = true := hts _ (by decide +kernel)
  have hfl17 : (Cond.fieldLink RX7 17 "TwistquadModel" "cells" "[I").before ([.ref h0, .int (nI j), .int 0] : List Value).toArray s = true := hts _ (by decide +kernel)
  have hl := lv_entry ([.ref h0, .int (nI j), .int 0]) (n := 4) (Nat.le_of_ble_eq_true rfl)
  rw [lg_entry_eq]
  generalize (lg_sl ([.ref h0, .int (nI j), .int 0]) ++ List.replicate (4 - (lg_sl ([.ref h0, .int (nI j), .int 0])).length) Slot.unset).toArray = ls at hl ⊢
  have hl : lv_has ls 4 [(0, .ref h0), (1, .int (nI j)), (2, .int 0)] := hl
  refine lv_iload_n hx hb dX7_textAt_0 rfl (lv_at hl 1 rfl) ?_
  refine lv_iconst (v := 0) hx hb dX7_textAt_1 (by decide) ?_
  refine lv_aload_n hx hb dX7_textAt_2 rfl (lv_at hl 0 rfl) ?_
  refine va_get (D := D) (ci := 4) (v := .int (nI k)) (C := RX7) (T := TX7) (N := 15) hx hb hts hinX7 hown hK hP 0 rfl rfl 7 (by decide) hfl83 (fun _ h9 => h9) rfl dX7_textAt_3 ?_
  refine lv_iconst (v := 1) hx hb dX7_textAt_6 (by decide) ?_
  refine lv_isub hx hb dX7_textAt_7 ?_
  refine lv_topi (fun x7 ex7 => ?_)
  refine vp_callSi (W.runS (As := [.int (nI j), .int 0, .int x7]) (rest := []) ⟨hx, hb, hml, hown, hts⟩ (c_X7_in l (nI j) 0 x7) (va_cwS 3 hts gX7_textAt_X7_in rfl rfl rfl (by decide +kernel) ⟨Nat.le_of_ble_eq_true rfl, Nat.le_of_ble_eq_true rfl⟩) ⟨px_blind0, fun U hU hW => ⟨rfl, trivial⟩⟩ rfl rfl hl.1 rfl (lv_room (Nat.le_of_ble_eq_true rfl)) dX7_textAt_8 ⟨(Nat.le_of_ble_eq_true rfl), (Nat.le_of_ble_eq_true rfl)⟩) (fun r8 er8 => ?_)
  obtain rfl := er8.symm
  refine pk_b (P := 0 ≤ (nI j) ∧ (nI j) ≤ x7) (fun b8 => ?_) (fun b8 => ?_)
  · refine lv_if_eq (tgt := 33) hx hb dX7_textAt_11 (by decide) (fun c11 => ?_) (fun c11 => ?_)
    · exact absurd c11 (by decide)
    · refine lv_iload_n hx hb dX7_textAt_14 rfl (lv_at hl 2 rfl) ?_
      refine lv_iconst (v := 0) hx hb dX7_textAt_15 (by decide) ?_
      refine lv_aload_n hx hb dX7_textAt_16 rfl (lv_at hl 0 rfl) ?_
      refine lv_iload_n hx hb dX7_textAt_17 rfl (lv_at hl 1 rfl) ?_
      refine vp_callSi (W.runV (As := [.int (nI j)]) (rest := [.int 0, .int 0]) ⟨hx, hb, hml, hown, hts⟩ (c_X7_lengthOf l D cI cJ h0 ow cl tu lk f1 s2 ms nx bs th re mt fd w k fo lo ff sf cs ts mm nf bf j (by omega)) (cwV 1 hts gX7_textAt_X7_lengthOf rfl rfl rfl (by decide +kernel) ⟨Nat.le_of_ble_eq_true rfl, Nat.le_of_ble_eq_true rfl⟩) ⟨px_blindW, va_recv hK hP (ci := 4) (q0 := 0) rfl rfl, fun U hU hW => ⟨rfl, by rw [hU]; exact hP.sub (ws' := [(h0, .inr (4, [.int th, .ref ow, .int re, .int (nI w), .int mt, .ref cl, .ref tu, .int (nI k), .ref lk, .ref f1, .ref s2, .ref ms, .ref nx, .ref bs, .int fd])), (ow, .inl (cJ, 3, .inr (.inl fo))), (cl, .inl (cI, 36, .inl cs)), (tu, .inl (cI, 36, .inl ts)), (lk, .inl (cJ, 3, .inr (.inl lo))), (f1, .inl (cJ, 6, .inr (.inl ff))), (s2, .inl (cJ, 6, .inr (.inl sf))), (ms, .inl (cI, 6, .inl mm)), (nx, .inl (cI, 6, .inl nf)), (bs, .inl (cI, 6, .inl bf))]) [0, 1, 2, 3, 4, 5, 6, 7, 8, 9] rfl, va_K.moved hW.alike hK⟩⟩ rfl rfl hl.1 rfl (lv_room (Nat.le_of_ble_eq_true rfl)) dX7_textAt_18 ⟨(Nat.le_of_ble_eq_true rfl), (Nat.le_of_ble_eq_true rfl)⟩) (fun r18 er18 => ?_)
      obtain rfl := er18.symm
      refine lv_iconst (v := 1) hx hb dX7_textAt_21 (by decide) ?_
      refine lv_isub hx hb dX7_textAt_22 ?_
      refine lv_topi (fun x22 ex22 => ?_)
      refine vp_callSi (W.runS (As := [.int 0, .int 0, .int x22]) (rest := []) ⟨hx, hb, hml, hown, hts⟩ (c_X7_in l 0 0 x22) (va_cwS 3 hts gX7_textAt_X7_in rfl rfl rfl (by decide +kernel) ⟨Nat.le_of_ble_eq_true rfl, Nat.le_of_ble_eq_true rfl⟩) ⟨px_blind0, fun U hU hW => ⟨rfl, trivial⟩⟩ rfl rfl hl.1 rfl (lv_room (Nat.le_of_ble_eq_true rfl)) dX7_textAt_23 ⟨(Nat.le_of_ble_eq_true rfl), (Nat.le_of_ble_eq_true rfl)⟩) (fun r23 er23 => ?_)
      obtain rfl := er23.symm
      refine pk_b (P := 0 ≤ 0 ∧ 0 ≤ x22) (fun b23 => ?_) (fun b23 => ?_)
      · refine lv_if_eq (tgt := 33) hx hb dX7_textAt_26 (by decide) (fun c26 => ?_) (fun c26 => ?_)
        · exact absurd c26 (by decide)
        · refine lv_iconst (v := 1) hx hb dX7_textAt_29 (by decide) ?_
          refine lv_goto (tgt := 34) hx hb dX7_textAt_30 (by decide) ?_
          refine lv_istore_n (lv' := [(3, .int 1), (0, .ref h0), (1, .int (nI j)), (2, .int 0)]) hx hb dX7_textAt_34 rfl hl (by decide) rfl (fun ls hl => ?_)
          refine lv_aload_n hx hb dX7_textAt_35 rfl (lv_at hl 1 rfl) ?_
          refine lv_iload_n hx hb dX7_textAt_36 rfl (lv_at hl 0 rfl) ?_
          refine lv_if_eq (tgt := 44) hx hb dX7_textAt_37 (by decide) (fun c37 => ?_) (fun c37 => ?_)
          · exact absurd c37 (by decide)
          · refine lv_iconst (v := 0) hx hb dX7_textAt_40 (by decide) ?_
            refine lv_goto (tgt := 45) hx hb dX7_textAt_41 (by decide) ?_
            have hPc := hP.sub (ws' := [(h0, .inr (4, [.int th, .ref ow, .int re, .int (nI w), .int mt, .ref cl, .ref tu, .int (nI k), .ref lk, .ref f1, .ref s2, .ref ms, .ref nx, .ref bs, .int fd])), (ow, .inl (cJ, 3, .inr (.inl fo))), (cl, .inl (cI, 36, .inl cs)), (tu, .inl (cI, 36, .inl ts)), (lk, .inl (cJ, 3, .inr (.inl lo))), (f1, .inl (cJ, 6, .inr (.inl ff))), (s2, .inl (cJ, 6, .inr (.inl sf))), (ms, .inl (cI, 6, .inl mm)), (nx, .inl (cI, 6, .inl nf)), (bs, .inl (cI, 6, .inl bf))]) [0, 1, 2, 3, 4, 5, 6, 7, 8, 9] rfl
            have hDc := hD.sub (ws' := [(h0, .inr (4, [.int th, .ref ow, .int re, .int (nI w), .int mt, .ref cl, .ref tu, .int (nI k), .ref lk, .ref f1, .ref s2, .ref ms, .ref nx, .ref bs, .int fd])), (ow, .inl (cJ, 3, .inr (.inl fo))), (cl, .inl (cI, 36, .inl cs)), (tu, .inl (cI, 36, .inl ts)), (lk, .inl (cJ, 3, .inr (.inl lo))), (f1, .inl (cJ, 6, .inr (.inl ff))), (s2, .inl (cJ, 6, .inr (.inl sf))), (ms, .inl (cI, 6, .inl mm)), (nx, .inl (cI, 6, .inl nf)), (bs, .inl (cI, 6, .inl bf))]) [0, 1, 2, 3, 4, 5, 6, 7, 8, 9] (by decide) rfl
            have hFc := va_free (wc := [(h0, .inr (4, [.int th, .ref ow, .int re, .int (nI w), .int mt, .ref cl, .ref tu, .int (nI k), .ref lk, .ref f1, .ref s2, .ref ms, .ref nx, .ref bs, .int fd])), (ow, .inl (cJ, 3, .inr (.inl fo))), (cl, .inl (cI, 36, .inl cs)), (tu, .inl (cI, 36, .inl ts)), (lk, .inl (cJ, 3, .inr (.inl lo))), (f1, .inl (cJ, 6, .inr (.inl ff))), (s2, .inl (cJ, 6, .inr (.inl sf))), (ms, .inl (cI, 6, .inl mm)), (nx, .inl (cI, 6, .inl nf)), (bs, .inl (cI, 6, .inl bf))]) hD hS hA [0, 1, 2, 3, 4, 5, 6, 7, 8, 9] rfl
            refine va_calli (va_runV (As := [.int 0]) (rest := []) ⟨hx, hb, hml, hown, hts⟩ (c_X7_goesWell l D cI cJ s.heap.size  h0 ow cl tu lk f1 s2 ms nx bs th re mt fd w k fo lo ff sf cs ts mm nf bf 0) (cwV 1 hts gX7_textAt_X7_goesWell rfl rfl rfl (by decide +kernel) ⟨Nat.le_of_ble_eq_true rfl, Nat.le_of_ble_eq_true rfl⟩) ⟨pv_blind, va_recv hK hPc (ci := 4) (q0 := 0) rfl rfl, fun U hU hW => ⟨rfl, by rw [hU], by rw [hU]; exact hPc, va_K.moved hW.alike hK, hDc.weaken (fun _ _ _ _ => trivial)⟩⟩ rfl rfl hl.1 rfl (lv_room (Nat.le_of_ble_eq_true rfl)) dX7_textAt_45 ⟨(Nat.le_of_ble_eq_true rfl), (Nat.le_of_ble_eq_true rfl)⟩) hS (fun q _ h => hFc q h) hFc (fun r45 u t9 H1 locs hth hvm hw45 hB hz1 hk1 hS => ?_)
            try dsimp only at hw45
            obtain ⟨hP1, hK1, hD1⟩ := hB
            rw [hth] at hP1
            obtain ⟨hP, hD⟩ := va_join (wr := []) (w1 := [(h0, .inr (4, [.int 0, .ref ow, .int re, .int (nI w), .int mt, .ref cl, .ref tu, .int (nI k), .ref lk, .ref f1, .ref s2, .ref ms, .ref nx, .ref bs, .int fd])), (ow, .inl (cJ, 3, .inr (.inl fo))), (cl, .inl (cI, 36, .inl cs)), (tu, .inl (cI, 36, .inl ts)), (lk, .inl (cJ, 3, .inr (.inl lo))), (f1, .inl (cJ, 6, .inr (.inl ff))), (s2, .inl (cJ, 6, .inr (.inl sf))), (ms, .inl (cI, 6, .inl mm)), (nx, .inl (cI, 6, .inl nf)), (bs, .inl (cI, 6, .inl bf))]) hP hD [0, 1, 2, 3, 4, 5, 6, 7, 8, 9] [] rfl rfl (by decide) (by decide) hk1 hFc hP1 hD1
            generalize H1 = H at hP hS ⊢
            have hP : va_P D vwCl [(h0, .inr (4, [.int 0, .ref ow, .int re, .int (nI w), .int mt, .ref cl, .ref tu, .int (nI k), .ref lk, .ref f1, .ref s2, .ref ms, .ref nx, .ref bs, .int fd])), (ow, .inl (cJ, 3, .inr (.inl fo))), (cl, .inl (cI, 36, .inl cs)), (tu, .inl (cI, 36, .inl ts)), (lk, .inl (cJ, 3, .inr (.inl lo))), (f1, .inl (cJ, 6, .inr (.inl ff))), (s2, .inl (cJ, 6, .inr (.inl sf))), (ms, .inl (cI, 6, .inl mm)), (nx, .inl (cI, 6, .inl nf)), (bs, .inl (cI, 6, .inl bf))] H := hP.sub (ws' := [(h0, .inr (4, [.int 0, .ref ow, .int re, .int (nI w), .int mt, .ref cl, .ref tu, .int (nI k), .ref lk, .ref f1, .ref s2, .ref ms, .ref nx, .ref bs, .int fd])), (ow, .inl (cJ, 3, .inr (.inl fo))), (cl, .inl (cI, 36, .inl cs)), (tu, .inl (cI, 36, .inl ts)), (lk, .inl (cJ, 3, .inr (.inl lo))), (f1, .inl (cJ, 6, .inr (.inl ff))), (s2, .inl (cJ, 6, .inr (.inl sf))), (ms, .inl (cI, 6, .inl mm)), (nx, .inl (cI, 6, .inl nf)), (bs, .inl (cI, 6, .inl bf))]) [0, 1, 2, 3, 4, 5, 6, 7, 8, 9] rfl
            have hD : va_D A [(h0, .inr (4, [.int 0, .ref ow, .int re, .int (nI w), .int mt, .ref cl, .ref tu, .int (nI k), .ref lk, .ref f1, .ref s2, .ref ms, .ref nx, .ref bs, .int fd])), (ow, .inl (cJ, 3, .inr (.inl fo))), (cl, .inl (cI, 36, .inl cs)), (tu, .inl (cI, 36, .inl ts)), (lk, .inl (cJ, 3, .inr (.inl lo))), (f1, .inl (cJ, 6, .inr (.inl ff))), (s2, .inl (cJ, 6, .inr (.inl sf))), (ms, .inl (cI, 6, .inl mm)), (nx, .inl (cI, 6, .inl nf)), (bs, .inl (cI, 6, .inl bf))] := hD.sub (ws' := [(h0, .inr (4, [.int 0, .ref ow, .int re, .int (nI w), .int mt, .ref cl, .ref tu, .int (nI k), .ref lk, .ref f1, .ref s2, .ref ms, .ref nx, .ref bs, .int fd])), (ow, .inl (cJ, 3, .inr (.inl fo))), (cl, .inl (cI, 36, .inl cs)), (tu, .inl (cI, 36, .inl ts)), (lk, .inl (cJ, 3, .inr (.inl lo))), (f1, .inl (cJ, 6, .inr (.inl ff))), (s2, .inl (cJ, 6, .inr (.inl sf))), (ms, .inl (cI, 6, .inl mm)), (nx, .inl (cI, 6, .inl nf)), (bs, .inl (cI, 6, .inl bf))]) [0, 1, 2, 3, 4, 5, 6, 7, 8, 9] (by decide) rfl
            obtain rfl := hw45.symm
            refine pk_ti (y := 1) (if_pos (by decide)) ?_
            refine lv_if_ne (tgt := 54) hx hb dX7_textAt_48 (by decide) (fun c48 => ?_) (fun c48 => ?_)
            · refine lv_iload_n hx hb dX7_textAt_54 rfl (lv_at hl 3 rfl) ?_
              refine lv_iconst (v := 2) hx hb dX7_textAt_55 (by decide) ?_
              refine lv_icmp_ge (tgt := 92) hx hb dX7_textAt_56 (by decide) (fun c56 => ?_) (fun c56 => ?_)
              · exact absurd c56 (by decide)
              · refine lv_iload_n hx hb dX7_textAt_59 rfl (lv_at hl 3 rfl) ?_
                refine lv_if_ne (tgt := 78) hx hb dX7_textAt_60 (by decide) (fun c60 => ?_) (fun c60 => ?_)
                · exact absurd c60 (by decide)
                · refine lv_bipush (v := 97) hx hb dX7_textAt_63 (by decide) ?_
                  refine lv_aload_n hx hb dX7_textAt_65 rfl (lv_at hl 1 rfl) ?_
                  refine va_get (D := D) (ci := 4) (v := .ref cl) (C := RX7) (T := TX7) (N := 15) hx hb hts hinX7 hown hK hP 0 rfl rfl 5 (by decide) hfl17 (fun _ h9 => h9) rfl dX7_textAt_66 ?_
                  refine lv_iload_n hx hb dX7_textAt_69 rfl (lv_at hl 2 rfl) ?_
                  refine va_iald hx hb hK hP 2 0 rfl rfl (vp_in_nI (n := j) (N := 36) (by omega) (by decide)) dX7_textAt_70 ?_
                  refine pk_ti (y := (cs j)) (congrArg cs (pk_cl j)) ?_
                  refine lv_bipush (v := 6) hx hb dX7_textAt_71 (by decide) ?_
                  refine lv_irem hx hb dX7_textAt_73 (by decide) ?_
                  refine lv_topi (fun x73 ex73 => ?_)
                  refine lv_iadd hx hb dX7_textAt_74 ?_
                  refine lv_topi (fun x74 ex74 => ?_)
                  refine lv_goto (tgt := 90) hx hb dX7_textAt_75 (by decide) ?_
                  refine lv_i2c (v := ji2c x74) hx hb dX7_textAt_90 rfl ?_
                  obtain rfl := ex7.symm; obtain rfl := ex22.symm; obtain rfl := ex73.symm; obtain rfl := ex74.symm
                  refine W.zret (v := (ji2c (97 + ((cs j) - (cs j) / 6 * 6)))) hx hb hr (nar_c _) (fun tt ht hW => ⟨⟨(ji2c (97 + ((cs j) - (cs j) / 6 * 6))), (), rfl, ?_, by rw [ht]; exact hP, va_K.moved hW.alike hK, hD⟩, hS.F ht⟩) hS.2.2 dX7_textAt_91
                  first | exact rfl | exact (if_pos c120).symm | exact (if_neg c120).symm
            · exact absurd c48 (by decide)
      · exact absurd (by obtain rfl := ex7.symm; obtain rfl := ex22.symm; exact tx_01 (by decide)) b23
  · exact absurd (by obtain rfl := ex7.symm; exact mv_in1 hj hk) b8

set_option maxHeartbeats 400000 in
set_option maxRecDepth 100000 in
theorem c_X7_textAt_ok1 (l : Launch) (D : va_G) (cI cJ : ClassId) (sz : Nat) (h0 ow cl tu lk f1 s2 ms nx bs : Nat) (th re mt fd : Int32) (w k : Nat) (fo lo ff sf : Nat → Int64) (cs ts mm nf bf : Nat → Int32) (hk : k ≤ 36) (j : Nat) (hj : j < k) : Met l yX7_textAt wsX7_textAt ({ frames := 1, cells := 0, slots := 0, locals := 22 } : Room) (va_Pc [.ref h0, .int (nI j), .int 1] (pv_C D cI cJ [(h0, .inr (4, [.int th, .ref ow, .int re, .int (nI w), .int mt, .ref cl, .ref tu, .int (nI k), .ref lk, .ref f1, .ref s2, .ref ms, .ref nx, .ref bs, .int fd])), (ow, .inl (cJ, 3, .inr (.inl fo))), (cl, .inl (cI, 36, .inl cs)), (tu, .inl (cI, 36, .inl ts)), (lk, .inl (cJ, 3, .inr (.inl lo))), (f1, .inl (cJ, 6, .inr (.inl ff))), (s2, .inl (cJ, 6, .inr (.inl sf))), (ms, .inl (cI, 6, .inl mm)), (nx, .inl (cI, 6, .inl nf)), (bs, .inl (cI, 6, .inl bf))] sz)) (va_Qi (fun (r : Int32) (u : Unit) => r = ji2c (49 + cs j / 6)) (fun (u : Unit) => pv_B D cI cJ (va_A [(h0, .inr (4, [.int th, .ref ow, .int re, .int (nI w), .int mt, .ref cl, .ref tu, .int (nI k), .ref lk, .ref f1, .ref s2, .ref ms, .ref nx, .ref bs, .int fd])), (ow, .inl (cJ, 3, .inr (.inl fo))), (cl, .inl (cI, 36, .inl cs)), (tu, .inl (cI, 36, .inl ts)), (lk, .inl (cJ, 3, .inr (.inl lo))), (f1, .inl (cJ, 6, .inr (.inl ff))), (s2, .inl (cJ, 6, .inr (.inl sf))), (ms, .inl (cI, 6, .inl mm)), (nx, .inl (cI, 6, .inl nf)), (bs, .inl (cI, 6, .inl bf))] sz) [(h0, .inr (4, [.int 0, .ref ow, .int re, .int (nI w), .int mt, .ref cl, .ref tu, .int (nI k), .ref lk, .ref f1, .ref s2, .ref ms, .ref nx, .ref bs, .int fd])), (ow, .inl (cJ, 3, .inr (.inl fo))), (cl, .inl (cI, 36, .inl cs)), (tu, .inl (cI, 36, .inl ts)), (lk, .inl (cJ, 3, .inr (.inl lo))), (f1, .inl (cJ, 6, .inr (.inl ff))), (s2, .inl (cJ, 6, .inr (.inl sf))), (ms, .inl (cI, 6, .inl mm)), (nx, .inl (cI, 6, .inl nf)), (bs, .inl (cI, 6, .inl bf))]) (va_A [(h0, .inr (4, [.int th, .ref ow, .int re, .int (nI w), .int mt, .ref cl, .ref tu, .int (nI k), .ref lk, .ref f1, .ref s2, .ref ms, .ref nx, .ref bs, .int fd])), (ow, .inl (cJ, 3, .inr (.inl fo))), (cl, .inl (cI, 36, .inl cs)), (tu, .inl (cI, 36, .inl ts)), (lk, .inl (cJ, 3, .inr (.inl lo))), (f1, .inl (cJ, 6, .inr (.inl ff))), (s2, .inl (cJ, 6, .inr (.inl sf))), (ms, .inl (cI, 6, .inl mm)), (nx, .inl (cI, 6, .inl nf)), (bs, .inl (cI, 6, .inl bf))] sz)) 0 0 (va_A [(h0, .inr (4, [.int th, .ref ow, .int re, .int (nI w), .int mt, .ref cl, .ref tu, .int (nI k), .ref lk, .ref f1, .ref s2, .ref ms, .ref nx, .ref bs, .int fd])), (ow, .inl (cJ, 3, .inr (.inl fo))), (cl, .inl (cI, 36, .inl cs)), (tu, .inl (cI, 36, .inl ts)), (lk, .inl (cJ, 3, .inr (.inl lo))), (f1, .inl (cJ, 6, .inr (.inl ff))), (s2, .inl (cJ, 6, .inr (.inl sf))), (ms, .inl (cI, 6, .inl mm)), (nx, .inl (cI, 6, .inl nf)), (bs, .inl (cI, 6, .inl bf))] sz) := by
  refine Met.ofW (cc := cX7_textAt) (maxL := 4) (ret := (some .char)) (by decide) rfl ?_
  intro p e s m args below meth c s₁ B hml hv
  obtain ⟨rfl, rfl, hP, hK, hD0⟩ := hv
  have hx := B.exec
  have hb := B.bytes
  have hr := B.returns
  have hts := atoms_spec (ws := wsX7_textAt) B.pre
  have hown : s.vm.findClass RX7 = some m.cls := findClass_of_methodNamed B.named
  have hlocks := B.notSynchronized
  have hD := hD0.self (sz := s.heap.size)
  generalize hAe : va_A [(h0, .inr (4, [.int th, .ref ow, .int re, .int (nI w), .int mt, .ref cl, .ref tu, .int (nI k), .ref lk, .ref f1, .ref s2, .ref ms, .ref nx, .ref bs, .int fd])), (ow, .inl (cJ, 3, .inr (.inl fo))), (cl, .inl (cI, 36, .inl cs)), (tu, .inl (cI, 36, .inl ts)), (lk, .inl (cJ, 3, .inr (.inl lo))), (f1, .inl (cJ, 6, .inr (.inl ff))), (s2, .inl (cJ, 6, .inr (.inl sf))), (ms, .inl (cI, 6, .inl mm)), (nx, .inl (cI, 6, .inl nf)), (bs, .inl (cI, 6, .inl bf))] s.heap.size = A at hD ⊢
  have hA : ∀ q : Nat, s.heap.size ≤ q → A q := fun q h => by rw [← hAe]; exact Or.inr h
  have hS : va_S A s.heap s.heap [] := va_S.rf
  have hinX7 : ∀ w ∈ wsX70, w ∈ wsX7_textAt := by decide +kernel
  have hfl83 : (Cond.fieldLink RX7 83 "TwistquadModel" "moves" "I").before ([.ref h0, .int (nI j), .int 1] : List Value).toArray s = true := hts _ (by decide +kernel)
  have hfl17 : (Cond.fieldLink RX7 17 "TwistquadModel" "cells" "[I").before ([.ref h0, .int (nI j), .int 1] : List Value).toArray s = true := hts _ (by decide +kernel)
  have hl := lv_entry ([.ref h0, .int (nI j), .int 1]) (n := 4) (Nat.le_of_ble_eq_true rfl)
  rw [lg_entry_eq]
  generalize (lg_sl ([.ref h0, .int (nI j), .int 1]) ++ List.replicate (4 - (lg_sl ([.ref h0, .int (nI j), .int 1])).length) Slot.unset).toArray = ls at hl ⊢
  have hl : lv_has ls 4 [(0, .ref h0), (1, .int (nI j)), (2, .int 1)] := hl
  refine lv_iload_n hx hb dX7_textAt_0 rfl (lv_at hl 1 rfl) ?_
  refine lv_iconst (v := 0) hx hb dX7_textAt_1 (by decide) ?_
  refine lv_aload_n hx hb dX7_textAt_2 rfl (lv_at hl 0 rfl) ?_
  refine va_get (D := D) (ci := 4) (v := .int (nI k)) (C := RX7) (T := TX7) (N := 15) hx hb hts hinX7 hown hK hP 0 rfl rfl 7 (by decide) hfl83 (fun _ h9 => h9) rfl dX7_textAt_3 ?_
  refine lv_iconst (v := 1) hx hb dX7_textAt_6 (by decide) ?_
  refine lv_isub hx hb dX7_textAt_7 ?_
  refine lv_topi (fun x7 ex7 => ?_)
  refine vp_callSi (W.runS (As := [.int (nI j), .int 0, .int x7]) (rest := []) ⟨hx, hb, hml, hown, hts⟩ (c_X7_in l (nI j) 0 x7) (va_cwS 3 hts gX7_textAt_X7_in rfl rfl rfl (by decide +kernel) ⟨Nat.le_of_ble_eq_true rfl, Nat.le_of_ble_eq_true rfl⟩) ⟨px_blind0, fun U hU hW => ⟨rfl, trivial⟩⟩ rfl rfl hl.1 rfl (lv_room (Nat.le_of_ble_eq_true rfl)) dX7_textAt_8 ⟨(Nat.le_of_ble_eq_true rfl), (Nat.le_of_ble_eq_true rfl)⟩) (fun r8 er8 => ?_)
  obtain rfl := er8.symm
  refine pk_b (P := 0 ≤ (nI j) ∧ (nI j) ≤ x7) (fun b8 => ?_) (fun b8 => ?_)
  · refine lv_if_eq (tgt := 33) hx hb dX7_textAt_11 (by decide) (fun c11 => ?_) (fun c11 => ?_)
    · exact absurd c11 (by decide)
    · refine lv_iload_n hx hb dX7_textAt_14 rfl (lv_at hl 2 rfl) ?_
      refine lv_iconst (v := 0) hx hb dX7_textAt_15 (by decide) ?_
      refine lv_aload_n hx hb dX7_textAt_16 rfl (lv_at hl 0 rfl) ?_
      refine lv_iload_n hx hb dX7_textAt_17 rfl (lv_at hl 1 rfl) ?_
      refine vp_callSi (W.runV (As := [.int (nI j)]) (rest := [.int 0, .int 1]) ⟨hx, hb, hml, hown, hts⟩ (c_X7_lengthOf l D cI cJ h0 ow cl tu lk f1 s2 ms nx bs th re mt fd w k fo lo ff sf cs ts mm nf bf j (by omega)) (cwV 1 hts gX7_textAt_X7_lengthOf rfl rfl rfl (by decide +kernel) ⟨Nat.le_of_ble_eq_true rfl, Nat.le_of_ble_eq_true rfl⟩) ⟨px_blindW, va_recv hK hP (ci := 4) (q0 := 0) rfl rfl, fun U hU hW => ⟨rfl, by rw [hU]; exact hP.sub (ws' := [(h0, .inr (4, [.int th, .ref ow, .int re, .int (nI w), .int mt, .ref cl, .ref tu, .int (nI k), .ref lk, .ref f1, .ref s2, .ref ms, .ref nx, .ref bs, .int fd])), (ow, .inl (cJ, 3, .inr (.inl fo))), (cl, .inl (cI, 36, .inl cs)), (tu, .inl (cI, 36, .inl ts)), (lk, .inl (cJ, 3, .inr (.inl lo))), (f1, .inl (cJ, 6, .inr (.inl ff))), (s2, .inl (cJ, 6, .inr (.inl sf))), (ms, .inl (cI, 6, .inl mm)), (nx, .inl (cI, 6, .inl nf)), (bs, .inl (cI, 6, .inl bf))]) [0, 1, 2, 3, 4, 5, 6, 7, 8, 9] rfl, va_K.moved hW.alike hK⟩⟩ rfl rfl hl.1 rfl (lv_room (Nat.le_of_ble_eq_true rfl)) dX7_textAt_18 ⟨(Nat.le_of_ble_eq_true rfl), (Nat.le_of_ble_eq_true rfl)⟩) (fun r18 er18 => ?_)
      obtain rfl := er18.symm
      refine lv_iconst (v := 1) hx hb dX7_textAt_21 (by decide) ?_
      refine lv_isub hx hb dX7_textAt_22 ?_
      refine lv_topi (fun x22 ex22 => ?_)
      refine vp_callSi (W.runS (As := [.int 1, .int 0, .int x22]) (rest := []) ⟨hx, hb, hml, hown, hts⟩ (c_X7_in l 1 0 x22) (va_cwS 3 hts gX7_textAt_X7_in rfl rfl rfl (by decide +kernel) ⟨Nat.le_of_ble_eq_true rfl, Nat.le_of_ble_eq_true rfl⟩) ⟨px_blind0, fun U hU hW => ⟨rfl, trivial⟩⟩ rfl rfl hl.1 rfl (lv_room (Nat.le_of_ble_eq_true rfl)) dX7_textAt_23 ⟨(Nat.le_of_ble_eq_true rfl), (Nat.le_of_ble_eq_true rfl)⟩) (fun r23 er23 => ?_)
      obtain rfl := er23.symm
      refine pk_b (P := 0 ≤ 1 ∧ 1 ≤ x22) (fun b23 => ?_) (fun b23 => ?_)
      · refine lv_if_eq (tgt := 33) hx hb dX7_textAt_26 (by decide) (fun c26 => ?_) (fun c26 => ?_)
        · exact absurd c26 (by decide)
        · refine lv_iconst (v := 1) hx hb dX7_textAt_29 (by decide) ?_
          refine lv_goto (tgt := 34) hx hb dX7_textAt_30 (by decide) ?_
          refine lv_istore_n (lv' := [(3, .int 1), (0, .ref h0), (1, .int (nI j)), (2, .int 1)]) hx hb dX7_textAt_34 rfl hl (by decide) rfl (fun ls hl => ?_)
          refine lv_aload_n hx hb dX7_textAt_35 rfl (lv_at hl 1 rfl) ?_
          refine lv_iload_n hx hb dX7_textAt_36 rfl (lv_at hl 0 rfl) ?_
          refine lv_if_eq (tgt := 44) hx hb dX7_textAt_37 (by decide) (fun c37 => ?_) (fun c37 => ?_)
          · exact absurd c37 (by decide)
          · refine lv_iconst (v := 0) hx hb dX7_textAt_40 (by decide) ?_
            refine lv_goto (tgt := 45) hx hb dX7_textAt_41 (by decide) ?_
            have hPc := hP.sub (ws' := [(h0, .inr (4, [.int th, .ref ow, .int re, .int (nI w), .int mt, .ref cl, .ref tu, .int (nI k), .ref lk, .ref f1, .ref s2, .ref ms, .ref nx, .ref bs, .int fd])), (ow, .inl (cJ, 3, .inr (.inl fo))), (cl, .inl (cI, 36, .inl cs)), (tu, .inl (cI, 36, .inl ts)), (lk, .inl (cJ, 3, .inr (.inl lo))), (f1, .inl (cJ, 6, .inr (.inl ff))), (s2, .inl (cJ, 6, .inr (.inl sf))), (ms, .inl (cI, 6, .inl mm)), (nx, .inl (cI, 6, .inl nf)), (bs, .inl (cI, 6, .inl bf))]) [0, 1, 2, 3, 4, 5, 6, 7, 8, 9] rfl
            have hDc := hD.sub (ws' := [(h0, .inr (4, [.int th, .ref ow, .int re, .int (nI w), .int mt, .ref cl, .ref tu, .int (nI k), .ref lk, .ref f1, .ref s2, .ref ms, .ref nx, .ref bs, .int fd])), (ow, .inl (cJ, 3, .inr (.inl fo))), (cl, .inl (cI, 36, .inl cs)), (tu, .inl (cI, 36, .inl ts)), (lk, .inl (cJ, 3, .inr (.inl lo))), (f1, .inl (cJ, 6, .inr (.inl ff))), (s2, .inl (cJ, 6, .inr (.inl sf))), (ms, .inl (cI, 6, .inl mm)), (nx, .inl (cI, 6, .inl nf)), (bs, .inl (cI, 6, .inl bf))]) [0, 1, 2, 3, 4, 5, 6, 7, 8, 9] (by decide) rfl
            have hFc := va_free (wc := [(h0, .inr (4, [.int th, .ref ow, .int re, .int (nI w), .int mt, .ref cl, .ref tu, .int (nI k), .ref lk, .ref f1, .ref s2, .ref ms, .ref nx, .ref bs, .int fd])), (ow, .inl (cJ, 3, .inr (.inl fo))), (cl, .inl (cI, 36, .inl cs)), (tu, .inl (cI, 36, .inl ts)), (lk, .inl (cJ, 3, .inr (.inl lo))), (f1, .inl (cJ, 6, .inr (.inl ff))), (s2, .inl (cJ, 6, .inr (.inl sf))), (ms, .inl (cI, 6, .inl mm)), (nx, .inl (cI, 6, .inl nf)), (bs, .inl (cI, 6, .inl bf))]) hD hS hA [0, 1, 2, 3, 4, 5, 6, 7, 8, 9] rfl
            refine va_calli (va_runV (As := [.int 0]) (rest := []) ⟨hx, hb, hml, hown, hts⟩ (c_X7_goesWell l D cI cJ s.heap.size  h0 ow cl tu lk f1 s2 ms nx bs th re mt fd w k fo lo ff sf cs ts mm nf bf 0) (cwV 1 hts gX7_textAt_X7_goesWell rfl rfl rfl (by decide +kernel) ⟨Nat.le_of_ble_eq_true rfl, Nat.le_of_ble_eq_true rfl⟩) ⟨pv_blind, va_recv hK hPc (ci := 4) (q0 := 0) rfl rfl, fun U hU hW => ⟨rfl, by rw [hU], by rw [hU]; exact hPc, va_K.moved hW.alike hK, hDc.weaken (fun _ _ _ _ => trivial)⟩⟩ rfl rfl hl.1 rfl (lv_room (Nat.le_of_ble_eq_true rfl)) dX7_textAt_45 ⟨(Nat.le_of_ble_eq_true rfl), (Nat.le_of_ble_eq_true rfl)⟩) hS (fun q _ h => hFc q h) hFc (fun r45 u t9 H1 locs hth hvm hw45 hB hz1 hk1 hS => ?_)
            try dsimp only at hw45
            obtain ⟨hP1, hK1, hD1⟩ := hB
            rw [hth] at hP1
            obtain ⟨hP, hD⟩ := va_join (wr := []) (w1 := [(h0, .inr (4, [.int 0, .ref ow, .int re, .int (nI w), .int mt, .ref cl, .ref tu, .int (nI k), .ref lk, .ref f1, .ref s2, .ref ms, .ref nx, .ref bs, .int fd])), (ow, .inl (cJ, 3, .inr (.inl fo))), (cl, .inl (cI, 36, .inl cs)), (tu, .inl (cI, 36, .inl ts)), (lk, .inl (cJ, 3, .inr (.inl lo))), (f1, .inl (cJ, 6, .inr (.inl ff))), (s2, .inl (cJ, 6, .inr (.inl sf))), (ms, .inl (cI, 6, .inl mm)), (nx, .inl (cI, 6, .inl nf)), (bs, .inl (cI, 6, .inl bf))]) hP hD [0, 1, 2, 3, 4, 5, 6, 7, 8, 9] [] rfl rfl (by decide) (by decide) hk1 hFc hP1 hD1
            generalize H1 = H at hP hS ⊢
            have hP : va_P D vwCl [(h0, .inr (4, [.int 0, .ref ow, .int re, .int (nI w), .int mt, .ref cl, .ref tu, .int (nI k), .ref lk, .ref f1, .ref s2, .ref ms, .ref nx, .ref bs, .int fd])), (ow, .inl (cJ, 3, .inr (.inl fo))), (cl, .inl (cI, 36, .inl cs)), (tu, .inl (cI, 36, .inl ts)), (lk, .inl (cJ, 3, .inr (.inl lo))), (f1, .inl (cJ, 6, .inr (.inl ff))), (s2, .inl (cJ, 6, .inr (.inl sf))), (ms, .inl (cI, 6, .inl mm)), (nx, .inl (cI, 6, .inl nf)), (bs, .inl (cI, 6, .inl bf))] H := hP.sub (ws' := [(h0, .inr (4, [.int 0, .ref ow, .int re, .int (nI w), .int mt, .ref cl, .ref tu, .int (nI k), .ref lk, .ref f1, .ref s2, .ref ms, .ref nx, .ref bs, .int fd])), (ow, .inl (cJ, 3, .inr (.inl fo))), (cl, .inl (cI, 36, .inl cs)), (tu, .inl (cI, 36, .inl ts)), (lk, .inl (cJ, 3, .inr (.inl lo))), (f1, .inl (cJ, 6, .inr (.inl ff))), (s2, .inl (cJ, 6, .inr (.inl sf))), (ms, .inl (cI, 6, .inl mm)), (nx, .inl (cI, 6, .inl nf)), (bs, .inl (cI, 6, .inl bf))]) [0, 1, 2, 3, 4, 5, 6, 7, 8, 9] rfl
            have hD : va_D A [(h0, .inr (4, [.int 0, .ref ow, .int re, .int (nI w), .int mt, .ref cl, .ref tu, .int (nI k), .ref lk, .ref f1, .ref s2, .ref ms, .ref nx, .ref bs, .int fd])), (ow, .inl (cJ, 3, .inr (.inl fo))), (cl, .inl (cI, 36, .inl cs)), (tu, .inl (cI, 36, .inl ts)), (lk, .inl (cJ, 3, .inr (.inl lo))), (f1, .inl (cJ, 6, .inr (.inl ff))), (s2, .inl (cJ, 6, .inr (.inl sf))), (ms, .inl (cI, 6, .inl mm)), (nx, .inl (cI, 6, .inl nf)), (bs, .inl (cI, 6, .inl bf))] := hD.sub (ws' := [(h0, .inr (4, [.int 0, .ref ow, .int re, .int (nI w), .int mt, .ref cl, .ref tu, .int (nI k), .ref lk, .ref f1, .ref s2, .ref ms, .ref nx, .ref bs, .int fd])), (ow, .inl (cJ, 3, .inr (.inl fo))), (cl, .inl (cI, 36, .inl cs)), (tu, .inl (cI, 36, .inl ts)), (lk, .inl (cJ, 3, .inr (.inl lo))), (f1, .inl (cJ, 6, .inr (.inl ff))), (s2, .inl (cJ, 6, .inr (.inl sf))), (ms, .inl (cI, 6, .inl mm)), (nx, .inl (cI, 6, .inl nf)), (bs, .inl (cI, 6, .inl bf))]) [0, 1, 2, 3, 4, 5, 6, 7, 8, 9] (by decide) rfl
            obtain rfl := hw45.symm
            refine pk_ti (y := 1) (if_pos (by decide)) ?_
            refine lv_if_ne (tgt := 54) hx hb dX7_textAt_48 (by decide) (fun c48 => ?_) (fun c48 => ?_)
            · refine lv_iload_n hx hb dX7_textAt_54 rfl (lv_at hl 3 rfl) ?_
              refine lv_iconst (v := 2) hx hb dX7_textAt_55 (by decide) ?_
              refine lv_icmp_ge (tgt := 92) hx hb dX7_textAt_56 (by decide) (fun c56 => ?_) (fun c56 => ?_)
              · exact absurd c56 (by decide)
              · refine lv_iload_n hx hb dX7_textAt_59 rfl (lv_at hl 3 rfl) ?_
                refine lv_if_ne (tgt := 78) hx hb dX7_textAt_60 (by decide) (fun c60 => ?_) (fun c60 => ?_)
                · refine lv_bipush (v := 49) hx hb dX7_textAt_78 (by decide) ?_
                  refine lv_aload_n hx hb dX7_textAt_80 rfl (lv_at hl 1 rfl) ?_
                  refine va_get (D := D) (ci := 4) (v := .ref cl) (C := RX7) (T := TX7) (N := 15) hx hb hts hinX7 hown hK hP 0 rfl rfl 5 (by decide) hfl17 (fun _ h9 => h9) rfl dX7_textAt_81 ?_
                  refine lv_iload_n hx hb dX7_textAt_84 rfl (lv_at hl 2 rfl) ?_
                  refine va_iald hx hb hK hP 2 0 rfl rfl (vp_in_nI (n := j) (N := 36) (by omega) (by decide)) dX7_textAt_85 ?_
                  refine pk_ti (y := (cs j)) (congrArg cs (pk_cl j)) ?_
                  refine lv_bipush (v := 6) hx hb dX7_textAt_86 (by decide) ?_
                  refine lv_idiv hx hb dX7_textAt_88 (by decide) ?_
                  refine lv_topi (fun x88 ex88 => ?_)
                  refine lv_iadd hx hb dX7_textAt_89 ?_
                  refine lv_topi (fun x89 ex89 => ?_)
                  refine lv_i2c (v := ji2c x89) hx hb dX7_textAt_90 rfl ?_
                  obtain rfl := ex7.symm; obtain rfl := ex22.symm; obtain rfl := ex88.symm; obtain rfl := ex89.symm
                  refine W.zret (v := (ji2c (49 + ((cs j) / 6)))) hx hb hr (nar_c _) (fun tt ht hW => ⟨⟨(ji2c (49 + ((cs j) / 6))), (), rfl, ?_, by rw [ht]; exact hP, va_K.moved hW.alike hK, hD⟩, hS.F ht⟩) hS.2.2 dX7_textAt_91
                  first | exact rfl | exact (if_pos c120).symm | exact (if_neg c120).symm
                · exact absurd c60 (by decide)
            · exact absurd c48 (by decide)
      · exact absurd (by obtain rfl := ex7.symm; obtain rfl := ex22.symm; exact tx_01 (by decide)) b23
  · exact absurd (by obtain rfl := ex7.symm; exact mv_in1 hj hk) b8

set_option maxHeartbeats 400000 in
set_option maxRecDepth 100000 in
theorem c_X7_textAt_ok2 (l : Launch) (D : va_G) (cI cJ : ClassId) (sz : Nat) (h0 ow cl tu lk f1 s2 ms nx bs : Nat) (th re mt fd : Int32) (w k : Nat) (fo lo ff sf : Nat → Int64) (cs ts mm nf bf : Nat → Int32) (hk : k ≤ 36) (j : Nat) (hj : j < k) (tn : Nat) (htn : tn < 8) (ht9 : ts j = nI tn) : Met l yX7_textAt wsX7_textAt ({ frames := 1, cells := 0, slots := 0, locals := 22 } : Room) (va_Pc [.ref h0, .int (nI j), .int 2] (pv_C D cI cJ [(h0, .inr (4, [.int th, .ref ow, .int re, .int (nI w), .int mt, .ref cl, .ref tu, .int (nI k), .ref lk, .ref f1, .ref s2, .ref ms, .ref nx, .ref bs, .int fd])), (ow, .inl (cJ, 3, .inr (.inl fo))), (cl, .inl (cI, 36, .inl cs)), (tu, .inl (cI, 36, .inl ts)), (lk, .inl (cJ, 3, .inr (.inl lo))), (f1, .inl (cJ, 6, .inr (.inl ff))), (s2, .inl (cJ, 6, .inr (.inl sf))), (ms, .inl (cI, 6, .inl mm)), (nx, .inl (cI, 6, .inl nf)), (bs, .inl (cI, 6, .inl bf))] sz)) (va_Qi (fun (r : Int32) (u : Unit) => r = ji2c (nI (48 + tn / 2))) (fun (u : Unit) => pv_B D cI cJ (va_A [(h0, .inr (4, [.int th, .ref ow, .int re, .int (nI w), .int mt, .ref cl, .ref tu, .int (nI k), .ref lk, .ref f1, .ref s2, .ref ms, .ref nx, .ref bs, .int fd])), (ow, .inl (cJ, 3, .inr (.inl fo))), (cl, .inl (cI, 36, .inl cs)), (tu, .inl (cI, 36, .inl ts)), (lk, .inl (cJ, 3, .inr (.inl lo))), (f1, .inl (cJ, 6, .inr (.inl ff))), (s2, .inl (cJ, 6, .inr (.inl sf))), (ms, .inl (cI, 6, .inl mm)), (nx, .inl (cI, 6, .inl nf)), (bs, .inl (cI, 6, .inl bf))] sz) [(h0, .inr (4, [.int 0, .ref ow, .int re, .int (nI w), .int mt, .ref cl, .ref tu, .int (nI k), .ref lk, .ref f1, .ref s2, .ref ms, .ref nx, .ref bs, .int fd])), (ow, .inl (cJ, 3, .inr (.inl fo))), (cl, .inl (cI, 36, .inl cs)), (tu, .inl (cI, 36, .inl ts)), (lk, .inl (cJ, 3, .inr (.inl lo))), (f1, .inl (cJ, 6, .inr (.inl ff))), (s2, .inl (cJ, 6, .inr (.inl sf))), (ms, .inl (cI, 6, .inl mm)), (nx, .inl (cI, 6, .inl nf)), (bs, .inl (cI, 6, .inl bf))]) (va_A [(h0, .inr (4, [.int th, .ref ow, .int re, .int (nI w), .int mt, .ref cl, .ref tu, .int (nI k), .ref lk, .ref f1, .ref s2, .ref ms, .ref nx, .ref bs, .int fd])), (ow, .inl (cJ, 3, .inr (.inl fo))), (cl, .inl (cI, 36, .inl cs)), (tu, .inl (cI, 36, .inl ts)), (lk, .inl (cJ, 3, .inr (.inl lo))), (f1, .inl (cJ, 6, .inr (.inl ff))), (s2, .inl (cJ, 6, .inr (.inl sf))), (ms, .inl (cI, 6, .inl mm)), (nx, .inl (cI, 6, .inl nf)), (bs, .inl (cI, 6, .inl bf))] sz)) 0 0 (va_A [(h0, .inr (4, [.int th, .ref ow, .int re, .int (nI w), .int mt, .ref cl, .ref tu, .int (nI k), .ref lk, .ref f1, .ref s2, .ref ms, .ref nx, .ref bs, .int fd])), (ow, .inl (cJ, 3, .inr (.inl fo))), (cl, .inl (cI, 36, .inl cs)), (tu, .inl (cI, 36, .inl ts)), (lk, .inl (cJ, 3, .inr (.inl lo))), (f1, .inl (cJ, 6, .inr (.inl ff))), (s2, .inl (cJ, 6, .inr (.inl sf))), (ms, .inl (cI, 6, .inl mm)), (nx, .inl (cI, 6, .inl nf)), (bs, .inl (cI, 6, .inl bf))] sz) := by
  refine Met.ofW (cc := cX7_textAt) (maxL := 4) (ret := (some .char)) (by decide) rfl ?_
  intro p e s m args below meth c s₁ B hml hv
  obtain ⟨rfl, rfl, hP, hK, hD0⟩ := hv
  have hx := B.exec
  have hb := B.bytes
  have hr := B.returns
  have hts := atoms_spec (ws := wsX7_textAt) B.pre
  have hown : s.vm.findClass RX7 = some m.cls := findClass_of_methodNamed B.named
  have hlocks := B.notSynchronized
  have hD := hD0.self (sz := s.heap.size)
  generalize hAe : va_A [(h0, .inr (4, [.int th, .ref ow, .int re, .int (nI w), .int mt, .ref cl, .ref tu, .int (nI k), .ref lk, .ref f1, .ref s2, .ref ms, .ref nx, .ref bs, .int fd])), (ow, .inl (cJ, 3, .inr (.inl fo))), (cl, .inl (cI, 36, .inl cs)), (tu, .inl (cI, 36, .inl ts)), (lk, .inl (cJ, 3, .inr (.inl lo))), (f1, .inl (cJ, 6, .inr (.inl ff))), (s2, .inl (cJ, 6, .inr (.inl sf))), (ms, .inl (cI, 6, .inl mm)), (nx, .inl (cI, 6, .inl nf)), (bs, .inl (cI, 6, .inl bf))] s.heap.size = A at hD ⊢
  have hA : ∀ q : Nat, s.heap.size ≤ q → A q := fun q h => by rw [← hAe]; exact Or.inr h
  have hS : va_S A s.heap s.heap [] := va_S.rf
  have hinX7 : ∀ w ∈ wsX70, w ∈ wsX7_textAt := by decide +kernel
  have hfl83 : (Cond.fieldLink RX7 83 "TwistquadModel" "moves" "I").before ([.ref h0, .int (nI j), .int 2] : List Value).toArray s = true := hts _ (by decide +kernel)
  have hfl21 : (Cond.fieldLink RX7 21 "TwistquadModel" "turns" "[I").before ([.ref h0, .int (nI j), .int 2] : List Value).toArray s = true := hts _ (by decide +kernel)
  have hl := lv_entry ([.ref h0, .int (nI j), .int 2]) (n := 4) (Nat.le_of_ble_eq_true rfl)
  rw [lg_entry_eq]
  generalize (lg_sl ([.ref h0, .int (nI j), .int 2]) ++ List.replicate (4 - (lg_sl ([.ref h0, .int (nI j), .int 2])).length) Slot.unset).toArray = ls at hl ⊢
  have hl : lv_has ls 4 [(0, .ref h0), (1, .int (nI j)), (2, .int 2)] := hl
  refine lv_iload_n hx hb dX7_textAt_0 rfl (lv_at hl 1 rfl) ?_
  refine lv_iconst (v := 0) hx hb dX7_textAt_1 (by decide) ?_
  refine lv_aload_n hx hb dX7_textAt_2 rfl (lv_at hl 0 rfl) ?_
  refine va_get (D := D) (ci := 4) (v := .int (nI k)) (C := RX7) (T := TX7) (N := 15) hx hb hts hinX7 hown hK hP 0 rfl rfl 7 (by decide) hfl83 (fun _ h9 => h9) rfl dX7_textAt_3 ?_
  refine lv_iconst (v := 1) hx hb dX7_textAt_6 (by decide) ?_
  refine lv_isub hx hb dX7_textAt_7 ?_
  refine lv_topi (fun x7 ex7 => ?_)
  refine vp_callSi (W.runS (As := [.int (nI j), .int 0, .int x7]) (rest := []) ⟨hx, hb, hml, hown, hts⟩ (c_X7_in l (nI j) 0 x7) (va_cwS 3 hts gX7_textAt_X7_in rfl rfl rfl (by decide +kernel) ⟨Nat.le_of_ble_eq_true rfl, Nat.le_of_ble_eq_true rfl⟩) ⟨px_blind0, fun U hU hW => ⟨rfl, trivial⟩⟩ rfl rfl hl.1 rfl (lv_room (Nat.le_of_ble_eq_true rfl)) dX7_textAt_8 ⟨(Nat.le_of_ble_eq_true rfl), (Nat.le_of_ble_eq_true rfl)⟩) (fun r8 er8 => ?_)
  obtain rfl := er8.symm
  refine pk_b (P := 0 ≤ (nI j) ∧ (nI j) ≤ x7) (fun b8 => ?_) (fun b8 => ?_)
  · refine lv_if_eq (tgt := 33) hx hb dX7_textAt_11 (by decide) (fun c11 => ?_) (fun c11 => ?_)
    · exact absurd c11 (by decide)
    · refine lv_iload_n hx hb dX7_textAt_14 rfl (lv_at hl 2 rfl) ?_
      refine lv_iconst (v := 0) hx hb dX7_textAt_15 (by decide) ?_
      refine lv_aload_n hx hb dX7_textAt_16 rfl (lv_at hl 0 rfl) ?_
      refine lv_iload_n hx hb dX7_textAt_17 rfl (lv_at hl 1 rfl) ?_
      refine vp_callSi (W.runV (As := [.int (nI j)]) (rest := [.int 0, .int 2]) ⟨hx, hb, hml, hown, hts⟩ (c_X7_lengthOf l D cI cJ h0 ow cl tu lk f1 s2 ms nx bs th re mt fd w k fo lo ff sf cs ts mm nf bf j (by omega)) (cwV 1 hts gX7_textAt_X7_lengthOf rfl rfl rfl (by decide +kernel) ⟨Nat.le_of_ble_eq_true rfl, Nat.le_of_ble_eq_true rfl⟩) ⟨px_blindW, va_recv hK hP (ci := 4) (q0 := 0) rfl rfl, fun U hU hW => ⟨rfl, by rw [hU]; exact hP.sub (ws' := [(h0, .inr (4, [.int th, .ref ow, .int re, .int (nI w), .int mt, .ref cl, .ref tu, .int (nI k), .ref lk, .ref f1, .ref s2, .ref ms, .ref nx, .ref bs, .int fd])), (ow, .inl (cJ, 3, .inr (.inl fo))), (cl, .inl (cI, 36, .inl cs)), (tu, .inl (cI, 36, .inl ts)), (lk, .inl (cJ, 3, .inr (.inl lo))), (f1, .inl (cJ, 6, .inr (.inl ff))), (s2, .inl (cJ, 6, .inr (.inl sf))), (ms, .inl (cI, 6, .inl mm)), (nx, .inl (cI, 6, .inl nf)), (bs, .inl (cI, 6, .inl bf))]) [0, 1, 2, 3, 4, 5, 6, 7, 8, 9] rfl, va_K.moved hW.alike hK⟩⟩ rfl rfl hl.1 rfl (lv_room (Nat.le_of_ble_eq_true rfl)) dX7_textAt_18 ⟨(Nat.le_of_ble_eq_true rfl), (Nat.le_of_ble_eq_true rfl)⟩) (fun r18 er18 => ?_)
      obtain rfl := er18.symm
      refine lv_iconst (v := 1) hx hb dX7_textAt_21 (by decide) ?_
      refine lv_isub hx hb dX7_textAt_22 ?_
      refine lv_topi (fun x22 ex22 => ?_)
      refine vp_callSi (W.runS (As := [.int 2, .int 0, .int x22]) (rest := []) ⟨hx, hb, hml, hown, hts⟩ (c_X7_in l 2 0 x22) (va_cwS 3 hts gX7_textAt_X7_in rfl rfl rfl (by decide +kernel) ⟨Nat.le_of_ble_eq_true rfl, Nat.le_of_ble_eq_true rfl⟩) ⟨px_blind0, fun U hU hW => ⟨rfl, trivial⟩⟩ rfl rfl hl.1 rfl (lv_room (Nat.le_of_ble_eq_true rfl)) dX7_textAt_23 ⟨(Nat.le_of_ble_eq_true rfl), (Nat.le_of_ble_eq_true rfl)⟩) (fun r23 er23 => ?_)
      obtain rfl := er23.symm
      refine pk_b (P := 0 ≤ 2 ∧ 2 ≤ x22) (fun b23 => ?_) (fun b23 => ?_)
      · refine lv_if_eq (tgt := 33) hx hb dX7_textAt_26 (by decide) (fun c26 => ?_) (fun c26 => ?_)
        · exact absurd c26 (by decide)
        · refine lv_iconst (v := 1) hx hb dX7_textAt_29 (by decide) ?_
          refine lv_goto (tgt := 34) hx hb dX7_textAt_30 (by decide) ?_
          refine lv_istore_n (lv' := [(3, .int 1), (0, .ref h0), (1, .int (nI j)), (2, .int 2)]) hx hb dX7_textAt_34 rfl hl (by decide) rfl (fun ls hl => ?_)
          refine lv_aload_n hx hb dX7_textAt_35 rfl (lv_at hl 1 rfl) ?_
          refine lv_iload_n hx hb dX7_textAt_36 rfl (lv_at hl 0 rfl) ?_
          refine lv_if_eq (tgt := 44) hx hb dX7_textAt_37 (by decide) (fun c37 => ?_) (fun c37 => ?_)
          · exact absurd c37 (by decide)
          · refine lv_iconst (v := 0) hx hb dX7_textAt_40 (by decide) ?_
            refine lv_goto (tgt := 45) hx hb dX7_textAt_41 (by decide) ?_
            have hPc := hP.sub (ws' := [(h0, .inr (4, [.int th, .ref ow, .int re, .int (nI w), .int mt, .ref cl, .ref tu, .int (nI k), .ref lk, .ref f1, .ref s2, .ref ms, .ref nx, .ref bs, .int fd])), (ow, .inl (cJ, 3, .inr (.inl fo))), (cl, .inl (cI, 36, .inl cs)), (tu, .inl (cI, 36, .inl ts)), (lk, .inl (cJ, 3, .inr (.inl lo))), (f1, .inl (cJ, 6, .inr (.inl ff))), (s2, .inl (cJ, 6, .inr (.inl sf))), (ms, .inl (cI, 6, .inl mm)), (nx, .inl (cI, 6, .inl nf)), (bs, .inl (cI, 6, .inl bf))]) [0, 1, 2, 3, 4, 5, 6, 7, 8, 9] rfl
            have hDc := hD.sub (ws' := [(h0, .inr (4, [.int th, .ref ow, .int re, .int (nI w), .int mt, .ref cl, .ref tu, .int (nI k), .ref lk, .ref f1, .ref s2, .ref ms, .ref nx, .ref bs, .int fd])), (ow, .inl (cJ, 3, .inr (.inl fo))), (cl, .inl (cI, 36, .inl cs)), (tu, .inl (cI, 36, .inl ts)), (lk, .inl (cJ, 3, .inr (.inl lo))), (f1, .inl (cJ, 6, .inr (.inl ff))), (s2, .inl (cJ, 6, .inr (.inl sf))), (ms, .inl (cI, 6, .inl mm)), (nx, .inl (cI, 6, .inl nf)), (bs, .inl (cI, 6, .inl bf))]) [0, 1, 2, 3, 4, 5, 6, 7, 8, 9] (by decide) rfl
            have hFc := va_free (wc := [(h0, .inr (4, [.int th, .ref ow, .int re, .int (nI w), .int mt, .ref cl, .ref tu, .int (nI k), .ref lk, .ref f1, .ref s2, .ref ms, .ref nx, .ref bs, .int fd])), (ow, .inl (cJ, 3, .inr (.inl fo))), (cl, .inl (cI, 36, .inl cs)), (tu, .inl (cI, 36, .inl ts)), (lk, .inl (cJ, 3, .inr (.inl lo))), (f1, .inl (cJ, 6, .inr (.inl ff))), (s2, .inl (cJ, 6, .inr (.inl sf))), (ms, .inl (cI, 6, .inl mm)), (nx, .inl (cI, 6, .inl nf)), (bs, .inl (cI, 6, .inl bf))]) hD hS hA [0, 1, 2, 3, 4, 5, 6, 7, 8, 9] rfl
            refine va_calli (va_runV (As := [.int 0]) (rest := []) ⟨hx, hb, hml, hown, hts⟩ (c_X7_goesWell l D cI cJ s.heap.size  h0 ow cl tu lk f1 s2 ms nx bs th re mt fd w k fo lo ff sf cs ts mm nf bf 0) (cwV 1 hts gX7_textAt_X7_goesWell rfl rfl rfl (by decide +kernel) ⟨Nat.le_of_ble_eq_true rfl, Nat.le_of_ble_eq_true rfl⟩) ⟨pv_blind, va_recv hK hPc (ci := 4) (q0 := 0) rfl rfl, fun U hU hW => ⟨rfl, by rw [hU], by rw [hU]; exact hPc, va_K.moved hW.alike hK, hDc.weaken (fun _ _ _ _ => trivial)⟩⟩ rfl rfl hl.1 rfl (lv_room (Nat.le_of_ble_eq_true rfl)) dX7_textAt_45 ⟨(Nat.le_of_ble_eq_true rfl), (Nat.le_of_ble_eq_true rfl)⟩) hS (fun q _ h => hFc q h) hFc (fun r45 u t9 H1 locs hth hvm hw45 hB hz1 hk1 hS => ?_)
            try dsimp only at hw45
            obtain ⟨hP1, hK1, hD1⟩ := hB
            rw [hth] at hP1
            obtain ⟨hP, hD⟩ := va_join (wr := []) (w1 := [(h0, .inr (4, [.int 0, .ref ow, .int re, .int (nI w), .int mt, .ref cl, .ref tu, .int (nI k), .ref lk, .ref f1, .ref s2, .ref ms, .ref nx, .ref bs, .int fd])), (ow, .inl (cJ, 3, .inr (.inl fo))), (cl, .inl (cI, 36, .inl cs)), (tu, .inl (cI, 36, .inl ts)), (lk, .inl (cJ, 3, .inr (.inl lo))), (f1, .inl (cJ, 6, .inr (.inl ff))), (s2, .inl (cJ, 6, .inr (.inl sf))), (ms, .inl (cI, 6, .inl mm)), (nx, .inl (cI, 6, .inl nf)), (bs, .inl (cI, 6, .inl bf))]) hP hD [0, 1, 2, 3, 4, 5, 6, 7, 8, 9] [] rfl rfl (by decide) (by decide) hk1 hFc hP1 hD1
            generalize H1 = H at hP hS ⊢
            have hP : va_P D vwCl [(h0, .inr (4, [.int 0, .ref ow, .int re, .int (nI w), .int mt, .ref cl, .ref tu, .int (nI k), .ref lk, .ref f1, .ref s2, .ref ms, .ref nx, .ref bs, .int fd])), (ow, .inl (cJ, 3, .inr (.inl fo))), (cl, .inl (cI, 36, .inl cs)), (tu, .inl (cI, 36, .inl ts)), (lk, .inl (cJ, 3, .inr (.inl lo))), (f1, .inl (cJ, 6, .inr (.inl ff))), (s2, .inl (cJ, 6, .inr (.inl sf))), (ms, .inl (cI, 6, .inl mm)), (nx, .inl (cI, 6, .inl nf)), (bs, .inl (cI, 6, .inl bf))] H := hP.sub (ws' := [(h0, .inr (4, [.int 0, .ref ow, .int re, .int (nI w), .int mt, .ref cl, .ref tu, .int (nI k), .ref lk, .ref f1, .ref s2, .ref ms, .ref nx, .ref bs, .int fd])), (ow, .inl (cJ, 3, .inr (.inl fo))), (cl, .inl (cI, 36, .inl cs)), (tu, .inl (cI, 36, .inl ts)), (lk, .inl (cJ, 3, .inr (.inl lo))), (f1, .inl (cJ, 6, .inr (.inl ff))), (s2, .inl (cJ, 6, .inr (.inl sf))), (ms, .inl (cI, 6, .inl mm)), (nx, .inl (cI, 6, .inl nf)), (bs, .inl (cI, 6, .inl bf))]) [0, 1, 2, 3, 4, 5, 6, 7, 8, 9] rfl
            have hD : va_D A [(h0, .inr (4, [.int 0, .ref ow, .int re, .int (nI w), .int mt, .ref cl, .ref tu, .int (nI k), .ref lk, .ref f1, .ref s2, .ref ms, .ref nx, .ref bs, .int fd])), (ow, .inl (cJ, 3, .inr (.inl fo))), (cl, .inl (cI, 36, .inl cs)), (tu, .inl (cI, 36, .inl ts)), (lk, .inl (cJ, 3, .inr (.inl lo))), (f1, .inl (cJ, 6, .inr (.inl ff))), (s2, .inl (cJ, 6, .inr (.inl sf))), (ms, .inl (cI, 6, .inl mm)), (nx, .inl (cI, 6, .inl nf)), (bs, .inl (cI, 6, .inl bf))] := hD.sub (ws' := [(h0, .inr (4, [.int 0, .ref ow, .int re, .int (nI w), .int mt, .ref cl, .ref tu, .int (nI k), .ref lk, .ref f1, .ref s2, .ref ms, .ref nx, .ref bs, .int fd])), (ow, .inl (cJ, 3, .inr (.inl fo))), (cl, .inl (cI, 36, .inl cs)), (tu, .inl (cI, 36, .inl ts)), (lk, .inl (cJ, 3, .inr (.inl lo))), (f1, .inl (cJ, 6, .inr (.inl ff))), (s2, .inl (cJ, 6, .inr (.inl sf))), (ms, .inl (cI, 6, .inl mm)), (nx, .inl (cI, 6, .inl nf)), (bs, .inl (cI, 6, .inl bf))]) [0, 1, 2, 3, 4, 5, 6, 7, 8, 9] (by decide) rfl
            obtain rfl := hw45.symm
            refine pk_ti (y := 1) (if_pos (by decide)) ?_
            refine lv_if_ne (tgt := 54) hx hb dX7_textAt_48 (by decide) (fun c48 => ?_) (fun c48 => ?_)
            · refine lv_iload_n hx hb dX7_textAt_54 rfl (lv_at hl 3 rfl) ?_
              refine lv_iconst (v := 2) hx hb dX7_textAt_55 (by decide) ?_
              refine lv_icmp_ge (tgt := 92) hx hb dX7_textAt_56 (by decide) (fun c56 => ?_) (fun c56 => ?_)
              · refine lv_iload_n hx hb dX7_textAt_92 rfl (lv_at hl 3 rfl) ?_
                refine lv_iconst (v := 2) hx hb dX7_textAt_93 (by decide) ?_
                refine lv_icmp_ne (tgt := 112) hx hb dX7_textAt_94 (by decide) (fun c94 => ?_) (fun c94 => ?_)
                · exact absurd c94 (by decide)
                · refine lv_bipush (v := 48) hx hb dX7_textAt_97 (by decide) ?_
                  refine lv_aload_n hx hb dX7_textAt_99 rfl (lv_at hl 1 rfl) ?_
                  refine va_get (D := D) (ci := 4) (v := .ref tu) (C := RX7) (T := TX7) (N := 15) hx hb hts hinX7 hown hK hP 0 rfl rfl 6 (by decide) hfl21 (fun _ h9 => h9) rfl dX7_textAt_100 ?_
                  refine lv_iload_n hx hb dX7_textAt_103 rfl (lv_at hl 2 rfl) ?_
                  refine va_iald hx hb hK hP 3 0 rfl rfl (vp_in_nI (n := j) (N := 36) (by omega) (by decide)) dX7_textAt_104 ?_
                  refine pk_ti (y := (nI tn)) ((congrArg ts (pk_cl j)).trans (ht9)) ?_
                  refine lv_iconst (v := 2) hx hb dX7_textAt_105 (by decide) ?_
                  refine lv_idiv hx hb dX7_textAt_106 (by decide) ?_
                  refine pk_ti (y := nI (tn / 2)) (pk_div (a := tn) (d := 2) (by omega) (by omega) (by omega)) ?_
                  refine lv_iadd hx hb dX7_textAt_107 ?_
                  refine pk_ti (y := nI (48 + tn / 2)) (nI_add _ _) ?_
                  refine lv_i2c (v := ji2c (nI (48 + tn / 2))) hx hb dX7_textAt_108 rfl ?_
                  refine lv_goto (tgt := 130) hx hb dX7_textAt_109 (by decide) ?_
                  obtain rfl := ex7.symm; obtain rfl := ex22.symm
                  refine W.zret (v := (ji2c (nI (48 + tn / 2)))) hx hb hr (nar_c _) (fun tt ht hW => ⟨⟨(ji2c (nI (48 + tn / 2))), (), rfl, ?_, by rw [ht]; exact hP, va_K.moved hW.alike hK, hD⟩, hS.F ht⟩) hS.2.2 dX7_textAt_130
                  first | exact rfl | exact (if_pos c120).symm | exact (if_neg c120).symm
              · exact absurd c56 (by decide)
            · exact absurd c48 (by decide)
      · exact absurd (by obtain rfl := ex7.symm; obtain rfl := ex22.symm; exact tx_23 (by decide) (fun h => nI_ne_m1 (by omega) (ht9.symm.trans h))) b23
  · exact absurd (by obtain rfl := ex7.symm; exact mv_in1 hj hk) b8

set_option maxHeartbeats 400000 in
set_option maxRecDepth 100000 in
theorem c_X7_textAt_ok3 (l : Launch) (D : va_G) (cI cJ : ClassId) (sz : Nat) (h0 ow cl tu lk f1 s2 ms nx bs : Nat) (th re mt fd : Int32) (w k : Nat) (fo lo ff sf : Nat → Int64) (cs ts mm nf bf : Nat → Int32) (hk : k ≤ 36) (j : Nat) (hj : j < k) (tn : Nat) (htn : tn < 8) (ht9 : ts j = nI tn) : Met l yX7_textAt wsX7_textAt ({ frames := 1, cells := 0, slots := 0, locals := 22 } : Room) (va_Pc [.ref h0, .int (nI j), .int 3] (pv_C D cI cJ [(h0, .inr (4, [.int th, .ref ow, .int re, .int (nI w), .int mt, .ref cl, .ref tu, .int (nI k), .ref lk, .ref f1, .ref s2, .ref ms, .ref nx, .ref bs, .int fd])), (ow, .inl (cJ, 3, .inr (.inl fo))), (cl, .inl (cI, 36, .inl cs)), (tu, .inl (cI, 36, .inl ts)), (lk, .inl (cJ, 3, .inr (.inl lo))), (f1, .inl (cJ, 6, .inr (.inl ff))), (s2, .inl (cJ, 6, .inr (.inl sf))), (ms, .inl (cI, 6, .inl mm)), (nx, .inl (cI, 6, .inl nf)), (bs, .inl (cI, 6, .inl bf))] sz)) (va_Qi (fun (r : Int32) (u : Unit) => r = (if tn % 2 = 0 then 82 else 76)) (fun (u : Unit) => pv_B D cI cJ (va_A [(h0, .inr (4, [.int th, .ref ow, .int re, .int (nI w), .int mt, .ref cl, .ref tu, .int (nI k), .ref lk, .ref f1, .ref s2, .ref ms, .ref nx, .ref bs, .int fd])), (ow, .inl (cJ, 3, .inr (.inl fo))), (cl, .inl (cI, 36, .inl cs)), (tu, .inl (cI, 36, .inl ts)), (lk, .inl (cJ, 3, .inr (.inl lo))), (f1, .inl (cJ, 6, .inr (.inl ff))), (s2, .inl (cJ, 6, .inr (.inl sf))), (ms, .inl (cI, 6, .inl mm)), (nx, .inl (cI, 6, .inl nf)), (bs, .inl (cI, 6, .inl bf))] sz) [(h0, .inr (4, [.int 0, .ref ow, .int re, .int (nI w), .int mt, .ref cl, .ref tu, .int (nI k), .ref lk, .ref f1, .ref s2, .ref ms, .ref nx, .ref bs, .int fd])), (ow, .inl (cJ, 3, .inr (.inl fo))), (cl, .inl (cI, 36, .inl cs)), (tu, .inl (cI, 36, .inl ts)), (lk, .inl (cJ, 3, .inr (.inl lo))), (f1, .inl (cJ, 6, .inr (.inl ff))), (s2, .inl (cJ, 6, .inr (.inl sf))), (ms, .inl (cI, 6, .inl mm)), (nx, .inl (cI, 6, .inl nf)), (bs, .inl (cI, 6, .inl bf))]) (va_A [(h0, .inr (4, [.int th, .ref ow, .int re, .int (nI w), .int mt, .ref cl, .ref tu, .int (nI k), .ref lk, .ref f1, .ref s2, .ref ms, .ref nx, .ref bs, .int fd])), (ow, .inl (cJ, 3, .inr (.inl fo))), (cl, .inl (cI, 36, .inl cs)), (tu, .inl (cI, 36, .inl ts)), (lk, .inl (cJ, 3, .inr (.inl lo))), (f1, .inl (cJ, 6, .inr (.inl ff))), (s2, .inl (cJ, 6, .inr (.inl sf))), (ms, .inl (cI, 6, .inl mm)), (nx, .inl (cI, 6, .inl nf)), (bs, .inl (cI, 6, .inl bf))] sz)) 0 0 (va_A [(h0, .inr (4, [.int th, .ref ow, .int re, .int (nI w), .int mt, .ref cl, .ref tu, .int (nI k), .ref lk, .ref f1, .ref s2, .ref ms, .ref nx, .ref bs, .int fd])), (ow, .inl (cJ, 3, .inr (.inl fo))), (cl, .inl (cI, 36, .inl cs)), (tu, .inl (cI, 36, .inl ts)), (lk, .inl (cJ, 3, .inr (.inl lo))), (f1, .inl (cJ, 6, .inr (.inl ff))), (s2, .inl (cJ, 6, .inr (.inl sf))), (ms, .inl (cI, 6, .inl mm)), (nx, .inl (cI, 6, .inl nf)), (bs, .inl (cI, 6, .inl bf))] sz) := by
  refine Met.ofW (cc := cX7_textAt) (maxL := 4) (ret := (some .char)) (by decide) rfl ?_
  intro p e s m args below meth c s₁ B hml hv
  obtain ⟨rfl, rfl, hP, hK, hD0⟩ := hv
  have hx := B.exec
  have hb := B.bytes
  have hr := B.returns
  have hts := atoms_spec (ws := wsX7_textAt) B.pre
  have hown : s.vm.findClass RX7 = some m.cls := findClass_of_methodNamed B.named
  have hlocks := B.notSynchronized
  have hD := hD0.self (sz := s.heap.size)
  generalize hAe : va_A [(h0, .inr (4, [.int th, .ref ow, .int re, .int (nI w), .int mt, .ref cl, .ref tu, .int (nI k), .ref lk, .ref f1, .ref s2, .ref ms, .ref nx, .ref bs, .int fd])), (ow, .inl (cJ, 3, .inr (.inl fo))), (cl, .inl (cI, 36, .inl cs)), (tu, .inl (cI, 36, .inl ts)), (lk, .inl (cJ, 3, .inr (.inl lo))), (f1, .inl (cJ, 6, .inr (.inl ff))), (s2, .inl (cJ, 6, .inr (.inl sf))), (ms, .inl (cI, 6, .inl mm)), (nx, .inl (cI, 6, .inl nf)), (bs, .inl (cI, 6, .inl bf))] s.heap.size = A at hD ⊢
  have hA : ∀ q : Nat, s.heap.size ≤ q → A q := fun q h => by rw [← hAe]; exact Or.inr h
  have hS : va_S A s.heap s.heap [] := va_S.rf
  have hinX7 : ∀ w ∈ wsX70, w ∈ wsX7_textAt := by decide +kernel
  have hfl83 : (Cond.fieldLink RX7 83 "TwistquadModel" "moves" "I").before ([.ref h0, .int (nI j), .int 3] : List Value).toArray s = true := hts _ (by decide +kernel)
  have hfl21 : (Cond.fieldLink RX7 21 "TwistquadModel" "turns" "[I").before ([.ref h0, .int (nI j), .int 3] : List Value).toArray s = true := hts _ (by decide +kernel)
  have hl := lv_entry ([.ref h0, .int (nI j), .int 3]) (n := 4) (Nat.le_of_ble_eq_true rfl)
  rw [lg_entry_eq]
  generalize (lg_sl ([.ref h0, .int (nI j), .int 3]) ++ List.replicate (4 - (lg_sl ([.ref h0, .int (nI j), .int 3])).length) Slot.unset).toArray = ls at hl ⊢
  have hl : lv_has ls 4 [(0, .ref h0), (1, .int (nI j)), (2, .int 3)] := hl
  refine lv_iload_n hx hb dX7_textAt_0 rfl (lv_at hl 1 rfl) ?_
  refine lv_iconst (v := 0) hx hb dX7_textAt_1 (by decide) ?_
  refine lv_aload_n hx hb dX7_textAt_2 rfl (lv_at hl 0 rfl) ?_
  refine va_get (D := D) (ci := 4) (v := .int (nI k)) (C := RX7) (T := TX7) (N := 15) hx hb hts hinX7 hown hK hP 0 rfl rfl 7 (by decide) hfl83 (fun _ h9 => h9) rfl dX7_textAt_3 ?_
  refine lv_iconst (v := 1) hx hb dX7_textAt_6 (by decide) ?_
  refine lv_isub hx hb dX7_textAt_7 ?_
  refine lv_topi (fun x7 ex7 => ?_)
  refine vp_callSi (W.runS (As := [.int (nI j), .int 0, .int x7]) (rest := []) ⟨hx, hb, hml, hown, hts⟩ (c_X7_in l (nI j) 0 x7) (va_cwS 3 hts gX7_textAt_X7_in rfl rfl rfl (by decide +kernel) ⟨Nat.le_of_ble_eq_true rfl, Nat.le_of_ble_eq_true rfl⟩) ⟨px_blind0, fun U hU hW => ⟨rfl, trivial⟩⟩ rfl rfl hl.1 rfl (lv_room (Nat.le_of_ble_eq_true rfl)) dX7_textAt_8 ⟨(Nat.le_of_ble_eq_true rfl), (Nat.le_of_ble_eq_true rfl)⟩) (fun r8 er8 => ?_)
  obtain rfl := er8.symm
  refine pk_b (P := 0 ≤ (nI j) ∧ (nI j) ≤ x7) (fun b8 => ?_) (fun b8 => ?_)
  · refine lv_if_eq (tgt := 33) hx hb dX7_textAt_11 (by decide) (fun c11 => ?_) (fun c11 => ?_)
    · exact absurd c11 (by decide)
    · refine lv_iload_n hx hb dX7_textAt_14 rfl (lv_at hl 2 rfl) ?_
      refine lv_iconst (v := 0) hx hb dX7_textAt_15 (by decide) ?_
      refine lv_aload_n hx hb dX7_textAt_16 rfl (lv_at hl 0 rfl) ?_
      refine lv_iload_n hx hb dX7_textAt_17 rfl (lv_at hl 1 rfl) ?_
      refine vp_callSi (W.runV (As := [.int (nI j)]) (rest := [.int 0, .int 3]) ⟨hx, hb, hml, hown, hts⟩ (c_X7_lengthOf l D cI cJ h0 ow cl tu lk f1 s2 ms nx bs th re mt fd w k fo lo ff sf cs ts mm nf bf j (by omega)) (cwV 1 hts gX7_textAt_X7_lengthOf rfl rfl rfl (by decide +kernel) ⟨Nat.le_of_ble_eq_true rfl, Nat.le_of_ble_eq_true rfl⟩) ⟨px_blindW, va_recv hK hP (ci := 4) (q0 := 0) rfl rfl, fun U hU hW => ⟨rfl, by rw [hU]; exact hP.sub (ws' := [(h0, .inr (4, [.int th, .ref ow, .int re, .int (nI w), .int mt, .ref cl, .ref tu, .int (nI k), .ref lk, .ref f1, .ref s2, .ref ms, .ref nx, .ref bs, .int fd])), (ow, .inl (cJ, 3, .inr (.inl fo))), (cl, .inl (cI, 36, .inl cs)), (tu, .inl (cI, 36, .inl ts)), (lk, .inl (cJ, 3, .inr (.inl lo))), (f1, .inl (cJ, 6, .inr (.inl ff))), (s2, .inl (cJ, 6, .inr (.inl sf))), (ms, .inl (cI, 6, .inl mm)), (nx, .inl (cI, 6, .inl nf)), (bs, .inl (cI, 6, .inl bf))]) [0, 1, 2, 3, 4, 5, 6, 7, 8, 9] rfl, va_K.moved hW.alike hK⟩⟩ rfl rfl hl.1 rfl (lv_room (Nat.le_of_ble_eq_true rfl)) dX7_textAt_18 ⟨(Nat.le_of_ble_eq_true rfl), (Nat.le_of_ble_eq_true rfl)⟩) (fun r18 er18 => ?_)
      obtain rfl := er18.symm
      refine lv_iconst (v := 1) hx hb dX7_textAt_21 (by decide) ?_
      refine lv_isub hx hb dX7_textAt_22 ?_
      refine lv_topi (fun x22 ex22 => ?_)
      refine vp_callSi (W.runS (As := [.int 3, .int 0, .int x22]) (rest := []) ⟨hx, hb, hml, hown, hts⟩ (c_X7_in l 3 0 x22) (va_cwS 3 hts gX7_textAt_X7_in rfl rfl rfl (by decide +kernel) ⟨Nat.le_of_ble_eq_true rfl, Nat.le_of_ble_eq_true rfl⟩) ⟨px_blind0, fun U hU hW => ⟨rfl, trivial⟩⟩ rfl rfl hl.1 rfl (lv_room (Nat.le_of_ble_eq_true rfl)) dX7_textAt_23 ⟨(Nat.le_of_ble_eq_true rfl), (Nat.le_of_ble_eq_true rfl)⟩) (fun r23 er23 => ?_)
      obtain rfl := er23.symm
      refine pk_b (P := 0 ≤ 3 ∧ 3 ≤ x22) (fun b23 => ?_) (fun b23 => ?_)
      · refine lv_if_eq (tgt := 33) hx hb dX7_textAt_26 (by decide) (fun c26 => ?_) (fun c26 => ?_)
        · exact absurd c26 (by decide)
        · refine lv_iconst (v := 1) hx hb dX7_textAt_29 (by decide) ?_
          refine lv_goto (tgt := 34) hx hb dX7_textAt_30 (by decide) ?_
          refine lv_istore_n (lv' := [(3, .int 1), (0, .ref h0), (1, .int (nI j)), (2, .int 3)]) hx hb dX7_textAt_34 rfl hl (by decide) rfl (fun ls hl => ?_)
          refine lv_aload_n hx hb dX7_textAt_35 rfl (lv_at hl 1 rfl) ?_
          refine lv_iload_n hx hb dX7_textAt_36 rfl (lv_at hl 0 rfl) ?_
          refine lv_if_eq (tgt := 44) hx hb dX7_textAt_37 (by decide) (fun c37 => ?_) (fun c37 => ?_)
          · exact absurd c37 (by decide)
          · refine lv_iconst (v := 0) hx hb dX7_textAt_40 (by decide) ?_
            refine lv_goto (tgt := 45) hx hb dX7_textAt_41 (by decide) ?_
            have hPc := hP.sub (ws' := [(h0, .inr (4, [.int th, .ref ow, .int re, .int (nI w), .int mt, .ref cl, .ref tu, .int (nI k), .ref lk, .ref f1, .ref s2, .ref ms, .ref nx, .ref bs, .int fd])), (ow, .inl (cJ, 3, .inr (.inl fo))), (cl, .inl (cI, 36, .inl cs)), (tu, .inl (cI, 36, .inl ts)), (lk, .inl (cJ, 3, .inr (.inl lo))), (f1, .inl (cJ, 6, .inr (.inl ff))), (s2, .inl (cJ, 6, .inr (.inl sf))), (ms, .inl (cI, 6, .inl mm)), (nx, .inl (cI, 6, .inl nf)), (bs, .inl (cI, 6, .inl bf))]) [0, 1, 2, 3, 4, 5, 6, 7, 8, 9] rfl
            have hDc := hD.sub (ws' := [(h0, .inr (4, [.int th, .ref ow, .int re, .int (nI w), .int mt, .ref cl, .ref tu, .int (nI k), .ref lk, .ref f1, .ref s2, .ref ms, .ref nx, .ref bs, .int fd])), (ow, .inl (cJ, 3, .inr (.inl fo))), (cl, .inl (cI, 36, .inl cs)), (tu, .inl (cI, 36, .inl ts)), (lk, .inl (cJ, 3, .inr (.inl lo))), (f1, .inl (cJ, 6, .inr (.inl ff))), (s2, .inl (cJ, 6, .inr (.inl sf))), (ms, .inl (cI, 6, .inl mm)), (nx, .inl (cI, 6, .inl nf)), (bs, .inl (cI, 6, .inl bf))]) [0, 1, 2, 3, 4, 5, 6, 7, 8, 9] (by decide) rfl
            have hFc := va_free (wc := [(h0, .inr (4, [.int th, .ref ow, .int re, .int (nI w), .int mt, .ref cl, .ref tu, .int (nI k), .ref lk, .ref f1, .ref s2, .ref ms, .ref nx, .ref bs, .int fd])), (ow, .inl (cJ, 3, .inr (.inl fo))), (cl, .inl (cI, 36, .inl cs)), (tu, .inl (cI, 36, .inl ts)), (lk, .inl (cJ, 3, .inr (.inl lo))), (f1, .inl (cJ, 6, .inr (.inl ff))), (s2, .inl (cJ, 6, .inr (.inl sf))), (ms, .inl (cI, 6, .inl mm)), (nx, .inl (cI, 6, .inl nf)), (bs, .inl (cI, 6, .inl bf))]) hD hS hA [0, 1, 2, 3, 4, 5, 6, 7, 8, 9] rfl
            refine va_calli (va_runV (As := [.int 0]) (rest := []) ⟨hx, hb, hml, hown, hts⟩ (c_X7_goesWell l D cI cJ s.heap.size  h0 ow cl tu lk f1 s2 ms nx bs th re mt fd w k fo lo ff sf cs ts mm nf bf 0) (cwV 1 hts gX7_textAt_X7_goesWell rfl rfl rfl (by decide +kernel) ⟨Nat.le_of_ble_eq_true rfl, Nat.le_of_ble_eq_true rfl⟩) ⟨pv_blind, va_recv hK hPc (ci := 4) (q0 := 0) rfl rfl, fun U hU hW => ⟨rfl, by rw [hU], by rw [hU]; exact hPc, va_K.moved hW.alike hK, hDc.weaken (fun _ _ _ _ => trivial)⟩⟩ rfl rfl hl.1 rfl (lv_room (Nat.le_of_ble_eq_true rfl)) dX7_textAt_45 ⟨(Nat.le_of_ble_eq_true rfl), (Nat.le_of_ble_eq_true rfl)⟩) hS (fun q _ h => hFc q h) hFc (fun r45 u t9 H1 locs hth hvm hw45 hB hz1 hk1 hS => ?_)
            try dsimp only at hw45
            obtain ⟨hP1, hK1, hD1⟩ := hB
            rw [hth] at hP1
            obtain ⟨hP, hD⟩ := va_join (wr := []) (w1 := [(h0, .inr (4, [.int 0, .ref ow, .int re, .int (nI w), .int mt, .ref cl, .ref tu, .int (nI k), .ref lk, .ref f1, .ref s2, .ref ms, .ref nx, .ref bs, .int fd])), (ow, .inl (cJ, 3, .inr (.inl fo))), (cl, .inl (cI, 36, .inl cs)), (tu, .inl (cI, 36, .inl ts)), (lk, .inl (cJ, 3, .inr (.inl lo))), (f1, .inl (cJ, 6, .inr (.inl ff))), (s2, .inl (cJ, 6, .inr (.inl sf))), (ms, .inl (cI, 6, .inl mm)), (nx, .inl (cI, 6, .inl nf)), (bs, .inl (cI, 6, .inl bf))]) hP hD [0, 1, 2, 3, 4, 5, 6, 7, 8, 9] [] rfl rfl (by decide) (by decide) hk1 hFc hP1 hD1
            generalize H1 = H at hP hS ⊢
            have hP : va_P D vwCl [(h0, .inr (4, [.int 0, .ref ow, .int re, .int (nI w), .int mt, .ref cl, .ref tu, .int (nI k), .ref lk, .ref f1, .ref s2, .ref ms, .ref nx, .ref bs, .int fd])), (ow, .inl (cJ, 3, .inr (.inl fo))), (cl, .inl (cI, 36, .inl cs)), (tu, .inl (cI, 36, .inl ts)), (lk, .inl (cJ, 3, .inr (.inl lo))), (f1, .inl (cJ, 6, .inr (.inl ff))), (s2, .inl (cJ, 6, .inr (.inl sf))), (ms, .inl (cI, 6, .inl mm)), (nx, .inl (cI, 6, .inl nf)), (bs, .inl (cI, 6, .inl bf))] H := hP.sub (ws' := [(h0, .inr (4, [.int 0, .ref ow, .int re, .int (nI w), .int mt, .ref cl, .ref tu, .int (nI k), .ref lk, .ref f1, .ref s2, .ref ms, .ref nx, .ref bs, .int fd])), (ow, .inl (cJ, 3, .inr (.inl fo))), (cl, .inl (cI, 36, .inl cs)), (tu, .inl (cI, 36, .inl ts)), (lk, .inl (cJ, 3, .inr (.inl lo))), (f1, .inl (cJ, 6, .inr (.inl ff))), (s2, .inl (cJ, 6, .inr (.inl sf))), (ms, .inl (cI, 6, .inl mm)), (nx, .inl (cI, 6, .inl nf)), (bs, .inl (cI, 6, .inl bf))]) [0, 1, 2, 3, 4, 5, 6, 7, 8, 9] rfl
            have hD : va_D A [(h0, .inr (4, [.int 0, .ref ow, .int re, .int (nI w), .int mt, .ref cl, .ref tu, .int (nI k), .ref lk, .ref f1, .ref s2, .ref ms, .ref nx, .ref bs, .int fd])), (ow, .inl (cJ, 3, .inr (.inl fo))), (cl, .inl (cI, 36, .inl cs)), (tu, .inl (cI, 36, .inl ts)), (lk, .inl (cJ, 3, .inr (.inl lo))), (f1, .inl (cJ, 6, .inr (.inl ff))), (s2, .inl (cJ, 6, .inr (.inl sf))), (ms, .inl (cI, 6, .inl mm)), (nx, .inl (cI, 6, .inl nf)), (bs, .inl (cI, 6, .inl bf))] := hD.sub (ws' := [(h0, .inr (4, [.int 0, .ref ow, .int re, .int (nI w), .int mt, .ref cl, .ref tu, .int (nI k), .ref lk, .ref f1, .ref s2, .ref ms, .ref nx, .ref bs, .int fd])), (ow, .inl (cJ, 3, .inr (.inl fo))), (cl, .inl (cI, 36, .inl cs)), (tu, .inl (cI, 36, .inl ts)), (lk, .inl (cJ, 3, .inr (.inl lo))), (f1, .inl (cJ, 6, .inr (.inl ff))), (s2, .inl (cJ, 6, .inr (.inl sf))), (ms, .inl (cI, 6, .inl mm)), (nx, .inl (cI, 6, .inl nf)), (bs, .inl (cI, 6, .inl bf))]) [0, 1, 2, 3, 4, 5, 6, 7, 8, 9] (by decide) rfl
            obtain rfl := hw45.symm
            refine pk_ti (y := 1) (if_pos (by decide)) ?_
            refine lv_if_ne (tgt := 54) hx hb dX7_textAt_48 (by decide) (fun c48 => ?_) (fun c48 => ?_)
            · refine lv_iload_n hx hb dX7_textAt_54 rfl (lv_at hl 3 rfl) ?_
              refine lv_iconst (v := 2) hx hb dX7_textAt_55 (by decide) ?_
              refine lv_icmp_ge (tgt := 92) hx hb dX7_textAt_56 (by decide) (fun c56 => ?_) (fun c56 => ?_)
              · refine lv_iload_n hx hb dX7_textAt_92 rfl (lv_at hl 3 rfl) ?_
                refine lv_iconst (v := 2) hx hb dX7_textAt_93 (by decide) ?_
                refine lv_icmp_ne (tgt := 112) hx hb dX7_textAt_94 (by decide) (fun c94 => ?_) (fun c94 => ?_)
                · refine lv_aload_n hx hb dX7_textAt_112 rfl (lv_at hl 1 rfl) ?_
                  refine va_get (D := D) (ci := 4) (v := .ref tu) (C := RX7) (T := TX7) (N := 15) hx hb hts hinX7 hown hK hP 0 rfl rfl 6 (by decide) hfl21 (fun _ h9 => h9) rfl dX7_textAt_113 ?_
                  refine lv_iload_n hx hb dX7_textAt_116 rfl (lv_at hl 2 rfl) ?_
                  refine va_iald hx hb hK hP 3 0 rfl rfl (vp_in_nI (n := j) (N := 36) (by omega) (by decide)) dX7_textAt_117 ?_
                  refine pk_ti (y := (nI tn)) ((congrArg ts (pk_cl j)).trans (ht9)) ?_
                  refine lv_iconst (v := 2) hx hb dX7_textAt_118 (by decide) ?_
                  refine lv_irem hx hb dX7_textAt_119 (by decide) ?_
                  refine pk_ti (y := nI (tn % 2)) (pk_rem (a := tn) (d := 2) (by omega) (by omega) (by omega)) ?_
                  refine lv_if_ne (tgt := 128) hx hb dX7_textAt_120 (by decide) (fun c120 => ?_) (fun c120 => ?_)
                  · have c120 : ¬ (tn % 2) = 0 := _root_.mt (nq_eq (a := (tn % 2)) (b := 0) (by omega) (by omega)).mpr c120
                    refine lv_bipush (v := 76) hx hb dX7_textAt_128 (by decide) ?_
                    obtain rfl := ex7.symm; obtain rfl := ex22.symm
                    refine W.zret (v := 76) hx hb hr (rfl) (fun tt ht hW => ⟨⟨76, (), rfl, ?_, by rw [ht]; exact hP, va_K.moved hW.alike hK, hD⟩, hS.F ht⟩) hS.2.2 dX7_textAt_130
                    first | exact rfl | exact (if_pos c120).symm | exact (if_neg c120).symm
                  · have c120 : (tn % 2) = 0 := (nq_eq (a := (tn % 2)) (b := 0) (by omega) (by omega)).mp c120
                    refine lv_bipush (v := 82) hx hb dX7_textAt_123 (by decide) ?_
                    refine lv_goto (tgt := 130) hx hb dX7_textAt_125 (by decide) ?_
                    obtain rfl := ex7.symm; obtain rfl := ex22.symm
                    refine W.zret (v := 82) hx hb hr (rfl) (fun tt ht hW => ⟨⟨82, (), rfl, ?_, by rw [ht]; exact hP, va_K.moved hW.alike hK, hD⟩, hS.F ht⟩) hS.2.2 dX7_textAt_130
                    first | exact rfl | exact (if_pos c120).symm | exact (if_neg c120).symm
                · exact absurd c94 (by decide)
              · exact absurd c56 (by decide)
            · exact absurd c48 (by decide)
      · exact absurd (by obtain rfl := ex7.symm; obtain rfl := ex22.symm; exact tx_23 (by decide) (fun h => nI_ne_m1 (by omega) (ht9.symm.trans h))) b23
  · exact absurd (by obtain rfl := ex7.symm; exact mv_in1 hj hk) b8

set_option maxHeartbeats 400000 in
set_option maxRecDepth 100000 in
theorem c_X7_lay_ok (l : Launch) (D : va_G) (cI cJ : ClassId) (sz : Nat) (h0 ow cl tu lk f1 s2 ms nx bs : Nat) (th re mt fd : Int32) (w k : Nat) (fo lo ff sf : Nat → Int64) (cs ts mm nf bf : Nat → Int32) (f g : Int64) (hc : mlayok f g) : Met l yX7_lay wsX7_lay ({ frames := 4, cells := 0, slots := 0, locals := 97 } : Room) (va_Pc [.ref h0, .long f, .long g] (pv_C D cI cJ [(h0, .inr (4, [.int th, .ref ow, .int re, .int (nI w), .int mt, .ref cl, .ref tu, .int (nI k), .ref lk, .ref f1, .ref s2, .ref ms, .ref nx, .ref bs, .int fd])), (ow, .inl (cJ, 3, .inr (.inl fo))), (cl, .inl (cI, 36, .inl cs)), (tu, .inl (cI, 36, .inl ts)), (lk, .inl (cJ, 3, .inr (.inl lo))), (f1, .inl (cJ, 6, .inr (.inl ff))), (s2, .inl (cJ, 6, .inr (.inl sf))), (ms, .inl (cI, 6, .inl mm)), (nx, .inl (cI, 6, .inl nf)), (bs, .inl (cI, 6, .inl bf))] sz)) (va_Qi (fun (r : Int32) (u : (Nat)) => r = mjudge f g ∧ u = (if msize f 36 = msize g 36 then 1 else 2)) (fun (u : (Nat)) => pv_B D cI cJ (va_A [(h0, .inr (4, [.int th, .ref ow, .int re, .int (nI w), .int mt, .ref cl, .ref tu, .int (nI k), .ref lk, .ref f1, .ref s2, .ref ms, .ref nx, .ref bs, .int fd])), (ow, .inl (cJ, 3, .inr (.inl fo))), (cl, .inl (cI, 36, .inl cs)), (tu, .inl (cI, 36, .inl ts)), (lk, .inl (cJ, 3, .inr (.inl lo))), (f1, .inl (cJ, 6, .inr (.inl ff))), (s2, .inl (cJ, 6, .inr (.inl sf))), (ms, .inl (cI, 6, .inl mm)), (nx, .inl (cI, 6, .inl nf)), (bs, .inl (cI, 6, .inl bf))] sz) [(h0, .inr (4, [.int 0, .ref ow, .int (mjudge f g), .int (nI u), .int 0, .ref cl, .ref tu, .int 0, .ref lk, .ref f1, .ref s2, .ref ms, .ref nx, .ref bs, .int fd])), (ow, .inl (cJ, 3, .inr (.inl (vp_updL (vp_updL fo 1 f) 2 g)))), (cl, .inl (cI, 36, .inl cs)), (tu, .inl (cI, 36, .inl ts)), (lk, .inl (cJ, 3, .inr (.inl lo))), (f1, .inl (cJ, 6, .inr (.inl ff))), (s2, .inl (cJ, 6, .inr (.inl sf))), (ms, .inl (cI, 6, .inl mm)), (nx, .inl (cI, 6, .inl nf)), (bs, .inl (cI, 6, .inl bf))]) (va_A [(h0, .inr (4, [.int th, .ref ow, .int re, .int (nI w), .int mt, .ref cl, .ref tu, .int (nI k), .ref lk, .ref f1, .ref s2, .ref ms, .ref nx, .ref bs, .int fd])), (ow, .inl (cJ, 3, .inr (.inl fo))), (cl, .inl (cI, 36, .inl cs)), (tu, .inl (cI, 36, .inl ts)), (lk, .inl (cJ, 3, .inr (.inl lo))), (f1, .inl (cJ, 6, .inr (.inl ff))), (s2, .inl (cJ, 6, .inr (.inl sf))), (ms, .inl (cI, 6, .inl mm)), (nx, .inl (cI, 6, .inl nf)), (bs, .inl (cI, 6, .inl bf))] sz)) 0 0 (va_A [(h0, .inr (4, [.int th, .ref ow, .int re, .int (nI w), .int mt, .ref cl, .ref tu, .int (nI k), .ref lk, .ref f1, .ref s2, .ref ms, .ref nx, .ref bs, .int fd])), (ow, .inl (cJ, 3, .inr (.inl fo))), (cl, .inl (cI, 36, .inl cs)), (tu, .inl (cI, 36, .inl ts)), (lk, .inl (cJ, 3, .inr (.inl lo))), (f1, .inl (cJ, 6, .inr (.inl ff))), (s2, .inl (cJ, 6, .inr (.inl sf))), (ms, .inl (cI, 6, .inl mm)), (nx, .inl (cI, 6, .inl nf)), (bs, .inl (cI, 6, .inl bf))] sz) := by
  refine Met.ofW (cc := cX7_lay) (maxL := 7) (ret := (some .int)) (by decide) rfl ?_
  intro p e s m args below meth c s₁ B hml hv
  obtain ⟨rfl, rfl, hP, hK, hD0⟩ := hv
  have hx := B.exec
  have hb := B.bytes
  have hr := B.returns
  have hts := atoms_spec (ws := wsX7_lay) B.pre
  have hown : s.vm.findClass RX7 = some m.cls := findClass_of_methodNamed B.named
  have hlocks := B.notSynchronized
  have hD := hD0.self (sz := s.heap.size)
  generalize hAe : va_A [(h0, .inr (4, [.int th, .ref ow, .int re, .int (nI w), .int mt, .ref cl, .ref tu, .int (nI k), .ref lk, .ref f1, .ref s2, .ref ms, .ref nx, .ref bs, .int fd])), (ow, .inl (cJ, 3, .inr (.inl fo))), (cl, .inl (cI, 36, .inl cs)), (tu, .inl (cI, 36, .inl ts)), (lk, .inl (cJ, 3, .inr (.inl lo))), (f1, .inl (cJ, 6, .inr (.inl ff))), (s2, .inl (cJ, 6, .inr (.inl sf))), (ms, .inl (cI, 6, .inl mm)), (nx, .inl (cI, 6, .inl nf)), (bs, .inl (cI, 6, .inl bf))] s.heap.size = A at hD ⊢
  have hA : ∀ q : Nat, s.heap.size ≤ q → A q := fun q h => by rw [← hAe]; exact Or.inr h
  have hS : va_S A s.heap s.heap [] := va_S.rf
  have hinX7 : ∀ w ∈ wsX70, w ∈ wsX7_lay := by decide +kernel
  have hfl7 : (Cond.fieldLink RX7 7 "TwistquadModel" "own" "[J").before ([.ref h0, .long f, .long g] : List Value).toArray s = true := hts _ (by decide +kernel)
  have hfl13 : (Cond.fieldLink RX7 13 "TwistquadModel" "mover" "I").before ([.ref h0, .long f, .long g] : List Value).toArray s = true := hts _ (by decide +kernel)
  have hfl76 : (Cond.fieldLink RX7 76 "TwistquadModel" "mustTurn" "Z").before ([.ref h0, .long f, .long g] : List Value).toArray s = true := hts _ (by decide +kernel)
  have hfl83 : (Cond.fieldLink RX7 83 "TwistquadModel" "moves" "I").before ([.ref h0, .long f, .long g] : List Value).toArray s = true := hts _ (by decide +kernel)
  have hfl73 : (Cond.fieldLink RX7 73 "TwistquadModel" "result" "I").before ([.ref h0, .long f, .long g] : List Value).toArray s = true := hts _ (by decide +kernel)
  have hl := lv_entry ([.ref h0, .long f, .long g]) (n := 7) (Nat.le_of_ble_eq_true rfl)
  rw [lg_entry_eq]
  generalize (lg_sl ([.ref h0, .long f, .long g]) ++ List.replicate (7 - (lg_sl ([.ref h0, .long f, .long g])).length) Slot.unset).toArray = ls at hl ⊢
  have hl : lv_has ls 7 [(0, .ref h0), (1, .long f), (3, .long g)] := hl
  refine lv_lload_n hx hb dX7_lay_0 rfl (lv_at hl 1 rfl) ?_
  refine vp_callSi (W.runS (As := [.long f]) (rest := []) ⟨hx, hb, hml, hown, hts⟩ (c_X7_sizeOf l f) (va_cwS 1 hts gX7_lay_X7_sizeOf rfl rfl rfl (by decide +kernel) ⟨Nat.le_of_ble_eq_true rfl, Nat.le_of_ble_eq_true rfl⟩) ⟨px_blind0, fun U hU hW => ⟨rfl, trivial⟩⟩ rfl rfl hl.1 rfl (lv_room (Nat.le_of_ble_eq_true rfl)) dX7_lay_1 ⟨(Nat.le_of_ble_eq_true rfl), (Nat.le_of_ble_eq_true rfl)⟩) (fun r1 er1 => ?_)
  obtain rfl := er1.symm
  refine lv_lload_n hx hb dX7_lay_4 rfl (lv_at hl 2 rfl) ?_
  refine vp_callSi (W.runS (As := [.long g]) (rest := [.int (nI (msize f 36))]) ⟨hx, hb, hml, hown, hts⟩ (c_X7_sizeOf l g) (va_cwS 1 hts gX7_lay_X7_sizeOf rfl rfl rfl (by decide +kernel) ⟨Nat.le_of_ble_eq_true rfl, Nat.le_of_ble_eq_true rfl⟩) ⟨px_blind0, fun U hU hW => ⟨rfl, trivial⟩⟩ rfl rfl hl.1 rfl (lv_room (Nat.le_of_ble_eq_true rfl)) dX7_lay_5 ⟨(Nat.le_of_ble_eq_true rfl), (Nat.le_of_ble_eq_true rfl)⟩) (fun r5 er5 => ?_)
  obtain rfl := er5.symm
  refine lv_isub hx hb dX7_lay_8 ?_
  refine lv_topi (fun x8 ex8 => ?_)
  refine lv_istore (lv' := [(5, .int x8), (0, .ref h0), (1, .long f), (3, .long g)]) hx hb dX7_lay_9 hl (by decide) rfl (fun ls hl => ?_)
  refine lv_lload_n hx hb dX7_lay_11 rfl (lv_at hl 2 rfl) ?_
  refine lv_lload_n hx hb dX7_lay_12 rfl (lv_at hl 3 rfl) ?_
  refine lv_lor hx hb dX7_lay_13 ?_
  refine lv_topl (fun x13 ex13 => ?_)
  refine lv_ldc2 (v := (-68719476736)) hx hb hown (hts (.constantLong RX7 102 (-68719476736)) (by decide +kernel)) dX7_lay_14 ?_
  refine lv_land hx hb dX7_lay_17 ?_
  refine lv_topl (fun x17 ex17 => ?_)
  refine lv_lconst (v := 0) hx hb dX7_lay_18 (by decide) ?_
  refine W.lcmp hx hb dX7_lay_19 ?_
  refine lv_if_ne (tgt := 45) hx hb dX7_lay_20 (by decide) (fun c20 => ?_) (fun c20 => ?_)
  · exact absurd hc.1 (by obtain rfl := ex8.symm; obtain rfl := ex13.symm; obtain rfl := ex17.symm; rw [lg_cmp_eq] at c20; exact c20)
  · rw [lg_cmp_eq] at c20
    refine lv_lload_n hx hb dX7_lay_23 rfl (lv_at hl 2 rfl) ?_
    refine lv_lload_n hx hb dX7_lay_24 rfl (lv_at hl 3 rfl) ?_
    refine lv_land hx hb dX7_lay_25 ?_
    refine lv_topl (fun x25 ex25 => ?_)
    refine lv_lconst (v := 0) hx hb dX7_lay_26 (by decide) ?_
    refine W.lcmp hx hb dX7_lay_27 ?_
    refine lv_if_ne (tgt := 45) hx hb dX7_lay_28 (by decide) (fun c28 => ?_) (fun c28 => ?_)
    · exact absurd hc.2.1 (by obtain rfl := ex8.symm; obtain rfl := ex13.symm; obtain rfl := ex17.symm; obtain rfl := ex25.symm; rw [lg_cmp_eq] at c28; exact c28)
    · rw [lg_cmp_eq] at c28
      refine lv_iload hx hb dX7_lay_31 (lv_at hl 0 rfl) ?_
      refine lv_iconst (v := 0) hx hb dX7_lay_33 (by decide) ?_
      refine lv_iconst (v := 1) hx hb dX7_lay_34 (by decide) ?_
      refine vp_callSi (W.runS (As := [.int x8, .int 0, .int 1]) (rest := []) ⟨hx, hb, hml, hown, hts⟩ (c_X7_in l x8 0 1) (va_cwS 3 hts gX7_lay_X7_in rfl rfl rfl (by decide +kernel) ⟨Nat.le_of_ble_eq_true rfl, Nat.le_of_ble_eq_true rfl⟩) ⟨px_blind0, fun U hU hW => ⟨rfl, trivial⟩⟩ rfl rfl hl.1 rfl (lv_room (Nat.le_of_ble_eq_true rfl)) dX7_lay_35 ⟨(Nat.le_of_ble_eq_true rfl), (Nat.le_of_ble_eq_true rfl)⟩) (fun r35 er35 => ?_)
      obtain rfl := er35.symm
      refine pk_b (P := 0 ≤ x8 ∧ x8 ≤ 1) (fun b35 => ?_) (fun b35 => ?_)
      · refine lv_if_eq (tgt := 45) hx hb dX7_lay_38 (by decide) (fun c38 => ?_) (fun c38 => ?_)
        · exact absurd c38 (by decide)
        · refine lv_iconst (v := 1) hx hb dX7_lay_41 (by decide) ?_
          refine lv_goto (tgt := 46) hx hb dX7_lay_42 (by decide) ?_
          refine lv_istore (lv' := [(6, .int 1), (5, .int x8), (0, .ref h0), (1, .long f), (3, .long g)]) hx hb dX7_lay_46 hl (by decide) rfl (fun ls hl => ?_)
          refine lv_aload_n hx hb dX7_lay_48 rfl (lv_at hl 2 rfl) ?_
          refine lv_iload hx hb dX7_lay_49 (lv_at hl 0 rfl) ?_
          refine lv_if_eq (tgt := 58) hx hb dX7_lay_51 (by decide) (fun c51 => ?_) (fun c51 => ?_)
          · exact absurd c51 (by decide)
          · refine lv_iconst (v := 0) hx hb dX7_lay_54 (by decide) ?_
            refine lv_goto (tgt := 59) hx hb dX7_lay_55 (by decide) ?_
            have hPc := hP.sub (ws' := [(h0, .inr (4, [.int th, .ref ow, .int re, .int (nI w), .int mt, .ref cl, .ref tu, .int (nI k), .ref lk, .ref f1, .ref s2, .ref ms, .ref nx, .ref bs, .int fd])), (ow, .inl (cJ, 3, .inr (.inl fo))), (cl, .inl (cI, 36, .inl cs)), (tu, .inl (cI, 36, .inl ts)), (lk, .inl (cJ, 3, .inr (.inl lo))), (f1, .inl (cJ, 6, .inr (.inl ff))), (s2, .inl (cJ, 6, .inr (.inl sf))), (ms, .inl (cI, 6, .inl mm)), (nx, .inl (cI, 6, .inl nf)), (bs, .inl (cI, 6, .inl bf))]) [0, 1, 2, 3, 4, 5, 6, 7, 8, 9] rfl
            have hDc := hD.sub (ws' := [(h0, .inr (4, [.int th, .ref ow, .int re, .int (nI w), .int mt, .ref cl, .ref tu, .int (nI k), .ref lk, .ref f1, .ref s2, .ref ms, .ref nx, .ref bs, .int fd])), (ow, .inl (cJ, 3, .inr (.inl fo))), (cl, .inl (cI, 36, .inl cs)), (tu, .inl (cI, 36, .inl ts)), (lk, .inl (cJ, 3, .inr (.inl lo))), (f1, .inl (cJ, 6, .inr (.inl ff))), (s2, .inl (cJ, 6, .inr (.inl sf))), (ms, .inl (cI, 6, .inl mm)), (nx, .inl (cI, 6, .inl nf)), (bs, .inl (cI, 6, .inl bf))]) [0, 1, 2, 3, 4, 5, 6, 7, 8, 9] (by decide) rfl
            have hFc := va_free (wc := [(h0, .inr (4, [.int th, .ref ow, .int re, .int (nI w), .int mt, .ref cl, .ref tu, .int (nI k), .ref lk, .ref f1, .ref s2, .ref ms, .ref nx, .ref bs, .int fd])), (ow, .inl (cJ, 3, .inr (.inl fo))), (cl, .inl (cI, 36, .inl cs)), (tu, .inl (cI, 36, .inl ts)), (lk, .inl (cJ, 3, .inr (.inl lo))), (f1, .inl (cJ, 6, .inr (.inl ff))), (s2, .inl (cJ, 6, .inr (.inl sf))), (ms, .inl (cI, 6, .inl mm)), (nx, .inl (cI, 6, .inl nf)), (bs, .inl (cI, 6, .inl bf))]) hD hS hA [0, 1, 2, 3, 4, 5, 6, 7, 8, 9] rfl
            refine va_calli (va_runV (As := [.int 0]) (rest := []) ⟨hx, hb, hml, hown, hts⟩ (c_X7_goesWell l D cI cJ s.heap.size  h0 ow cl tu lk f1 s2 ms nx bs th re mt fd w k fo lo ff sf cs ts mm nf bf 0) (cwV 1 hts gX7_lay_X7_goesWell rfl rfl rfl (by decide +kernel) ⟨Nat.le_of_ble_eq_true rfl, Nat.le_of_ble_eq_true rfl⟩) ⟨pv_blind, va_recv hK hPc (ci := 4) (q0 := 0) rfl rfl, fun U hU hW => ⟨rfl, by rw [hU], by rw [hU]; exact hPc, va_K.moved hW.alike hK, hDc.weaken (fun _ _ _ _ => trivial)⟩⟩ rfl rfl hl.1 rfl (lv_room (Nat.le_of_ble_eq_true rfl)) dX7_lay_59 ⟨(Nat.le_of_ble_eq_true rfl), (Nat.le_of_ble_eq_true rfl)⟩) hS (fun q _ h => hFc q h) hFc (fun r59 u t9 H1 locs hth hvm hw59 hB hz1 hk1 hS => ?_)
            try dsimp only at hw59
            obtain ⟨hP1, hK1, hD1⟩ := hB
            rw [hth] at hP1
            obtain ⟨hP, hD⟩ := va_join (wr := []) (w1 := [(h0, .inr (4, [.int 0, .ref ow, .int re, .int (nI w), .int mt, .ref cl, .ref tu, .int (nI k), .ref lk, .ref f1, .ref s2, .ref ms, .ref nx, .ref bs, .int fd])), (ow, .inl (cJ, 3, .inr (.inl fo))), (cl, .inl (cI, 36, .inl cs)), (tu, .inl (cI, 36, .inl ts)), (lk, .inl (cJ, 3, .inr (.inl lo))), (f1, .inl (cJ, 6, .inr (.inl ff))), (s2, .inl (cJ, 6, .inr (.inl sf))), (ms, .inl (cI, 6, .inl mm)), (nx, .inl (cI, 6, .inl nf)), (bs, .inl (cI, 6, .inl bf))]) hP hD [0, 1, 2, 3, 4, 5, 6, 7, 8, 9] [] rfl rfl (by decide) (by decide) hk1 hFc hP1 hD1
            generalize H1 = H at hP hS ⊢
            have hP : va_P D vwCl [(h0, .inr (4, [.int 0, .ref ow, .int re, .int (nI w), .int mt, .ref cl, .ref tu, .int (nI k), .ref lk, .ref f1, .ref s2, .ref ms, .ref nx, .ref bs, .int fd])), (ow, .inl (cJ, 3, .inr (.inl fo))), (cl, .inl (cI, 36, .inl cs)), (tu, .inl (cI, 36, .inl ts)), (lk, .inl (cJ, 3, .inr (.inl lo))), (f1, .inl (cJ, 6, .inr (.inl ff))), (s2, .inl (cJ, 6, .inr (.inl sf))), (ms, .inl (cI, 6, .inl mm)), (nx, .inl (cI, 6, .inl nf)), (bs, .inl (cI, 6, .inl bf))] H := hP.sub (ws' := [(h0, .inr (4, [.int 0, .ref ow, .int re, .int (nI w), .int mt, .ref cl, .ref tu, .int (nI k), .ref lk, .ref f1, .ref s2, .ref ms, .ref nx, .ref bs, .int fd])), (ow, .inl (cJ, 3, .inr (.inl fo))), (cl, .inl (cI, 36, .inl cs)), (tu, .inl (cI, 36, .inl ts)), (lk, .inl (cJ, 3, .inr (.inl lo))), (f1, .inl (cJ, 6, .inr (.inl ff))), (s2, .inl (cJ, 6, .inr (.inl sf))), (ms, .inl (cI, 6, .inl mm)), (nx, .inl (cI, 6, .inl nf)), (bs, .inl (cI, 6, .inl bf))]) [0, 1, 2, 3, 4, 5, 6, 7, 8, 9] rfl
            have hD : va_D A [(h0, .inr (4, [.int 0, .ref ow, .int re, .int (nI w), .int mt, .ref cl, .ref tu, .int (nI k), .ref lk, .ref f1, .ref s2, .ref ms, .ref nx, .ref bs, .int fd])), (ow, .inl (cJ, 3, .inr (.inl fo))), (cl, .inl (cI, 36, .inl cs)), (tu, .inl (cI, 36, .inl ts)), (lk, .inl (cJ, 3, .inr (.inl lo))), (f1, .inl (cJ, 6, .inr (.inl ff))), (s2, .inl (cJ, 6, .inr (.inl sf))), (ms, .inl (cI, 6, .inl mm)), (nx, .inl (cI, 6, .inl nf)), (bs, .inl (cI, 6, .inl bf))] := hD.sub (ws' := [(h0, .inr (4, [.int 0, .ref ow, .int re, .int (nI w), .int mt, .ref cl, .ref tu, .int (nI k), .ref lk, .ref f1, .ref s2, .ref ms, .ref nx, .ref bs, .int fd])), (ow, .inl (cJ, 3, .inr (.inl fo))), (cl, .inl (cI, 36, .inl cs)), (tu, .inl (cI, 36, .inl ts)), (lk, .inl (cJ, 3, .inr (.inl lo))), (f1, .inl (cJ, 6, .inr (.inl ff))), (s2, .inl (cJ, 6, .inr (.inl sf))), (ms, .inl (cI, 6, .inl mm)), (nx, .inl (cI, 6, .inl nf)), (bs, .inl (cI, 6, .inl bf))]) [0, 1, 2, 3, 4, 5, 6, 7, 8, 9] (by decide) rfl
            obtain rfl := hw59.symm
            refine pk_ti (y := 1) (if_pos (by decide)) ?_
            refine lv_if_ne (tgt := 67) hx hb dX7_lay_62 (by decide) (fun c62 => ?_) (fun c62 => ?_)
            · refine lv_aload_n hx hb dX7_lay_67 rfl (lv_at hl 2 rfl) ?_
              refine va_get (D := D) (ci := 4) (v := .ref ow) (C := RX7) (T := TX7) (N := 15) hx hb hts hinX7 hown hK hP 0 rfl rfl 1 (by decide) hfl7 (fun _ h9 => h9) rfl dX7_lay_68 ?_
              refine lv_iconst (v := 1) hx hb dX7_lay_71 (by decide) ?_
              refine lv_lload_n hx hb dX7_lay_72 rfl (lv_at hl 3 rfl) ?_
              refine va_last hx hb hK hP hD hS 1 1 rfl rfl (vp_in_nI (n := 1) (N := 3) (by omega) (by decide)) dX7_lay_73 (fun H locs hP hD hS => ?_)
              have hu73 : (1 : Int32).toNatClampNeg = 1 := pk_cl 1
              rw [hu73] at hP hD
              have hP : va_P D vwCl [(h0, .inr (4, [.int 0, .ref ow, .int re, .int (nI w), .int mt, .ref cl, .ref tu, .int (nI k), .ref lk, .ref f1, .ref s2, .ref ms, .ref nx, .ref bs, .int fd])), (ow, .inl (cJ, 3, .inr (.inl (vp_updL fo 1 f)))), (cl, .inl (cI, 36, .inl cs)), (tu, .inl (cI, 36, .inl ts)), (lk, .inl (cJ, 3, .inr (.inl lo))), (f1, .inl (cJ, 6, .inr (.inl ff))), (s2, .inl (cJ, 6, .inr (.inl sf))), (ms, .inl (cI, 6, .inl mm)), (nx, .inl (cI, 6, .inl nf)), (bs, .inl (cI, 6, .inl bf))] H := hP
              have hD : va_D A [(h0, .inr (4, [.int 0, .ref ow, .int re, .int (nI w), .int mt, .ref cl, .ref tu, .int (nI k), .ref lk, .ref f1, .ref s2, .ref ms, .ref nx, .ref bs, .int fd])), (ow, .inl (cJ, 3, .inr (.inl (vp_updL fo 1 f)))), (cl, .inl (cI, 36, .inl cs)), (tu, .inl (cI, 36, .inl ts)), (lk, .inl (cJ, 3, .inr (.inl lo))), (f1, .inl (cJ, 6, .inr (.inl ff))), (s2, .inl (cJ, 6, .inr (.inl sf))), (ms, .inl (cI, 6, .inl mm)), (nx, .inl (cI, 6, .inl nf)), (bs, .inl (cI, 6, .inl bf))] := hD
              refine lv_aload_n hx hb dX7_lay_74 rfl (lv_at hl 2 rfl) ?_
              refine va_get (D := D) (ci := 4) (v := .ref ow) (C := RX7) (T := TX7) (N := 15) hx hb hts hinX7 hown hK hP 0 rfl rfl 1 (by decide) hfl7 (fun _ h9 => h9) rfl dX7_lay_75 ?_
              refine lv_iconst (v := 2) hx hb dX7_lay_78 (by decide) ?_
              refine lv_lload_n hx hb dX7_lay_79 rfl (lv_at hl 4 rfl) ?_
              refine va_last hx hb hK hP hD hS 1 1 rfl rfl (vp_in_nI (n := 2) (N := 3) (by omega) (by decide)) dX7_lay_80 (fun H locs hP hD hS => ?_)
              have hu80 : (2 : Int32).toNatClampNeg = 2 := pk_cl 2
              rw [hu80] at hP hD
              have hP : va_P D vwCl [(h0, .inr (4, [.int 0, .ref ow, .int re, .int (nI w), .int mt, .ref cl, .ref tu, .int (nI k), .ref lk, .ref f1, .ref s2, .ref ms, .ref nx, .ref bs, .int fd])), (ow, .inl (cJ, 3, .inr (.inl (vp_updL (vp_updL fo 1 f) 2 g)))), (cl, .inl (cI, 36, .inl cs)), (tu, .inl (cI, 36, .inl ts)), (lk, .inl (cJ, 3, .inr (.inl lo))), (f1, .inl (cJ, 6, .inr (.inl ff))), (s2, .inl (cJ, 6, .inr (.inl sf))), (ms, .inl (cI, 6, .inl mm)), (nx, .inl (cI, 6, .inl nf)), (bs, .inl (cI, 6, .inl bf))] H := hP
              have hD : va_D A [(h0, .inr (4, [.int 0, .ref ow, .int re, .int (nI w), .int mt, .ref cl, .ref tu, .int (nI k), .ref lk, .ref f1, .ref s2, .ref ms, .ref nx, .ref bs, .int fd])), (ow, .inl (cJ, 3, .inr (.inl (vp_updL (vp_updL fo 1 f) 2 g)))), (cl, .inl (cI, 36, .inl cs)), (tu, .inl (cI, 36, .inl ts)), (lk, .inl (cJ, 3, .inr (.inl lo))), (f1, .inl (cJ, 6, .inr (.inl ff))), (s2, .inl (cJ, 6, .inr (.inl sf))), (ms, .inl (cI, 6, .inl mm)), (nx, .inl (cI, 6, .inl nf)), (bs, .inl (cI, 6, .inl bf))] := hD
              refine lv_aload_n hx hb dX7_lay_81 rfl (lv_at hl 2 rfl) ?_
              refine lv_iload hx hb dX7_lay_82 (lv_at hl 1 rfl) ?_
              refine lv_if_ne (tgt := 91) hx hb dX7_lay_84 (by decide) (fun c84 => ?_) (fun c84 => ?_)
              · refine lv_iconst (v := 2) hx hb dX7_lay_91 (by decide) ?_
                refine va_put (D := D) (ci := 4) (v := .int 2) (ty := .int) (C := RX7) (T := TX7) (N := 15) hx hb hts hinX7 tyX7 tyX7_ok nmX7 hown hK hP hD hS 0 rfl rfl 3 (by decide) hfl13 (fun _ h9 => h9) rfl (by decide +kernel) rfl rfl (Nat.le_of_ble_eq_true rfl) dX7_lay_92 (fun H locs hP hD hS => ?_)
                have hP : va_P D vwCl [(h0, .inr (4, [.int 0, .ref ow, .int re, .int 2, .int mt, .ref cl, .ref tu, .int (nI k), .ref lk, .ref f1, .ref s2, .ref ms, .ref nx, .ref bs, .int fd])), (ow, .inl (cJ, 3, .inr (.inl (vp_updL (vp_updL fo 1 f) 2 g)))), (cl, .inl (cI, 36, .inl cs)), (tu, .inl (cI, 36, .inl ts)), (lk, .inl (cJ, 3, .inr (.inl lo))), (f1, .inl (cJ, 6, .inr (.inl ff))), (s2, .inl (cJ, 6, .inr (.inl sf))), (ms, .inl (cI, 6, .inl mm)), (nx, .inl (cI, 6, .inl nf)), (bs, .inl (cI, 6, .inl bf))] H := hP
                have hD : va_D A [(h0, .inr (4, [.int 0, .ref ow, .int re, .int 2, .int mt, .ref cl, .ref tu, .int (nI k), .ref lk, .ref f1, .ref s2, .ref ms, .ref nx, .ref bs, .int fd])), (ow, .inl (cJ, 3, .inr (.inl (vp_updL (vp_updL fo 1 f) 2 g)))), (cl, .inl (cI, 36, .inl cs)), (tu, .inl (cI, 36, .inl ts)), (lk, .inl (cJ, 3, .inr (.inl lo))), (f1, .inl (cJ, 6, .inr (.inl ff))), (s2, .inl (cJ, 6, .inr (.inl sf))), (ms, .inl (cI, 6, .inl mm)), (nx, .inl (cI, 6, .inl nf)), (bs, .inl (cI, 6, .inl bf))] := hD
                refine lv_aload_n hx hb dX7_lay_95 rfl (lv_at hl 2 rfl) ?_
                refine lv_iconst (v := 0) hx hb dX7_lay_96 (by decide) ?_
                refine va_put (D := D) (ci := 4) (v := .int 0) (ty := .boolean) (C := RX7) (T := TX7) (N := 15) hx hb hts hinX7 tyX7 tyX7_ok nmX7 hown hK hP hD hS 0 rfl rfl 4 (by decide) hfl76 (fun _ h9 => h9) rfl (by decide +kernel) rfl rfl (Nat.le_of_ble_eq_true rfl) dX7_lay_97 (fun H locs hP hD hS => ?_)
                have hP : va_P D vwCl [(h0, .inr (4, [.int 0, .ref ow, .int re, .int 2, .int 0, .ref cl, .ref tu, .int (nI k), .ref lk, .ref f1, .ref s2, .ref ms, .ref nx, .ref bs, .int fd])), (ow, .inl (cJ, 3, .inr (.inl (vp_updL (vp_updL fo 1 f) 2 g)))), (cl, .inl (cI, 36, .inl cs)), (tu, .inl (cI, 36, .inl ts)), (lk, .inl (cJ, 3, .inr (.inl lo))), (f1, .inl (cJ, 6, .inr (.inl ff))), (s2, .inl (cJ, 6, .inr (.inl sf))), (ms, .inl (cI, 6, .inl mm)), (nx, .inl (cI, 6, .inl nf)), (bs, .inl (cI, 6, .inl bf))] H := hP
                have hD : va_D A [(h0, .inr (4, [.int 0, .ref ow, .int re, .int 2, .int 0, .ref cl, .ref tu, .int (nI k), .ref lk, .ref f1, .ref s2, .ref ms, .ref nx, .ref bs, .int fd])), (ow, .inl (cJ, 3, .inr (.inl (vp_updL (vp_updL fo 1 f) 2 g)))), (cl, .inl (cI, 36, .inl cs)), (tu, .inl (cI, 36, .inl ts)), (lk, .inl (cJ, 3, .inr (.inl lo))), (f1, .inl (cJ, 6, .inr (.inl ff))), (s2, .inl (cJ, 6, .inr (.inl sf))), (ms, .inl (cI, 6, .inl mm)), (nx, .inl (cI, 6, .inl nf)), (bs, .inl (cI, 6, .inl bf))] := hD
                refine lv_aload_n hx hb dX7_lay_100 rfl (lv_at hl 2 rfl) ?_
                refine lv_iconst (v := 0) hx hb dX7_lay_101 (by decide) ?_
                refine va_put (D := D) (ci := 4) (v := .int 0) (ty := .int) (C := RX7) (T := TX7) (N := 15) hx hb hts hinX7 tyX7 tyX7_ok nmX7 hown hK hP hD hS 0 rfl rfl 7 (by decide) hfl83 (fun _ h9 => h9) rfl (by decide +kernel) rfl rfl (Nat.le_of_ble_eq_true rfl) dX7_lay_102 (fun H locs hP hD hS => ?_)
                have hP : va_P D vwCl [(h0, .inr (4, [.int 0, .ref ow, .int re, .int 2, .int 0, .ref cl, .ref tu, .int 0, .ref lk, .ref f1, .ref s2, .ref ms, .ref nx, .ref bs, .int fd])), (ow, .inl (cJ, 3, .inr (.inl (vp_updL (vp_updL fo 1 f) 2 g)))), (cl, .inl (cI, 36, .inl cs)), (tu, .inl (cI, 36, .inl ts)), (lk, .inl (cJ, 3, .inr (.inl lo))), (f1, .inl (cJ, 6, .inr (.inl ff))), (s2, .inl (cJ, 6, .inr (.inl sf))), (ms, .inl (cI, 6, .inl mm)), (nx, .inl (cI, 6, .inl nf)), (bs, .inl (cI, 6, .inl bf))] H := hP
                have hD : va_D A [(h0, .inr (4, [.int 0, .ref ow, .int re, .int 2, .int 0, .ref cl, .ref tu, .int 0, .ref lk, .ref f1, .ref s2, .ref ms, .ref nx, .ref bs, .int fd])), (ow, .inl (cJ, 3, .inr (.inl (vp_updL (vp_updL fo 1 f) 2 g)))), (cl, .inl (cI, 36, .inl cs)), (tu, .inl (cI, 36, .inl ts)), (lk, .inl (cJ, 3, .inr (.inl lo))), (f1, .inl (cJ, 6, .inr (.inl ff))), (s2, .inl (cJ, 6, .inr (.inl sf))), (ms, .inl (cI, 6, .inl mm)), (nx, .inl (cI, 6, .inl nf)), (bs, .inl (cI, 6, .inl bf))] := hD
                refine lv_aload_n hx hb dX7_lay_105 rfl (lv_at hl 2 rfl) ?_
                refine lv_lload_n hx hb dX7_lay_106 rfl (lv_at hl 3 rfl) ?_
                refine lv_lload_n hx hb dX7_lay_107 rfl (lv_at hl 4 rfl) ?_
                refine vp_callSi (W.runS (As := [.long f, .long g]) (rest := [.ref h0]) ⟨hx, hb, hml, hown, hts⟩ (c_X7_judge l f g) (va_cwS 2 hts gX7_lay_X7_judge rfl rfl rfl (by decide +kernel) ⟨Nat.le_of_ble_eq_true rfl, Nat.le_of_ble_eq_true rfl⟩) ⟨px_blind0, fun U hU hW => ⟨rfl, trivial⟩⟩ rfl rfl hl.1 rfl (lv_room (Nat.le_of_ble_eq_true rfl)) dX7_lay_108 ⟨(Nat.le_of_ble_eq_true rfl), (Nat.le_of_ble_eq_true rfl)⟩) (fun r108 er108 => ?_)
                obtain rfl := er108.symm
                refine va_put (D := D) (ci := 4) (v := .int (mjudge f g)) (ty := .int) (C := RX7) (T := TX7) (N := 15) hx hb hts hinX7 tyX7 tyX7_ok nmX7 hown hK hP hD hS 0 rfl rfl 2 (by decide) hfl73 (fun _ h9 => h9) rfl (by decide +kernel) rfl rfl (Nat.le_of_ble_eq_true rfl) dX7_lay_111 (fun H locs hP hD hS => ?_)
                have hP : va_P D vwCl [(h0, .inr (4, [.int 0, .ref ow, .int (mjudge f g), .int 2, .int 0, .ref cl, .ref tu, .int 0, .ref lk, .ref f1, .ref s2, .ref ms, .ref nx, .ref bs, .int fd])), (ow, .inl (cJ, 3, .inr (.inl (vp_updL (vp_updL fo 1 f) 2 g)))), (cl, .inl (cI, 36, .inl cs)), (tu, .inl (cI, 36, .inl ts)), (lk, .inl (cJ, 3, .inr (.inl lo))), (f1, .inl (cJ, 6, .inr (.inl ff))), (s2, .inl (cJ, 6, .inr (.inl sf))), (ms, .inl (cI, 6, .inl mm)), (nx, .inl (cI, 6, .inl nf)), (bs, .inl (cI, 6, .inl bf))] H := hP
                have hD : va_D A [(h0, .inr (4, [.int 0, .ref ow, .int (mjudge f g), .int 2, .int 0, .ref cl, .ref tu, .int 0, .ref lk, .ref f1, .ref s2, .ref ms, .ref nx, .ref bs, .int fd])), (ow, .inl (cJ, 3, .inr (.inl (vp_updL (vp_updL fo 1 f) 2 g)))), (cl, .inl (cI, 36, .inl cs)), (tu, .inl (cI, 36, .inl ts)), (lk, .inl (cJ, 3, .inr (.inl lo))), (f1, .inl (cJ, 6, .inr (.inl ff))), (s2, .inl (cJ, 6, .inr (.inl sf))), (ms, .inl (cI, 6, .inl mm)), (nx, .inl (cI, 6, .inl nf)), (bs, .inl (cI, 6, .inl bf))] := hD
                refine lv_aload_n hx hb dX7_lay_114 rfl (lv_at hl 2 rfl) ?_
                refine va_get (D := D) (ci := 4) (v := .int (mjudge f g)) (C := RX7) (T := TX7) (N := 15) hx hb hts hinX7 hown hK hP 0 rfl rfl 2 (by decide) hfl73 (fun _ h9 => h9) rfl dX7_lay_115 ?_
                obtain rfl := ex8.symm; obtain rfl := ex13.symm; obtain rfl := ex17.symm; obtain rfl := ex25.symm
                refine W.iret (v := (mjudge f g)) hx hb hr (fun tt ht hW => ⟨⟨(mjudge f g), 2, rfl, ?_, by rw [ht]; exact hP, va_K.moved hW.alike hK, hD⟩, hS.F ht⟩) hS.2.2 dX7_lay_118
                first | exact ⟨rfl, (if_pos ((msub_0 f g).mp c84)).symm⟩ | exact ⟨rfl, (if_neg (fun h => c84 ((msub_0 f g).mpr h))).symm⟩
              · refine lv_iconst (v := 1) hx hb dX7_lay_87 (by decide) ?_
                refine lv_goto (tgt := 92) hx hb dX7_lay_88 (by decide) ?_
                refine va_put (D := D) (ci := 4) (v := .int 1) (ty := .int) (C := RX7) (T := TX7) (N := 15) hx hb hts hinX7 tyX7 tyX7_ok nmX7 hown hK hP hD hS 0 rfl rfl 3 (by decide) hfl13 (fun _ h9 => h9) rfl (by decide +kernel) rfl rfl (Nat.le_of_ble_eq_true rfl) dX7_lay_92 (fun H locs hP hD hS => ?_)
                have hP : va_P D vwCl [(h0, .inr (4, [.int 0, .ref ow, .int re, .int 1, .int mt, .ref cl, .ref tu, .int (nI k), .ref lk, .ref f1, .ref s2, .ref ms, .ref nx, .ref bs, .int fd])), (ow, .inl (cJ, 3, .inr (.inl (vp_updL (vp_updL fo 1 f) 2 g)))), (cl, .inl (cI, 36, .inl cs)), (tu, .inl (cI, 36, .inl ts)), (lk, .inl (cJ, 3, .inr (.inl lo))), (f1, .inl (cJ, 6, .inr (.inl ff))), (s2, .inl (cJ, 6, .inr (.inl sf))), (ms, .inl (cI, 6, .inl mm)), (nx, .inl (cI, 6, .inl nf)), (bs, .inl (cI, 6, .inl bf))] H := hP
                have hD : va_D A [(h0, .inr (4, [.int 0, .ref ow, .int re, .int 1, .int mt, .ref cl, .ref tu, .int (nI k), .ref lk, .ref f1, .ref s2, .ref ms, .ref nx, .ref bs, .int fd])), (ow, .inl (cJ, 3, .inr (.inl (vp_updL (vp_updL fo 1 f) 2 g)))), (cl, .inl (cI, 36, .inl cs)), (tu, .inl (cI, 36, .inl ts)), (lk, .inl (cJ, 3, .inr (.inl lo))), (f1, .inl (cJ, 6, .inr (.inl ff))), (s2, .inl (cJ, 6, .inr (.inl sf))), (ms, .inl (cI, 6, .inl mm)), (nx, .inl (cI, 6, .inl nf)), (bs, .inl (cI, 6, .inl bf))] := hD
                refine lv_aload_n hx hb dX7_lay_95 rfl (lv_at hl 2 rfl) ?_
                refine lv_iconst (v := 0) hx hb dX7_lay_96 (by decide) ?_
                refine va_put (D := D) (ci := 4) (v := .int 0) (ty := .boolean) (C := RX7) (T := TX7) (N := 15) hx hb hts hinX7 tyX7 tyX7_ok nmX7 hown hK hP hD hS 0 rfl rfl 4 (by decide) hfl76 (fun _ h9 => h9) rfl (by decide +kernel) rfl rfl (Nat.le_of_ble_eq_true rfl) dX7_lay_97 (fun H locs hP hD hS => ?_)
                have hP : va_P D vwCl [(h0, .inr (4, [.int 0, .ref ow, .int re, .int 1, .int 0, .ref cl, .ref tu, .int (nI k), .ref lk, .ref f1, .ref s2, .ref ms, .ref nx, .ref bs, .int fd])), (ow, .inl (cJ, 3, .inr (.inl (vp_updL (vp_updL fo 1 f) 2 g)))), (cl, .inl (cI, 36, .inl cs)), (tu, .inl (cI, 36, .inl ts)), (lk, .inl (cJ, 3, .inr (.inl lo))), (f1, .inl (cJ, 6, .inr (.inl ff))), (s2, .inl (cJ, 6, .inr (.inl sf))), (ms, .inl (cI, 6, .inl mm)), (nx, .inl (cI, 6, .inl nf)), (bs, .inl (cI, 6, .inl bf))] H := hP
                have hD : va_D A [(h0, .inr (4, [.int 0, .ref ow, .int re, .int 1, .int 0, .ref cl, .ref tu, .int (nI k), .ref lk, .ref f1, .ref s2, .ref ms, .ref nx, .ref bs, .int fd])), (ow, .inl (cJ, 3, .inr (.inl (vp_updL (vp_updL fo 1 f) 2 g)))), (cl, .inl (cI, 36, .inl cs)), (tu, .inl (cI, 36, .inl ts)), (lk, .inl (cJ, 3, .inr (.inl lo))), (f1, .inl (cJ, 6, .inr (.inl ff))), (s2, .inl (cJ, 6, .inr (.inl sf))), (ms, .inl (cI, 6, .inl mm)), (nx, .inl (cI, 6, .inl nf)), (bs, .inl (cI, 6, .inl bf))] := hD
                refine lv_aload_n hx hb dX7_lay_100 rfl (lv_at hl 2 rfl) ?_
                refine lv_iconst (v := 0) hx hb dX7_lay_101 (by decide) ?_
                refine va_put (D := D) (ci := 4) (v := .int 0) (ty := .int) (C := RX7) (T := TX7) (N := 15) hx hb hts hinX7 tyX7 tyX7_ok nmX7 hown hK hP hD hS 0 rfl rfl 7 (by decide) hfl83 (fun _ h9 => h9) rfl (by decide +kernel) rfl rfl (Nat.le_of_ble_eq_true rfl) dX7_lay_102 (fun H locs hP hD hS => ?_)
                have hP : va_P D vwCl [(h0, .inr (4, [.int 0, .ref ow, .int re, .int 1, .int 0, .ref cl, .ref tu, .int 0, .ref lk, .ref f1, .ref s2, .ref ms, .ref nx, .ref bs, .int fd])), (ow, .inl (cJ, 3, .inr (.inl (vp_updL (vp_updL fo 1 f) 2 g)))), (cl, .inl (cI, 36, .inl cs)), (tu, .inl (cI, 36, .inl ts)), (lk, .inl (cJ, 3, .inr (.inl lo))), (f1, .inl (cJ, 6, .inr (.inl ff))), (s2, .inl (cJ, 6, .inr (.inl sf))), (ms, .inl (cI, 6, .inl mm)), (nx, .inl (cI, 6, .inl nf)), (bs, .inl (cI, 6, .inl bf))] H := hP
                have hD : va_D A [(h0, .inr (4, [.int 0, .ref ow, .int re, .int 1, .int 0, .ref cl, .ref tu, .int 0, .ref lk, .ref f1, .ref s2, .ref ms, .ref nx, .ref bs, .int fd])), (ow, .inl (cJ, 3, .inr (.inl (vp_updL (vp_updL fo 1 f) 2 g)))), (cl, .inl (cI, 36, .inl cs)), (tu, .inl (cI, 36, .inl ts)), (lk, .inl (cJ, 3, .inr (.inl lo))), (f1, .inl (cJ, 6, .inr (.inl ff))), (s2, .inl (cJ, 6, .inr (.inl sf))), (ms, .inl (cI, 6, .inl mm)), (nx, .inl (cI, 6, .inl nf)), (bs, .inl (cI, 6, .inl bf))] := hD
                refine lv_aload_n hx hb dX7_lay_105 rfl (lv_at hl 2 rfl) ?_
                refine lv_lload_n hx hb dX7_lay_106 rfl (lv_at hl 3 rfl) ?_
                refine lv_lload_n hx hb dX7_lay_107 rfl (lv_at hl 4 rfl) ?_
                refine vp_callSi (W.runS (As := [.long f, .long g]) (rest := [.ref h0]) ⟨hx, hb, hml, hown, hts⟩ (c_X7_judge l f g) (va_cwS 2 hts gX7_lay_X7_judge rfl rfl rfl (by decide +kernel) ⟨Nat.le_of_ble_eq_true rfl, Nat.le_of_ble_eq_true rfl⟩) ⟨px_blind0, fun U hU hW => ⟨rfl, trivial⟩⟩ rfl rfl hl.1 rfl (lv_room (Nat.le_of_ble_eq_true rfl)) dX7_lay_108 ⟨(Nat.le_of_ble_eq_true rfl), (Nat.le_of_ble_eq_true rfl)⟩) (fun r108 er108 => ?_)
                obtain rfl := er108.symm
                refine va_put (D := D) (ci := 4) (v := .int (mjudge f g)) (ty := .int) (C := RX7) (T := TX7) (N := 15) hx hb hts hinX7 tyX7 tyX7_ok nmX7 hown hK hP hD hS 0 rfl rfl 2 (by decide) hfl73 (fun _ h9 => h9) rfl (by decide +kernel) rfl rfl (Nat.le_of_ble_eq_true rfl) dX7_lay_111 (fun H locs hP hD hS => ?_)
                have hP : va_P D vwCl [(h0, .inr (4, [.int 0, .ref ow, .int (mjudge f g), .int 1, .int 0, .ref cl, .ref tu, .int 0, .ref lk, .ref f1, .ref s2, .ref ms, .ref nx, .ref bs, .int fd])), (ow, .inl (cJ, 3, .inr (.inl (vp_updL (vp_updL fo 1 f) 2 g)))), (cl, .inl (cI, 36, .inl cs)), (tu, .inl (cI, 36, .inl ts)), (lk, .inl (cJ, 3, .inr (.inl lo))), (f1, .inl (cJ, 6, .inr (.inl ff))), (s2, .inl (cJ, 6, .inr (.inl sf))), (ms, .inl (cI, 6, .inl mm)), (nx, .inl (cI, 6, .inl nf)), (bs, .inl (cI, 6, .inl bf))] H := hP
                have hD : va_D A [(h0, .inr (4, [.int 0, .ref ow, .int (mjudge f g), .int 1, .int 0, .ref cl, .ref tu, .int 0, .ref lk, .ref f1, .ref s2, .ref ms, .ref nx, .ref bs, .int fd])), (ow, .inl (cJ, 3, .inr (.inl (vp_updL (vp_updL fo 1 f) 2 g)))), (cl, .inl (cI, 36, .inl cs)), (tu, .inl (cI, 36, .inl ts)), (lk, .inl (cJ, 3, .inr (.inl lo))), (f1, .inl (cJ, 6, .inr (.inl ff))), (s2, .inl (cJ, 6, .inr (.inl sf))), (ms, .inl (cI, 6, .inl mm)), (nx, .inl (cI, 6, .inl nf)), (bs, .inl (cI, 6, .inl bf))] := hD
                refine lv_aload_n hx hb dX7_lay_114 rfl (lv_at hl 2 rfl) ?_
                refine va_get (D := D) (ci := 4) (v := .int (mjudge f g)) (C := RX7) (T := TX7) (N := 15) hx hb hts hinX7 hown hK hP 0 rfl rfl 2 (by decide) hfl73 (fun _ h9 => h9) rfl dX7_lay_115 ?_
                obtain rfl := ex8.symm; obtain rfl := ex13.symm; obtain rfl := ex17.symm; obtain rfl := ex25.symm
                refine W.iret (v := (mjudge f g)) hx hb hr (fun tt ht hW => ⟨⟨(mjudge f g), 1, rfl, ?_, by rw [ht]; exact hP, va_K.moved hW.alike hK, hD⟩, hS.F ht⟩) hS.2.2 dX7_lay_118
                first | exact ⟨rfl, (if_pos ((msub_0 f g).mp c84)).symm⟩ | exact ⟨rfl, (if_neg (fun h => c84 ((msub_0 f g).mpr h))).symm⟩
            · exact absurd c62 (by decide)
      · exact absurd (by obtain rfl := ex8.symm; obtain rfl := ex13.symm; obtain rfl := ex17.symm; obtain rfl := ex25.symm; exact hc.2.2) b35
