set_option maxHeartbeats 400000 in
set_option maxRecDepth 100000 in
theorem c_X3_valueToPut_f0 (l : Launch) (D : va_G) (cI cJ : ClassId) (sz : Nat) (h0 vt vf vv : Nat) (fm : Nat → Int64) (vl : Nat → Int32) (hT : TI fm vl) (a b : Int64)  (hB : BV 0 a b) : Met l yX3_valueToPut wsX3_valueToPut ({ frames := 0, cells := 0, slots := 0, locals := 0 } : Room) (va_Pc [.ref h0, .long a, .long b, .int 0] (px_E (pv_C D cI cJ [(h0, .inr (1, [.ref vt])), (vt, .inr (2, [.ref vf, .ref vv])), (vf, .inl (cJ, 1024, .inr (.inl fm))), (vv, .inl (cI, 1024, .inl vl))] sz))) (va_Qi (fun (r : Int32) (u : (Nat → Int64) × (Nat → Int32)) => r = vput 0 a b ∧ TI u.1 u.2) (fun (u : (Nat → Int64) × (Nat → Int32)) => pv_B D cI cJ (va_A [(h0, .inr (1, [.ref vt])), (vt, .inr (2, [.ref vf, .ref vv])), (vf, .inl (cJ, 1024, .inr (.inl fm))), (vv, .inl (cI, 1024, .inl vl))] sz) [(h0, .inr (1, [.ref vt])), (vt, .inr (2, [.ref vf, .ref vv])), (vf, .inl (cJ, 1024, .inr (.inl u.1))), (vv, .inl (cI, 1024, .inl u.2))]) (va_A [(h0, .inr (1, [.ref vt])), (vt, .inr (2, [.ref vf, .ref vv])), (vf, .inl (cJ, 1024, .inr (.inl fm))), (vv, .inl (cI, 1024, .inl vl))] sz)) 0 0 (va_A [(h0, .inr (1, [.ref vt])), (vt, .inr (2, [.ref vf, .ref vv])), (vf, .inl (cJ, 1024, .inr (.inl fm))), (vv, .inl (cI, 1024, .inl vl))] sz) := by
  refine Met.ofW (cc := cX3_valueToPut) (maxL := 9) (ret := (some .int)) (by decide) rfl ?_
  intro p e s m args below meth c s₁ B hml hv
  obtain ⟨rfl, hEN, rfl, hP, hK, hD0⟩ := hv
  have hx := B.exec
  have hb := B.bytes
  have hr := B.returns
  have hts := atoms_spec (ws := wsX3_valueToPut) B.pre
  have hown : s.vm.findClass RX3 = some m.cls := findClass_of_methodNamed B.named
  have hlocks := B.notSynchronized
  have hD := hD0.self (sz := s.heap.size)
  generalize hAe : va_A [(h0, .inr (1, [.ref vt])), (vt, .inr (2, [.ref vf, .ref vv])), (vf, .inl (cJ, 1024, .inr (.inl fm))), (vv, .inl (cI, 1024, .inl vl))] s.heap.size = A at hD ⊢
  have hA : ∀ q : Nat, s.heap.size ≤ q → A q := fun q h => by rw [← hAe]; exact Or.inr h
  have hS : va_S A s.heap s.heap [] := va_S.rf
  have hl := lv_entry ([.ref h0, .long a, .long b, .int 0]) (n := 9) (Nat.le_of_ble_eq_true rfl)
  rw [lg_entry_eq]
  generalize (lg_sl ([.ref h0, .long a, .long b, .int 0]) ++ List.replicate (9 - (lg_sl ([.ref h0, .long a, .long b, .int 0])).length) Slot.unset).toArray = ls at hl ⊢
  have hl : lv_has ls 9 [(0, .ref h0), (1, .long a), (3, .long b), (5, .int 0)] := hl
  refine lv_iload hx hb dX3_valueToPut_0 (lv_at hl 3 rfl) ?_
  refine lv_if_le (tgt := 11) hx hb dX3_valueToPut_2 (by decide) (fun c2 => ?_) (fun c2 => ?_)
  · refine lv_iconst (v := 0) hx hb dX3_valueToPut_11 (by decide) ?_
    refine W.iret (v := 0) hx hb hr (fun tt ht hW => ⟨⟨0, (fm, vl), rfl, ?_, by rw [ht]; exact hP, va_K.moved hW.alike hK, hD⟩, hS.F ht⟩) hS.2.2 dX3_valueToPut_12
    exact ⟨by { rfl }, hT⟩
  · exact absurd c2 (by decide)

set_option maxHeartbeats 400000 in
set_option maxRecDepth 100000 in
theorem c_X3_valueBehindTurn_f0 (l : Launch) (D : va_G) (cI cJ : ClassId) (sz : Nat) (h0 vt vf vv : Nat) (fm : Nat → Int64) (vl : Nat → Int32) (hT : TI fm vl) (a b : Int64) (tn : Nat) (htn : tn < 8) (hB : BH 0 a b) : Met l yX3_valueBehindTurn wsX3_valueBehindTurn ({ frames := 2, cells := 0, slots := 0, locals := 53 } : Room) (va_Pc [.ref h0, .long a, .long b, .int (nI tn), .int 0] (px_E (pv_C D cI cJ [(h0, .inr (1, [.ref vt])), (vt, .inr (2, [.ref vf, .ref vv])), (vf, .inl (cJ, 1024, .inr (.inl fm))), (vv, .inl (cI, 1024, .inl vl))] sz))) (va_Qi (fun (r : Int32) (u : (Nat → Int64) × (Nat → Int32)) => r = vbehind (vput 0) a b tn ∧ TI u.1 u.2) (fun (u : (Nat → Int64) × (Nat → Int32)) => pv_B D cI cJ (va_A [(h0, .inr (1, [.ref vt])), (vt, .inr (2, [.ref vf, .ref vv])), (vf, .inl (cJ, 1024, .inr (.inl fm))), (vv, .inl (cI, 1024, .inl vl))] sz) [(h0, .inr (1, [.ref vt])), (vt, .inr (2, [.ref vf, .ref vv])), (vf, .inl (cJ, 1024, .inr (.inl u.1))), (vv, .inl (cI, 1024, .inl u.2))]) (va_A [(h0, .inr (1, [.ref vt])), (vt, .inr (2, [.ref vf, .ref vv])), (vf, .inl (cJ, 1024, .inr (.inl fm))), (vv, .inl (cI, 1024, .inl vl))] sz)) 0 0 (va_A [(h0, .inr (1, [.ref vt])), (vt, .inr (2, [.ref vf, .ref vv])), (vf, .inl (cJ, 1024, .inr (.inl fm))), (vv, .inl (cI, 1024, .inl vl))] sz) := by
  refine Met.ofW (cc := cX3_valueBehindTurn) (maxL := 13) (ret := (some .int)) (by decide) rfl ?_
  intro p e s m args below meth c s₁ B hml hv
  obtain ⟨rfl, hEN, rfl, hP, hK, hD0⟩ := hv
  have hx := B.exec
  have hb := B.bytes
  have hr := B.returns
  have hts := atoms_spec (ws := wsX3_valueBehindTurn) B.pre
  have hown : s.vm.findClass RX3 = some m.cls := findClass_of_methodNamed B.named
  have hlocks := B.notSynchronized
  have hD := hD0.self (sz := s.heap.size)
  generalize hAe : va_A [(h0, .inr (1, [.ref vt])), (vt, .inr (2, [.ref vf, .ref vv])), (vf, .inl (cJ, 1024, .inr (.inl fm))), (vv, .inl (cI, 1024, .inl vl))] s.heap.size = A at hD ⊢
  have hA : ∀ q : Nat, s.heap.size ≤ q → A q := fun q h => by rw [← hAe]; exact Or.inr h
  have hS : va_S A s.heap s.heap [] := va_S.rf
  have hl := lv_entry ([.ref h0, .long a, .long b, .int (nI tn), .int 0]) (n := 13) (Nat.le_of_ble_eq_true rfl)
  rw [lg_entry_eq]
  generalize (lg_sl ([.ref h0, .long a, .long b, .int (nI tn), .int 0]) ++ List.replicate (13 - (lg_sl ([.ref h0, .long a, .long b, .int (nI tn), .int 0])).length) Slot.unset).toArray = ls at hl ⊢
  have hl : lv_has ls 13 [(0, .ref h0), (1, .long a), (3, .long b), (5, .int (nI tn)), (6, .int 0)] := hl
  refine lv_lload_n hx hb dX3_valueBehindTurn_0 rfl (lv_at hl 1 rfl) ?_
  refine lv_iload hx hb dX3_valueBehindTurn_1 (lv_at hl 3 rfl) ?_
  refine vp_callSl (W.runS (As := [.long a, .int (nI tn)]) (rest := []) ⟨hx, hb, hml, hown, hts⟩ (c_X4_turned l a tn (by omega)) (va_cwS 2 hts gX3_valueBehindTurn_X4_turned rfl rfl rfl (by decide +kernel) ⟨Nat.le_of_ble_eq_true rfl, Nat.le_of_ble_eq_true rfl⟩) ⟨px_blind0, fun U hU hW => ⟨rfl, trivial⟩⟩ rfl rfl hl.1 rfl (lv_room (Nat.le_of_ble_eq_true rfl)) dX3_valueBehindTurn_3 ⟨(Nat.le_of_ble_eq_true rfl), (Nat.le_of_ble_eq_true rfl)⟩) (fun r3 er3 => ?_)
  obtain rfl := er3.symm
  refine lv_lstore (lv' := [(7, .long (cturned a tn)), (0, .ref h0), (1, .long a), (3, .long b), (5, .int (nI tn)), (6, .int 0)]) hx hb dX3_valueBehindTurn_6 hl (by decide) rfl (fun ls hl => ?_)
  refine lv_lload_n hx hb dX3_valueBehindTurn_8 rfl (lv_at hl 3 rfl) ?_
  refine lv_iload hx hb dX3_valueBehindTurn_9 (lv_at hl 4 rfl) ?_
  refine vp_callSl (W.runS (As := [.long b, .int (nI tn)]) (rest := []) ⟨hx, hb, hml, hown, hts⟩ (c_X4_turned l b tn (by omega)) (va_cwS 2 hts gX3_valueBehindTurn_X4_turned rfl rfl rfl (by decide +kernel) ⟨Nat.le_of_ble_eq_true rfl, Nat.le_of_ble_eq_true rfl⟩) ⟨px_blind0, fun U hU hW => ⟨rfl, trivial⟩⟩ rfl rfl hl.1 rfl (lv_room (Nat.le_of_ble_eq_true rfl)) dX3_valueBehindTurn_11 ⟨(Nat.le_of_ble_eq_true rfl), (Nat.le_of_ble_eq_true rfl)⟩) (fun r11 er11 => ?_)
  obtain rfl := er11.symm
  refine lv_lstore (lv' := [(9, .long (cturned b tn)), (7, .long (cturned a tn)), (0, .ref h0), (1, .long a), (3, .long b), (5, .int (nI tn)), (6, .int 0)]) hx hb dX3_valueBehindTurn_14 hl (by decide) rfl (fun ls hl => ?_)
  refine lv_lload hx hb dX3_valueBehindTurn_16 (lv_at hl 1 rfl) ?_
  refine vp_callSi (W.runS (As := [.long (cturned a tn)]) (rest := []) ⟨hx, hb, hml, hown, hts⟩ (c_X1_hasLine l (cturned a tn)) (va_cwS 1 hts gX3_valueBehindTurn_X1_hasLine rfl rfl rfl (by decide +kernel) ⟨Nat.le_of_ble_eq_true rfl, Nat.le_of_ble_eq_true rfl⟩) ⟨px_blind0, fun U hU hW => ⟨rfl, trivial⟩⟩ rfl rfl hl.1 rfl (lv_room (Nat.le_of_ble_eq_true rfl)) dX3_valueBehindTurn_18 ⟨(Nat.le_of_ble_eq_true rfl), (Nat.le_of_ble_eq_true rfl)⟩) (fun r18 er18 => ?_)
  obtain rfl := er18.symm
  refine pk_b (P := cline (cturned a tn) = true) (fun b18 => ?_) (fun b18 => ?_)
  · refine lv_istore (lv' := [(11, .int 1), (9, .long (cturned b tn)), (7, .long (cturned a tn)), (0, .ref h0), (1, .long a), (3, .long b), (5, .int (nI tn)), (6, .int 0)]) hx hb dX3_valueBehindTurn_21 hl (by decide) rfl (fun ls hl => ?_)
    refine lv_lload hx hb dX3_valueBehindTurn_23 (lv_at hl 1 rfl) ?_
    refine vp_callSi (W.runS (As := [.long (cturned b tn)]) (rest := []) ⟨hx, hb, hml, hown, hts⟩ (c_X1_hasLine l (cturned b tn)) (va_cwS 1 hts gX3_valueBehindTurn_X1_hasLine rfl rfl rfl (by decide +kernel) ⟨Nat.le_of_ble_eq_true rfl, Nat.le_of_ble_eq_true rfl⟩) ⟨px_blind0, fun U hU hW => ⟨rfl, trivial⟩⟩ rfl rfl hl.1 rfl (lv_room (Nat.le_of_ble_eq_true rfl)) dX3_valueBehindTurn_25 ⟨(Nat.le_of_ble_eq_true rfl), (Nat.le_of_ble_eq_true rfl)⟩) (fun r25 er25 => ?_)
    obtain rfl := er25.symm
    refine pk_b (P := cline (cturned b tn) = true) (fun b25 => ?_) (fun b25 => ?_)
    · refine lv_istore (lv' := [(12, .int 1), (11, .int 1), (9, .long (cturned b tn)), (7, .long (cturned a tn)), (0, .ref h0), (1, .long a), (3, .long b), (5, .int (nI tn)), (6, .int 0)]) hx hb dX3_valueBehindTurn_28 hl (by decide) rfl (fun ls hl => ?_)
      refine lv_iload hx hb dX3_valueBehindTurn_30 (lv_at hl 1 rfl) ?_
      refine lv_iload hx hb dX3_valueBehindTurn_32 (lv_at hl 0 rfl) ?_
      refine lv_icmp_eq (tgt := 48) hx hb dX3_valueBehindTurn_34 (by decide) (fun c34 => ?_) (fun c34 => ?_)
      · refine lv_iload hx hb dX3_valueBehindTurn_48 (lv_at hl 1 rfl) ?_
        refine lv_if_eq (tgt := 57) hx hb dX3_valueBehindTurn_50 (by decide) (fun c50 => ?_) (fun c50 => ?_)
        · exact absurd c50 (by decide)
        · refine lv_iconst (v := 0) hx hb dX3_valueBehindTurn_53 (by decide) ?_
          refine lv_goto (tgt := 68) hx hb dX3_valueBehindTurn_54 (by decide) ?_
          refine W.iret (v := 0) hx hb hr (fun tt ht hW => ⟨⟨0, (fm, vl), rfl, ?_, by rw [ht]; exact hP, va_K.moved hW.alike hK, hD⟩, hS.F ht⟩) hS.2.2 dX3_valueBehindTurn_68
          exact ⟨by { skip; unfold vbehind; first | (rw [if_pos b18, if_pos b25]; done) | (rw [if_pos b18, if_neg b25]; done) | (rw [if_neg b18, if_pos b25]; done) | (rw [if_neg b18, if_neg b25]; done) }, hT⟩
      · exact absurd c34 (by decide)
    · refine lv_istore (lv' := [(12, .int 0), (11, .int 1), (9, .long (cturned b tn)), (7, .long (cturned a tn)), (0, .ref h0), (1, .long a), (3, .long b), (5, .int (nI tn)), (6, .int 0)]) hx hb dX3_valueBehindTurn_28 hl (by decide) rfl (fun ls hl => ?_)
      refine lv_iload hx hb dX3_valueBehindTurn_30 (lv_at hl 1 rfl) ?_
      refine lv_iload hx hb dX3_valueBehindTurn_32 (lv_at hl 0 rfl) ?_
      refine lv_icmp_eq (tgt := 48) hx hb dX3_valueBehindTurn_34 (by decide) (fun c34 => ?_) (fun c34 => ?_)
      · exact absurd c34 (by decide)
      · refine lv_iload hx hb dX3_valueBehindTurn_37 (lv_at hl 1 rfl) ?_
        refine lv_if_eq (tgt := 46) hx hb dX3_valueBehindTurn_39 (by decide) (fun c39 => ?_) (fun c39 => ?_)
        · exact absurd c39 (by decide)
        · refine lv_iconst (v := 1) hx hb dX3_valueBehindTurn_42 (by decide) ?_
          refine lv_goto (tgt := 47) hx hb dX3_valueBehindTurn_43 (by decide) ?_
          refine W.iret (v := 1) hx hb hr (fun tt ht hW => ⟨⟨1, (fm, vl), rfl, ?_, by rw [ht]; exact hP, va_K.moved hW.alike hK, hD⟩, hS.F ht⟩) hS.2.2 dX3_valueBehindTurn_47
          exact ⟨by { skip; unfold vbehind; first | (rw [if_pos b18, if_pos b25]; done) | (rw [if_pos b18, if_neg b25]; done) | (rw [if_neg b18, if_pos b25]; done) | (rw [if_neg b18, if_neg b25]; done) }, hT⟩
  · refine lv_istore (lv' := [(11, .int 0), (9, .long (cturned b tn)), (7, .long (cturned a tn)), (0, .ref h0), (1, .long a), (3, .long b), (5, .int (nI tn)), (6, .int 0)]) hx hb dX3_valueBehindTurn_21 hl (by decide) rfl (fun ls hl => ?_)
    refine lv_lload hx hb dX3_valueBehindTurn_23 (lv_at hl 1 rfl) ?_
    refine vp_callSi (W.runS (As := [.long (cturned b tn)]) (rest := []) ⟨hx, hb, hml, hown, hts⟩ (c_X1_hasLine l (cturned b tn)) (va_cwS 1 hts gX3_valueBehindTurn_X1_hasLine rfl rfl rfl (by decide +kernel) ⟨Nat.le_of_ble_eq_true rfl, Nat.le_of_ble_eq_true rfl⟩) ⟨px_blind0, fun U hU hW => ⟨rfl, trivial⟩⟩ rfl rfl hl.1 rfl (lv_room (Nat.le_of_ble_eq_true rfl)) dX3_valueBehindTurn_25 ⟨(Nat.le_of_ble_eq_true rfl), (Nat.le_of_ble_eq_true rfl)⟩) (fun r25 er25 => ?_)
    obtain rfl := er25.symm
    refine pk_b (P := cline (cturned b tn) = true) (fun b25 => ?_) (fun b25 => ?_)
    · refine lv_istore (lv' := [(12, .int 1), (11, .int 0), (9, .long (cturned b tn)), (7, .long (cturned a tn)), (0, .ref h0), (1, .long a), (3, .long b), (5, .int (nI tn)), (6, .int 0)]) hx hb dX3_valueBehindTurn_28 hl (by decide) rfl (fun ls hl => ?_)
      refine lv_iload hx hb dX3_valueBehindTurn_30 (lv_at hl 1 rfl) ?_
      refine lv_iload hx hb dX3_valueBehindTurn_32 (lv_at hl 0 rfl) ?_
      refine lv_icmp_eq (tgt := 48) hx hb dX3_valueBehindTurn_34 (by decide) (fun c34 => ?_) (fun c34 => ?_)
      · exact absurd c34 (by decide)
      · refine lv_iload hx hb dX3_valueBehindTurn_37 (lv_at hl 1 rfl) ?_
        refine lv_if_eq (tgt := 46) hx hb dX3_valueBehindTurn_39 (by decide) (fun c39 => ?_) (fun c39 => ?_)
        · refine lv_iconst (v := (-1)) hx hb dX3_valueBehindTurn_46 (by decide) ?_
          refine W.iret (v := (-1)) hx hb hr (fun tt ht hW => ⟨⟨(-1), (fm, vl), rfl, ?_, by rw [ht]; exact hP, va_K.moved hW.alike hK, hD⟩, hS.F ht⟩) hS.2.2 dX3_valueBehindTurn_47
          exact ⟨by { skip; unfold vbehind; first | (rw [if_pos b18, if_pos b25]; done) | (rw [if_pos b18, if_neg b25]; done) | (rw [if_neg b18, if_pos b25]; done) | (rw [if_neg b18, if_neg b25]; done) }, hT⟩
        · exact absurd c39 (by decide)
    · refine lv_istore (lv' := [(12, .int 0), (11, .int 0), (9, .long (cturned b tn)), (7, .long (cturned a tn)), (0, .ref h0), (1, .long a), (3, .long b), (5, .int (nI tn)), (6, .int 0)]) hx hb dX3_valueBehindTurn_28 hl (by decide) rfl (fun ls hl => ?_)
      refine lv_iload hx hb dX3_valueBehindTurn_30 (lv_at hl 1 rfl) ?_
      refine lv_iload hx hb dX3_valueBehindTurn_32 (lv_at hl 0 rfl) ?_
      refine lv_icmp_eq (tgt := 48) hx hb dX3_valueBehindTurn_34 (by decide) (fun c34 => ?_) (fun c34 => ?_)
      · refine lv_iload hx hb dX3_valueBehindTurn_48 (lv_at hl 1 rfl) ?_
        refine lv_if_eq (tgt := 57) hx hb dX3_valueBehindTurn_50 (by decide) (fun c50 => ?_) (fun c50 => ?_)
        · refine lv_aload_n hx hb dX3_valueBehindTurn_57 rfl (lv_at hl 4 rfl) ?_
          refine lv_lload hx hb dX3_valueBehindTurn_58 (lv_at hl 2 rfl) ?_
          refine lv_lload hx hb dX3_valueBehindTurn_60 (lv_at hl 3 rfl) ?_
          refine lv_iload hx hb dX3_valueBehindTurn_62 (lv_at hl 8 rfl) ?_
          have hPc := hP.sub (ws' := [(h0, .inr (1, [.ref vt])), (vt, .inr (2, [.ref vf, .ref vv])), (vf, .inl (cJ, 1024, .inr (.inl fm))), (vv, .inl (cI, 1024, .inl vl))]) [0, 1, 2, 3] rfl
          have hDc := hD.sub (ws' := [(h0, .inr (1, [.ref vt])), (vt, .inr (2, [.ref vf, .ref vv])), (vf, .inl (cJ, 1024, .inr (.inl fm))), (vv, .inl (cI, 1024, .inl vl))]) [0, 1, 2, 3] (by decide) rfl
          have hFc := va_free (wc := [(h0, .inr (1, [.ref vt])), (vt, .inr (2, [.ref vf, .ref vv])), (vf, .inl (cJ, 1024, .inr (.inl fm))), (vv, .inl (cI, 1024, .inl vl))]) hD hS hA [0, 1, 2, 3] rfl
          refine va_calli (va_runV (As := [.long (cturned b tn), .long (cturned a tn), .int 0]) (rest := []) ⟨hx, hb, hml, hown, hts⟩ (c_X3_valueToPut_f0 l D cI cJ s.heap.size  h0 vt vf vv fm vl hT (cturned b tn) (cturned a tn) (bh_turn hB htn)) (cwV 3 hts gX3_valueBehindTurn_X3_valueToPut rfl rfl rfl (by decide +kernel) ⟨Nat.le_of_ble_eq_true rfl, Nat.le_of_ble_eq_true rfl⟩) ⟨(px_blindE pv_blind), va_recv hK hPc (ci := 1) (q0 := 0) rfl rfl, fun U hU hW => ⟨rfl, hEN.warm hW, by rw [hU], by rw [hU]; exact hPc, va_K.moved hW.alike hK, hDc.weaken (fun _ _ _ _ => trivial)⟩⟩ rfl rfl hl.1 rfl (lv_room (Nat.le_of_ble_eq_true rfl)) dX3_valueBehindTurn_64 ⟨(Nat.le_of_ble_eq_true rfl), (Nat.le_of_ble_eq_true rfl)⟩) hS (fun q _ h => hFc q h) hFc (fun r64 u t9 H1 locs hth hvm hw64 hB hz1 hk1 hS => ?_)
          obtain ⟨fm64, vl64⟩ := u
          try dsimp only at hw64
          obtain ⟨hP1, hK1, hD1⟩ := hB
          rw [hth] at hP1
          obtain ⟨hP, hD⟩ := va_join (wr := []) (w1 := [(h0, .inr (1, [.ref vt])), (vt, .inr (2, [.ref vf, .ref vv])), (vf, .inl (cJ, 1024, .inr (.inl fm64))), (vv, .inl (cI, 1024, .inl vl64))]) hP hD [0, 1, 2, 3] [] rfl rfl (by decide) (by decide) hk1 hFc hP1 hD1
          generalize H1 = H at hP hS ⊢
          have hP : va_P D vwCl [(h0, .inr (1, [.ref vt])), (vt, .inr (2, [.ref vf, .ref vv])), (vf, .inl (cJ, 1024, .inr (.inl fm64))), (vv, .inl (cI, 1024, .inl vl64))] H := hP.sub (ws' := [(h0, .inr (1, [.ref vt])), (vt, .inr (2, [.ref vf, .ref vv])), (vf, .inl (cJ, 1024, .inr (.inl fm64))), (vv, .inl (cI, 1024, .inl vl64))]) [0, 1, 2, 3] rfl
          have hD : va_D A [(h0, .inr (1, [.ref vt])), (vt, .inr (2, [.ref vf, .ref vv])), (vf, .inl (cJ, 1024, .inr (.inl fm64))), (vv, .inl (cI, 1024, .inl vl64))] := hD.sub (ws' := [(h0, .inr (1, [.ref vt])), (vt, .inr (2, [.ref vf, .ref vv])), (vf, .inl (cJ, 1024, .inr (.inl fm64))), (vv, .inl (cI, 1024, .inl vl64))]) [0, 1, 2, 3] (by decide) rfl
          obtain ⟨hv9, hT64⟩ := hw64
          obtain rfl := hv9.symm
          refine lv_ineg hx hb dX3_valueBehindTurn_67 ?_
          refine lv_topi (fun x67 ex67 => ?_)
          refine W.iret (v := x67) hx hb hr (fun tt ht hW => ⟨⟨x67, (fm64, vl64), rfl, ?_, by rw [ht]; exact hP, va_K.moved hW.alike hK, hD⟩, hS.F ht⟩) hS.2.2 dX3_valueBehindTurn_68
          exact ⟨by { obtain rfl := ex67.symm; unfold vbehind; first | (rw [if_pos b18, if_pos b25]; done) | (rw [if_pos b18, if_neg b25]; done) | (rw [if_neg b18, if_pos b25]; done) | (rw [if_neg b18, if_neg b25]; done) }, hT64⟩
        · exact absurd c50 (by decide)
      · exact absurd c34 (by decide)

set_option maxHeartbeats 400000 in
set_option maxRecDepth 100000 in
theorem c_X3_valueToTurn_f0 (l : Launch) (D : va_G) (cI cJ : ClassId) (sz : Nat) (h0 vt vf vv : Nat) (fm : Nat → Int64) (vl : Nat → Int32) (hT : TI fm vl) (a b : Int64)  (hB : BH 0 a b) : Met l yX3_valueToTurn wsX3_valueToTurn ({ frames := 3, cells := 0, slots := 0, locals := 85 } : Room) (va_Pc [.ref h0, .long a, .long b, .int 0] (px_E (pv_C D cI cJ [(h0, .inr (1, [.ref vt])), (vt, .inr (2, [.ref vf, .ref vv])), (vf, .inl (cJ, 1024, .inr (.inl fm))), (vv, .inl (cI, 1024, .inl vl))] sz))) (va_Qi (fun (r : Int32) (u : (Nat → Int64) × (Nat → Int32)) => r = vturn (vput 0) a b 8 ∧ TI u.1 u.2) (fun (u : (Nat → Int64) × (Nat → Int32)) => pv_B D cI cJ (va_A [(h0, .inr (1, [.ref vt])), (vt, .inr (2, [.ref vf, .ref vv])), (vf, .inl (cJ, 1024, .inr (.inl fm))), (vv, .inl (cI, 1024, .inl vl))] sz) [(h0, .inr (1, [.ref vt])), (vt, .inr (2, [.ref vf, .ref vv])), (vf, .inl (cJ, 1024, .inr (.inl u.1))), (vv, .inl (cI, 1024, .inl u.2))]) (va_A [(h0, .inr (1, [.ref vt])), (vt, .inr (2, [.ref vf, .ref vv])), (vf, .inl (cJ, 1024, .inr (.inl fm))), (vv, .inl (cI, 1024, .inl vl))] sz)) 0 0 (va_A [(h0, .inr (1, [.ref vt])), (vt, .inr (2, [.ref vf, .ref vv])), (vf, .inl (cJ, 1024, .inr (.inl fm))), (vv, .inl (cI, 1024, .inl vl))] sz) := by
  refine Met.ofW (cc := cX3_valueToTurn) (maxL := 8) (ret := (some .int)) (by decide) rfl ?_
  intro p e s m args below meth c s₁ B hml hv
  obtain ⟨rfl, hEN, rfl, hP, hK, hD0⟩ := hv
  have hx := B.exec
  have hb := B.bytes
  have hr := B.returns
  have hts := atoms_spec (ws := wsX3_valueToTurn) B.pre
  have hown : s.vm.findClass RX3 = some m.cls := findClass_of_methodNamed B.named
  have hlocks := B.notSynchronized
  have hD := hD0.self (sz := s.heap.size)
  generalize hAe : va_A [(h0, .inr (1, [.ref vt])), (vt, .inr (2, [.ref vf, .ref vv])), (vf, .inl (cJ, 1024, .inr (.inl fm))), (vv, .inl (cI, 1024, .inl vl))] s.heap.size = A at hD ⊢
  have hA : ∀ q : Nat, s.heap.size ≤ q → A q := fun q h => by rw [← hAe]; exact Or.inr h
  have hS : va_S A s.heap s.heap [] := va_S.rf
  have hmx0 : (Cond.methodLink RX3 48 Lib.Math.max.name).before ([.ref h0, .long a, .long b, .int 0] : List Value).toArray s = true := hts _ (by decide +kernel)
  have hmx1 : (Cond.static Lib.Math.max.name).before ([.ref h0, .long a, .long b, .int 0] : List Value).toArray s = true := hts _ (by decide +kernel)
  have hmx2 : (Cond.initialized "java/lang/Math").before ([.ref h0, .long a, .long b, .int 0] : List Value).toArray s = true := hts _ (by decide +kernel)
  have hmx3 : (Cond.code Lib.Math.max.name Lib.Math.max.code 2 (some .int)).before ([.ref h0, .long a, .long b, .int 0] : List Value).toArray s = true := hts _ (by decide +kernel)
  have hl := lv_entry ([.ref h0, .long a, .long b, .int 0]) (n := 8) (Nat.le_of_ble_eq_true rfl)
  rw [lg_entry_eq]
  generalize (lg_sl ([.ref h0, .long a, .long b, .int 0]) ++ List.replicate (8 - (lg_sl ([.ref h0, .long a, .long b, .int 0])).length) Slot.unset).toArray = ls at hl ⊢
  have hl : lv_has ls 8 [(0, .ref h0), (1, .long a), (3, .long b), (5, .int 0)] := hl
  refine lv_iconst (v := (-1)) hx hb dX3_valueToTurn_0 (by decide) ?_
  refine lv_istore (lv' := [(6, .int (-1)), (0, .ref h0), (1, .long a), (3, .long b), (5, .int 0)]) hx hb dX3_valueToTurn_1 hl (by decide) rfl (fun ls hl => ?_)
  refine lv_iconst (v := 0) hx hb dX3_valueToTurn_3 (by decide) ?_
  refine lv_istore (lv' := [(7, .int 0), (6, .int (-1)), (0, .ref h0), (1, .long a), (3, .long b), (5, .int 0)]) hx hb dX3_valueToTurn_4 hl (by decide) rfl (fun ls hl => ?_)
  have loop6 : ∀ (nn i6 : Nat), i6 + nn = 8 → ∀ (fm6 : Nat → Int64) (vl6 : Nat → Int32) (hT6 : TI fm6 vl6) (H : Heap) (locs : List Loc), va_P D vwCl [(h0, .inr (1, [.ref vt])), (vt, .inr (2, [.ref vf, .ref vv])), (vf, .inl (cJ, 1024, .inr (.inl fm6))), (vv, .inl (cI, 1024, .inl vl6))] H → va_D A [(h0, .inr (1, [.ref vt])), (vt, .inr (2, [.ref vf, .ref vv])), (vf, .inl (cJ, 1024, .inr (.inl fm6))), (vv, .inl (cI, 1024, .inl vl6))] → va_S A s.heap H locs → ∀ ls, lv_has ls 8 [(7, .int (nI i6)), (6, .int (vturn (vput 0) a b i6)), (0, .ref h0), (1, .long a), (3, .long b), (5, .int 0)] → W p l e (headSpec wsX3_valueToTurn ({ frames := 3, cells := 0, slots := 0, locals := 85 } : Room)).room s m ([.ref h0, .long a, .long b, .int 0] : List Value).toArray below meth c H locs 0 0 (MQ below (va_Qi (fun (r : Int32) (u : (Nat → Int64) × (Nat → Int32)) => r = vturn (vput 0) a b 8 ∧ TI u.1 u.2) (fun (u : (Nat → Int64) × (Nat → Int32)) => pv_B D cI cJ (A) [(h0, .inr (1, [.ref vt])), (vt, .inr (2, [.ref vf, .ref vv])), (vf, .inl (cJ, 1024, .inr (.inl u.1))), (vv, .inl (cI, 1024, .inl u.2))]) (A)) ([.ref h0, .long a, .long b, .int 0] : List Value).toArray s 0 0 A) (F0 m 6 ls []) := by
    intro nn
    induction nn with
    | zero =>
      intro i6 hi6 fm6 vl6 hT6 H locs hP hD hS ls hl
      obtain rfl : i6 = 8 := by omega
      refine lv_iload hx hb dX3_valueToTurn_6 (lv_at hl 0 rfl) ?_
      refine lv_bipush (v := 8) hx hb dX3_valueToTurn_8 (by decide) ?_
      refine lv_icmp_ge (tgt := 42) hx hb dX3_valueToTurn_10 (by decide) (fun c10 => ?_) (fun c10 => ?_)
      · have c10 : 8 ≤ 8 := (nq_le (a := 8) (b := 8) (by omega) (by omega)).mp c10
        refine lv_iload hx hb dX3_valueToTurn_42 (lv_at hl 1 rfl) ?_
        refine W.iret (v := (vturn (vput 0) a b 8)) hx hb hr (fun tt ht hW => ⟨⟨(vturn (vput 0) a b 8), (fm6, vl6), rfl, ?_, by rw [ht]; exact hP, va_K.moved hW.alike hK, hD⟩, hS.F ht⟩) hS.2.2 dX3_valueToTurn_44
        exact ⟨by { exact rfl }, hT6⟩
      · have c10 : ¬ 8 ≤ 8 := _root_.mt (nq_le (a := 8) (b := 8) (by omega) (by omega)).mpr c10
        omega
    | succ nn ih6 =>
      intro i6 hi6 fm6 vl6 hT6 H locs hP hD hS ls hl
      refine lv_iload hx hb dX3_valueToTurn_6 (lv_at hl 0 rfl) ?_
      refine lv_bipush (v := 8) hx hb dX3_valueToTurn_8 (by decide) ?_
      refine lv_icmp_ge (tgt := 42) hx hb dX3_valueToTurn_10 (by decide) (fun c10 => ?_) (fun c10 => ?_)
      · have c10 : 8 ≤ i6 := (nq_le (a := 8) (b := i6) (by omega) (by omega)).mp c10
        omega
      · have c10 : ¬ 8 ≤ i6 := _root_.mt (nq_le (a := 8) (b := i6) (by omega) (by omega)).mpr c10
        refine lv_iload hx hb dX3_valueToTurn_13 (lv_at hl 1 rfl) ?_
        refine lv_iconst (v := 1) hx hb dX3_valueToTurn_15 (by decide) ?_
        refine lv_icmp_ge (tgt := 42) hx hb dX3_valueToTurn_16 (by decide) (fun c16 => ?_) (fun c16 => ?_)
        · refine lv_iload hx hb dX3_valueToTurn_42 (lv_at hl 1 rfl) ?_
          refine W.iret (v := (vturn (vput 0) a b i6)) hx hb hr (fun tt ht hW => ⟨⟨(vturn (vput 0) a b i6), (fm6, vl6), rfl, ?_, by rw [ht]; exact hP, va_K.moved hW.alike hK, hD⟩, hS.F ht⟩) hS.2.2 dX3_valueToTurn_44
          exact ⟨by { exact stop8 c16 (by omega) }, hT6⟩
        · refine lv_iload hx hb dX3_valueToTurn_19 (lv_at hl 1 rfl) ?_
          refine lv_aload_n hx hb dX3_valueToTurn_21 rfl (lv_at hl 2 rfl) ?_
          refine lv_lload_n hx hb dX3_valueToTurn_22 rfl (lv_at hl 3 rfl) ?_
          refine lv_lload_n hx hb dX3_valueToTurn_23 rfl (lv_at hl 4 rfl) ?_
          refine lv_iload hx hb dX3_valueToTurn_24 (lv_at hl 0 rfl) ?_
          refine lv_iload hx hb dX3_valueToTurn_26 (lv_at hl 5 rfl) ?_
          have hPc := hP.sub (ws' := [(h0, .inr (1, [.ref vt])), (vt, .inr (2, [.ref vf, .ref vv])), (vf, .inl (cJ, 1024, .inr (.inl fm6))), (vv, .inl (cI, 1024, .inl vl6))]) [0, 1, 2, 3] rfl
          have hDc := hD.sub (ws' := [(h0, .inr (1, [.ref vt])), (vt, .inr (2, [.ref vf, .ref vv])), (vf, .inl (cJ, 1024, .inr (.inl fm6))), (vv, .inl (cI, 1024, .inl vl6))]) [0, 1, 2, 3] (by decide) rfl
          have hFc := va_free (wc := [(h0, .inr (1, [.ref vt])), (vt, .inr (2, [.ref vf, .ref vv])), (vf, .inl (cJ, 1024, .inr (.inl fm6))), (vv, .inl (cI, 1024, .inl vl6))]) hD hS hA [0, 1, 2, 3] rfl
          refine va_calli (va_runV (As := [.long a, .long b, .int (nI i6), .int 0]) (rest := [.int (vturn (vput 0) a b i6)]) ⟨hx, hb, hml, hown, hts⟩ (c_X3_valueBehindTurn_f0 l D cI cJ H.size  h0 vt vf vv fm6 vl6 hT6 a b i6 (by omega) hB) (cwV 4 hts gX3_valueToTurn_X3_valueBehindTurn rfl rfl rfl (by decide +kernel) ⟨Nat.le_of_ble_eq_true rfl, Nat.le_of_ble_eq_true rfl⟩) ⟨(px_blindE pv_blind), va_recv hK hPc (ci := 1) (q0 := 0) rfl rfl, fun U hU hW => ⟨rfl, hEN.warm hW, by rw [hU], by rw [hU]; exact hPc, va_K.moved hW.alike hK, hDc.weaken (fun _ _ _ _ => trivial)⟩⟩ rfl rfl hl.1 rfl (lv_room (Nat.le_of_ble_eq_true rfl)) dX3_valueToTurn_28 ⟨(Nat.le_of_ble_eq_true rfl), (Nat.le_of_ble_eq_true rfl)⟩) hS (fun q _ h => hFc q h) hFc (fun r28 u t9 H1 locs hth hvm hw28 hB hz1 hk1 hS => ?_)
          obtain ⟨fm28, vl28⟩ := u
          try dsimp only at hw28
          obtain ⟨hP1, hK1, hD1⟩ := hB
          rw [hth] at hP1
          obtain ⟨hP, hD⟩ := va_join (wr := []) (w1 := [(h0, .inr (1, [.ref vt])), (vt, .inr (2, [.ref vf, .ref vv])), (vf, .inl (cJ, 1024, .inr (.inl fm28))), (vv, .inl (cI, 1024, .inl vl28))]) hP hD [0, 1, 2, 3] [] rfl rfl (by decide) (by decide) hk1 hFc hP1 hD1
          generalize H1 = H at hP hS ⊢
          have hP : va_P D vwCl [(h0, .inr (1, [.ref vt])), (vt, .inr (2, [.ref vf, .ref vv])), (vf, .inl (cJ, 1024, .inr (.inl fm28))), (vv, .inl (cI, 1024, .inl vl28))] H := hP.sub (ws' := [(h0, .inr (1, [.ref vt])), (vt, .inr (2, [.ref vf, .ref vv])), (vf, .inl (cJ, 1024, .inr (.inl fm28))), (vv, .inl (cI, 1024, .inl vl28))]) [0, 1, 2, 3] rfl
          have hD : va_D A [(h0, .inr (1, [.ref vt])), (vt, .inr (2, [.ref vf, .ref vv])), (vf, .inl (cJ, 1024, .inr (.inl fm28))), (vv, .inl (cI, 1024, .inl vl28))] := hD.sub (ws' := [(h0, .inr (1, [.ref vt])), (vt, .inr (2, [.ref vf, .ref vv])), (vf, .inl (cJ, 1024, .inr (.inl fm28))), (vv, .inl (cI, 1024, .inl vl28))]) [0, 1, 2, 3] (by decide) rfl
          obtain ⟨hv9, hT28⟩ := hw28
          obtain rfl := hv9.symm
          refine va_mmax hx hb (by rw [hml]; exact hl.1.symm) hown hmx0 hmx1 hmx2 hmx3 (by decide) (Nat.le_of_ble_eq_true rfl) (Nat.le_of_ble_eq_true rfl) (Nat.le_of_ble_eq_true rfl) dX3_valueToTurn_31 ?_
          refine lv_topi (fun x31 ex31 => ?_)
          refine lv_istore (lv' := [(6, .int x31), (7, .int (nI i6)), (0, .ref h0), (1, .long a), (3, .long b), (5, .int 0)]) hx hb dX3_valueToTurn_34 hl (by decide) rfl (fun ls hl => ?_)
          refine lv_iinc (v := nI (i6 + 1)) (lv' := [(7, .int (nI (i6 + 1))), (6, .int x31), (0, .ref h0), (1, .long a), (3, .long b), (5, .int 0)]) hx hb dX3_valueToTurn_36 hl (k := 1) rfl (nI_add i6 1) (by decide) rfl (fun ls hl => ?_)
          refine lv_goto (tgt := 6) hx hb dX3_valueToTurn_39 (by decide) ?_
          exact ih6 (i6 + 1) (by omega) _ _ hT28 _ _ hP hD hS ls (by { have e9 : (x31 : Int32) = (vturn (vput 0) a b (i6 + 1)) := by { obtain rfl := ex31.symm; exact vturn_s c16 }; rw [← e9]; exact lv_sub hl [0, 1, 2, 3, 4, 5] rfl })
  exact loop6 8 0 (by omega) _ _ hT _ _ hP hD hS ls (lv_sub hl [0, 1, 2, 3, 4, 5] rfl)

set_option maxHeartbeats 400000 in
set_option maxRecDepth 100000 in
theorem c_X3_lowestBestTurn_f0 (l : Launch) (D : va_G) (cI cJ : ClassId) (sz : Nat) (h0 vt vf vv : Nat) (fm : Nat → Int64) (vl : Nat → Int32) (hT : TI fm vl) (a b : Int64)  (hB : BH 0 a b) : Met l yX3_lowestBestTurn wsX3_lowestBestTurn ({ frames := 3, cells := 0, slots := 0, locals := 85 } : Room) (va_Pc [.ref h0, .long a, .long b, .int 0] (px_E (pv_C D cI cJ [(h0, .inr (1, [.ref vt])), (vt, .inr (2, [.ref vf, .ref vv])), (vf, .inl (cJ, 1024, .inr (.inl fm))), (vv, .inl (cI, 1024, .inl vl))] sz))) (va_Qi (fun (r : Int32) (u : (Nat → Int64) × (Nat → Int32)) => r = nI (tlow (vput 0) a b 8).2 ∧ TI u.1 u.2) (fun (u : (Nat → Int64) × (Nat → Int32)) => pv_B D cI cJ (va_A [(h0, .inr (1, [.ref vt])), (vt, .inr (2, [.ref vf, .ref vv])), (vf, .inl (cJ, 1024, .inr (.inl fm))), (vv, .inl (cI, 1024, .inl vl))] sz) [(h0, .inr (1, [.ref vt])), (vt, .inr (2, [.ref vf, .ref vv])), (vf, .inl (cJ, 1024, .inr (.inl u.1))), (vv, .inl (cI, 1024, .inl u.2))]) (va_A [(h0, .inr (1, [.ref vt])), (vt, .inr (2, [.ref vf, .ref vv])), (vf, .inl (cJ, 1024, .inr (.inl fm))), (vv, .inl (cI, 1024, .inl vl))] sz)) 0 0 (va_A [(h0, .inr (1, [.ref vt])), (vt, .inr (2, [.ref vf, .ref vv])), (vf, .inl (cJ, 1024, .inr (.inl fm))), (vv, .inl (cI, 1024, .inl vl))] sz) := by
  refine Met.ofW (cc := cX3_lowestBestTurn) (maxL := 10) (ret := (some .int)) (by decide) rfl ?_
  intro p e s m args below meth c s₁ B hml hv
  obtain ⟨rfl, hEN, rfl, hP, hK, hD0⟩ := hv
  have hx := B.exec
  have hb := B.bytes
  have hr := B.returns
  have hts := atoms_spec (ws := wsX3_lowestBestTurn) B.pre
  have hown : s.vm.findClass RX3 = some m.cls := findClass_of_methodNamed B.named
  have hlocks := B.notSynchronized
  have hD := hD0.self (sz := s.heap.size)
  generalize hAe : va_A [(h0, .inr (1, [.ref vt])), (vt, .inr (2, [.ref vf, .ref vv])), (vf, .inl (cJ, 1024, .inr (.inl fm))), (vv, .inl (cI, 1024, .inl vl))] s.heap.size = A at hD ⊢
  have hA : ∀ q : Nat, s.heap.size ≤ q → A q := fun q h => by rw [← hAe]; exact Or.inr h
  have hS : va_S A s.heap s.heap [] := va_S.rf
  have hl := lv_entry ([.ref h0, .long a, .long b, .int 0]) (n := 10) (Nat.le_of_ble_eq_true rfl)
  rw [lg_entry_eq]
  generalize (lg_sl ([.ref h0, .long a, .long b, .int 0]) ++ List.replicate (10 - (lg_sl ([.ref h0, .long a, .long b, .int 0])).length) Slot.unset).toArray = ls at hl ⊢
  have hl : lv_has ls 10 [(0, .ref h0), (1, .long a), (3, .long b), (5, .int 0)] := hl
  refine lv_bipush (v := (-2)) hx hb dX3_lowestBestTurn_0 (by decide) ?_
  refine lv_istore (lv' := [(6, .int (-2)), (0, .ref h0), (1, .long a), (3, .long b), (5, .int 0)]) hx hb dX3_lowestBestTurn_2 hl (by decide) rfl (fun ls hl => ?_)
  refine lv_iconst (v := 0) hx hb dX3_lowestBestTurn_4 (by decide) ?_
  refine lv_istore (lv' := [(7, .int 0), (6, .int (-2)), (0, .ref h0), (1, .long a), (3, .long b), (5, .int 0)]) hx hb dX3_lowestBestTurn_5 hl (by decide) rfl (fun ls hl => ?_)
  refine lv_iconst (v := 0) hx hb dX3_lowestBestTurn_7 (by decide) ?_
  refine lv_istore (lv' := [(8, .int 0), (7, .int 0), (6, .int (-2)), (0, .ref h0), (1, .long a), (3, .long b), (5, .int 0)]) hx hb dX3_lowestBestTurn_8 hl (by decide) rfl (fun ls hl => ?_)
  have loop10 : ∀ (nn i10 : Nat), i10 + nn = 8 → ∀ (fm10 : Nat → Int64) (vl10 : Nat → Int32) (hT10 : TI fm10 vl10) (H : Heap) (locs : List Loc), va_P D vwCl [(h0, .inr (1, [.ref vt])), (vt, .inr (2, [.ref vf, .ref vv])), (vf, .inl (cJ, 1024, .inr (.inl fm10))), (vv, .inl (cI, 1024, .inl vl10))] H → va_D A [(h0, .inr (1, [.ref vt])), (vt, .inr (2, [.ref vf, .ref vv])), (vf, .inl (cJ, 1024, .inr (.inl fm10))), (vv, .inl (cI, 1024, .inl vl10))] → va_S A s.heap H locs → ∀ ls, lv_has ls 10 [(8, .int (nI i10)), (6, .int (tlow (vput 0) a b i10).1), (7, .int (nI (tlow (vput 0) a b i10).2)), (0, .ref h0), (1, .long a), (3, .long b), (5, .int 0)] → W p l e (headSpec wsX3_lowestBestTurn ({ frames := 3, cells := 0, slots := 0, locals := 85 } : Room)).room s m ([.ref h0, .long a, .long b, .int 0] : List Value).toArray below meth c H locs 0 0 (MQ below (va_Qi (fun (r : Int32) (u : (Nat → Int64) × (Nat → Int32)) => r = nI (tlow (vput 0) a b 8).2 ∧ TI u.1 u.2) (fun (u : (Nat → Int64) × (Nat → Int32)) => pv_B D cI cJ (A) [(h0, .inr (1, [.ref vt])), (vt, .inr (2, [.ref vf, .ref vv])), (vf, .inl (cJ, 1024, .inr (.inl u.1))), (vv, .inl (cI, 1024, .inl u.2))]) (A)) ([.ref h0, .long a, .long b, .int 0] : List Value).toArray s 0 0 A) (F0 m 10 ls []) := by
    intro nn
    induction nn with
    | zero =>
      intro i10 hi10 fm10 vl10 hT10 H locs hP hD hS ls hl
      obtain rfl : i10 = 8 := by omega
      refine lv_iload hx hb dX3_lowestBestTurn_10 (lv_at hl 0 rfl) ?_
      refine lv_bipush (v := 8) hx hb dX3_lowestBestTurn_12 (by decide) ?_
      refine lv_icmp_ge (tgt := 56) hx hb dX3_lowestBestTurn_14 (by decide) (fun c14 => ?_) (fun c14 => ?_)
      · have c14 : 8 ≤ 8 := (nq_le (a := 8) (b := 8) (by omega) (by omega)).mp c14
        refine lv_iload hx hb dX3_lowestBestTurn_56 (lv_at hl 2 rfl) ?_
        refine W.iret (v := (nI (tlow (vput 0) a b 8).2)) hx hb hr (fun tt ht hW => ⟨⟨(nI (tlow (vput 0) a b 8).2), (fm10, vl10), rfl, ?_, by rw [ht]; exact hP, va_K.moved hW.alike hK, hD⟩, hS.F ht⟩) hS.2.2 dX3_lowestBestTurn_58
        exact ⟨by { exact rfl }, hT10⟩
      · have c14 : ¬ 8 ≤ 8 := _root_.mt (nq_le (a := 8) (b := 8) (by omega) (by omega)).mpr c14
        omega
    | succ nn ih10 =>
      intro i10 hi10 fm10 vl10 hT10 H locs hP hD hS ls hl
      refine lv_iload hx hb dX3_lowestBestTurn_10 (lv_at hl 0 rfl) ?_
      refine lv_bipush (v := 8) hx hb dX3_lowestBestTurn_12 (by decide) ?_
      refine lv_icmp_ge (tgt := 56) hx hb dX3_lowestBestTurn_14 (by decide) (fun c14 => ?_) (fun c14 => ?_)
      · have c14 : 8 ≤ i10 := (nq_le (a := 8) (b := i10) (by omega) (by omega)).mp c14
        omega
      · have c14 : ¬ 8 ≤ i10 := _root_.mt (nq_le (a := 8) (b := i10) (by omega) (by omega)).mpr c14
        refine lv_iload hx hb dX3_lowestBestTurn_17 (lv_at hl 1 rfl) ?_
        refine lv_iconst (v := 1) hx hb dX3_lowestBestTurn_19 (by decide) ?_
        refine lv_icmp_ge (tgt := 56) hx hb dX3_lowestBestTurn_20 (by decide) (fun c20 => ?_) (fun c20 => ?_)
        · refine lv_iload hx hb dX3_lowestBestTurn_56 (lv_at hl 2 rfl) ?_
          refine W.iret (v := (nI (tlow (vput 0) a b i10).2)) hx hb hr (fun tt ht hW => ⟨⟨(nI (tlow (vput 0) a b i10).2), (fm10, vl10), rfl, ?_, by rw [ht]; exact hP, va_K.moved hW.alike hK, hD⟩, hS.F ht⟩) hS.2.2 dX3_lowestBestTurn_58
          exact ⟨by { rw [stopT c20 (by omega)] }, hT10⟩
        · refine lv_aload_n hx hb dX3_lowestBestTurn_23 rfl (lv_at hl 3 rfl) ?_
          refine lv_lload_n hx hb dX3_lowestBestTurn_24 rfl (lv_at hl 4 rfl) ?_
          refine lv_lload_n hx hb dX3_lowestBestTurn_25 rfl (lv_at hl 5 rfl) ?_
          refine lv_iload hx hb dX3_lowestBestTurn_26 (lv_at hl 0 rfl) ?_
          refine lv_iload hx hb dX3_lowestBestTurn_28 (lv_at hl 6 rfl) ?_
          have hPc := hP.sub (ws' := [(h0, .inr (1, [.ref vt])), (vt, .inr (2, [.ref vf, .ref vv])), (vf, .inl (cJ, 1024, .inr (.inl fm10))), (vv, .inl (cI, 1024, .inl vl10))]) [0, 1, 2, 3] rfl
          have hDc := hD.sub (ws' := [(h0, .inr (1, [.ref vt])), (vt, .inr (2, [.ref vf, .ref vv])), (vf, .inl (cJ, 1024, .inr (.inl fm10))), (vv, .inl (cI, 1024, .inl vl10))]) [0, 1, 2, 3] (by decide) rfl
          have hFc := va_free (wc := [(h0, .inr (1, [.ref vt])), (vt, .inr (2, [.ref vf, .ref vv])), (vf, .inl (cJ, 1024, .inr (.inl fm10))), (vv, .inl (cI, 1024, .inl vl10))]) hD hS hA [0, 1, 2, 3] rfl
          refine va_calli (va_runV (As := [.long a, .long b, .int (nI i10), .int 0]) (rest := []) ⟨hx, hb, hml, hown, hts⟩ (c_X3_valueBehindTurn_f0 l D cI cJ H.size  h0 vt vf vv fm10 vl10 hT10 a b i10 (by omega) hB) (cwV 4 hts gX3_lowestBestTurn_X3_valueBehindTurn rfl rfl rfl (by decide +kernel) ⟨Nat.le_of_ble_eq_true rfl, Nat.le_of_ble_eq_true rfl⟩) ⟨(px_blindE pv_blind), va_recv hK hPc (ci := 1) (q0 := 0) rfl rfl, fun U hU hW => ⟨rfl, hEN.warm hW, by rw [hU], by rw [hU]; exact hPc, va_K.moved hW.alike hK, hDc.weaken (fun _ _ _ _ => trivial)⟩⟩ rfl rfl hl.1 rfl (lv_room (Nat.le_of_ble_eq_true rfl)) dX3_lowestBestTurn_30 ⟨(Nat.le_of_ble_eq_true rfl), (Nat.le_of_ble_eq_true rfl)⟩) hS (fun q _ h => hFc q h) hFc (fun r30 u t9 H1 locs hth hvm hw30 hB hz1 hk1 hS => ?_)
          obtain ⟨fm30, vl30⟩ := u
          try dsimp only at hw30
          obtain ⟨hP1, hK1, hD1⟩ := hB
          rw [hth] at hP1
          obtain ⟨hP, hD⟩ := va_join (wr := []) (w1 := [(h0, .inr (1, [.ref vt])), (vt, .inr (2, [.ref vf, .ref vv])), (vf, .inl (cJ, 1024, .inr (.inl fm30))), (vv, .inl (cI, 1024, .inl vl30))]) hP hD [0, 1, 2, 3] [] rfl rfl (by decide) (by decide) hk1 hFc hP1 hD1
          generalize H1 = H at hP hS ⊢
          have hP : va_P D vwCl [(h0, .inr (1, [.ref vt])), (vt, .inr (2, [.ref vf, .ref vv])), (vf, .inl (cJ, 1024, .inr (.inl fm30))), (vv, .inl (cI, 1024, .inl vl30))] H := hP.sub (ws' := [(h0, .inr (1, [.ref vt])), (vt, .inr (2, [.ref vf, .ref vv])), (vf, .inl (cJ, 1024, .inr (.inl fm30))), (vv, .inl (cI, 1024, .inl vl30))]) [0, 1, 2, 3] rfl
          have hD : va_D A [(h0, .inr (1, [.ref vt])), (vt, .inr (2, [.ref vf, .ref vv])), (vf, .inl (cJ, 1024, .inr (.inl fm30))), (vv, .inl (cI, 1024, .inl vl30))] := hD.sub (ws' := [(h0, .inr (1, [.ref vt])), (vt, .inr (2, [.ref vf, .ref vv])), (vf, .inl (cJ, 1024, .inr (.inl fm30))), (vv, .inl (cI, 1024, .inl vl30))]) [0, 1, 2, 3] (by decide) rfl
          obtain ⟨hv9, hT30⟩ := hw30
          obtain rfl := hv9.symm
          refine lv_istore (lv' := [(9, .int (vbehind (vput 0) a b i10)), (8, .int (nI i10)), (6, .int (tlow (vput 0) a b i10).1), (7, .int (nI (tlow (vput 0) a b i10).2)), (0, .ref h0), (1, .long a), (3, .long b), (5, .int 0)]) hx hb dX3_lowestBestTurn_33 hl (by decide) rfl (fun ls hl => ?_)
          refine lv_iload hx hb dX3_lowestBestTurn_35 (lv_at hl 0 rfl) ?_
          refine lv_iload hx hb dX3_lowestBestTurn_37 (lv_at hl 2 rfl) ?_
          refine lv_icmp_le (tgt := 50) hx hb dX3_lowestBestTurn_39 (by decide) (fun c39 => ?_) (fun c39 => ?_)
          · refine lv_iinc (v := nI (i10 + 1)) (lv' := [(8, .int (nI (i10 + 1))), (9, .int (vbehind (vput 0) a b i10)), (6, .int (tlow (vput 0) a b i10).1), (7, .int (nI (tlow (vput 0) a b i10).2)), (0, .ref h0), (1, .long a), (3, .long b), (5, .int 0)]) hx hb dX3_lowestBestTurn_50 hl (k := 1) rfl (nI_add i10 1) (by decide) rfl (fun ls hl => ?_)
            refine lv_goto (tgt := 10) hx hb dX3_lowestBestTurn_53 (by decide) ?_
            exact ih10 (i10 + 1) (by omega) _ _ hT30 _ _ hP hD hS ls (by { have e9 : ((tlow (vput 0) a b i10).1 : Int32) = (tlow (vput 0) a b (i10 + 1)).1 := by { skip; exact (congrArg Prod.fst (tlow_b c20 c39)).symm }; rw [← e9]; have e9 : ((nI (tlow (vput 0) a b i10).2) : Int32) = (nI (tlow (vput 0) a b (i10 + 1)).2) := by { skip; exact (congrArg (fun q => nI q.2) (tlow_b c20 c39)).symm }; rw [← e9]; exact lv_sub hl [0, 2, 3, 4, 5, 6, 7] rfl })
          · refine lv_iload hx hb dX3_lowestBestTurn_42 (lv_at hl 0 rfl) ?_
            refine lv_istore (lv' := [(6, .int (vbehind (vput 0) a b i10)), (9, .int (vbehind (vput 0) a b i10)), (8, .int (nI i10)), (7, .int (nI (tlow (vput 0) a b i10).2)), (0, .ref h0), (1, .long a), (3, .long b), (5, .int 0)]) hx hb dX3_lowestBestTurn_44 hl (by decide) rfl (fun ls hl => ?_)
            refine lv_iload hx hb dX3_lowestBestTurn_46 (lv_at hl 2 rfl) ?_
            refine lv_istore (lv' := [(7, .int (nI i10)), (6, .int (vbehind (vput 0) a b i10)), (9, .int (vbehind (vput 0) a b i10)), (8, .int (nI i10)), (0, .ref h0), (1, .long a), (3, .long b), (5, .int 0)]) hx hb dX3_lowestBestTurn_48 hl (by decide) rfl (fun ls hl => ?_)
            refine lv_iinc (v := nI (i10 + 1)) (lv' := [(8, .int (nI (i10 + 1))), (7, .int (nI i10)), (6, .int (vbehind (vput 0) a b i10)), (9, .int (vbehind (vput 0) a b i10)), (0, .ref h0), (1, .long a), (3, .long b), (5, .int 0)]) hx hb dX3_lowestBestTurn_50 hl (k := 3) rfl (nI_add i10 1) (by decide) rfl (fun ls hl => ?_)
            refine lv_goto (tgt := 10) hx hb dX3_lowestBestTurn_53 (by decide) ?_
            exact ih10 (i10 + 1) (by omega) _ _ hT30 _ _ hP hD hS ls (by { have e9 : ((vbehind (vput 0) a b i10) : Int32) = (tlow (vput 0) a b (i10 + 1)).1 := by { skip; exact (congrArg Prod.fst (tlow_a c20 c39)).symm }; rw [← e9]; have e9 : ((nI i10) : Int32) = (nI (tlow (vput 0) a b (i10 + 1)).2) := by { skip; exact (congrArg (fun q => nI q.2) (tlow_a c20 c39)).symm }; rw [← e9]; exact lv_sub hl [0, 2, 1, 4, 5, 6, 7] rfl })
  exact loop10 8 0 (by omega) _ _ hT _ _ hP hD hS ls (lv_sub hl [0, 2, 1, 3, 4, 5, 6] rfl)

set_option maxHeartbeats 400000 in
set_option maxRecDepth 100000 in
theorem c_X3_playMarbles_f1 (l : Launch) (D : va_G) (cI cJ : ClassId) (sz : Nat) (h0 vt vf vv : Nat) (fm : Nat → Int64) (vl : Nat → Int32) (hT : TI fm vl) (a b : Int64)  (hB : BV 1 a b) : Met l yX3_playMarbles wsX3_playMarbles ({ frames := 4, cells := 0, slots := 0, locals := 112 } : Room) (va_Pc [.ref h0, .long a, .long b, .int 1] (px_E (pv_C D cI cJ [(h0, .inr (1, [.ref vt])), (vt, .inr (2, [.ref vf, .ref vv])), (vf, .inl (cJ, 1024, .inr (.inl fm))), (vv, .inl (cI, 1024, .inl vl))] sz))) (va_Qi (fun (r : Int32) (u : (Nat → Int64) × (Nat → Int32)) => r = vput 1 a b ∧ TI u.1 u.2) (fun (u : (Nat → Int64) × (Nat → Int32)) => pv_B D cI cJ (va_A [(h0, .inr (1, [.ref vt])), (vt, .inr (2, [.ref vf, .ref vv])), (vf, .inl (cJ, 1024, .inr (.inl fm))), (vv, .inl (cI, 1024, .inl vl))] sz) [(h0, .inr (1, [.ref vt])), (vt, .inr (2, [.ref vf, .ref vv])), (vf, .inl (cJ, 1024, .inr (.inl u.1))), (vv, .inl (cI, 1024, .inl u.2))]) (va_A [(h0, .inr (1, [.ref vt])), (vt, .inr (2, [.ref vf, .ref vv])), (vf, .inl (cJ, 1024, .inr (.inl fm))), (vv, .inl (cI, 1024, .inl vl))] sz)) 0 0 (va_A [(h0, .inr (1, [.ref vt])), (vt, .inr (2, [.ref vf, .ref vv])), (vf, .inl (cJ, 1024, .inr (.inl fm))), (vv, .inl (cI, 1024, .inl vl))] sz) := by
  refine Met.ofW (cc := cX3_playMarbles) (maxL := 11) (ret := (some .int)) (by decide) rfl ?_
  intro p e s m args below meth c s₁ B hml hv
  obtain ⟨rfl, hEN, rfl, hP, hK, hD0⟩ := hv
  have hx := B.exec
  have hb := B.bytes
  have hr := B.returns
  have hts := atoms_spec (ws := wsX3_playMarbles) B.pre
  have hown : s.vm.findClass RX3 = some m.cls := findClass_of_methodNamed B.named
  have hlocks := B.notSynchronized
  have hD := hD0.self (sz := s.heap.size)
  generalize hAe : va_A [(h0, .inr (1, [.ref vt])), (vt, .inr (2, [.ref vf, .ref vv])), (vf, .inl (cJ, 1024, .inr (.inl fm))), (vv, .inl (cI, 1024, .inl vl))] s.heap.size = A at hD ⊢
  have hA : ∀ q : Nat, s.heap.size ≤ q → A q := fun q h => by rw [← hAe]; exact Or.inr h
  have hS : va_S A s.heap s.heap [] := va_S.rf
  have hnest54 : va_Nw (.methodLinkNest RX3 54 yX6_bitOf RX6) s := hEN.1
  have hiniX6 : (Cond.initialized (yX6_bitOf).cls).before ([.ref h0, .long a, .long b, .int 1] : List Value).toArray s = true := hts (.initialized RX6) (by decide +kernel)
  have hmx0 : (Cond.methodLink RX3 48 Lib.Math.max.name).before ([.ref h0, .long a, .long b, .int 1] : List Value).toArray s = true := hts _ (by decide +kernel)
  have hmx1 : (Cond.static Lib.Math.max.name).before ([.ref h0, .long a, .long b, .int 1] : List Value).toArray s = true := hts _ (by decide +kernel)
  have hmx2 : (Cond.initialized "java/lang/Math").before ([.ref h0, .long a, .long b, .int 1] : List Value).toArray s = true := hts _ (by decide +kernel)
  have hmx3 : (Cond.code Lib.Math.max.name Lib.Math.max.code 2 (some .int)).before ([.ref h0, .long a, .long b, .int 1] : List Value).toArray s = true := hts _ (by decide +kernel)
  have hl := lv_entry ([.ref h0, .long a, .long b, .int 1]) (n := 11) (Nat.le_of_ble_eq_true rfl)
  rw [lg_entry_eq]
  generalize (lg_sl ([.ref h0, .long a, .long b, .int 1]) ++ List.replicate (11 - (lg_sl ([.ref h0, .long a, .long b, .int 1])).length) Slot.unset).toArray = ls at hl ⊢
  have hl : lv_has ls 11 [(0, .ref h0), (1, .long a), (3, .long b), (5, .int 1)] := hl
  refine lv_iconst (v := (-1)) hx hb dX3_playMarbles_0 (by decide) ?_
  refine lv_istore (lv' := [(6, .int (-1)), (0, .ref h0), (1, .long a), (3, .long b), (5, .int 1)]) hx hb dX3_playMarbles_1 hl (by decide) rfl (fun ls hl => ?_)
  refine lv_iconst (v := 0) hx hb dX3_playMarbles_3 (by decide) ?_
  refine lv_istore (lv' := [(7, .int 0), (6, .int (-1)), (0, .ref h0), (1, .long a), (3, .long b), (5, .int 1)]) hx hb dX3_playMarbles_4 hl (by decide) rfl (fun ls hl => ?_)
  have loop6 : ∀ (nn i6 : Nat), i6 + nn = 36 → ∀ (fm6 : Nat → Int64) (vl6 : Nat → Int32) (hT6 : TI fm6 vl6) (H : Heap) (locs : List Loc), va_P D vwCl [(h0, .inr (1, [.ref vt])), (vt, .inr (2, [.ref vf, .ref vv])), (vf, .inl (cJ, 1024, .inr (.inl fm6))), (vv, .inl (cI, 1024, .inl vl6))] H → va_D A [(h0, .inr (1, [.ref vt])), (vt, .inr (2, [.ref vf, .ref vv])), (vf, .inl (cJ, 1024, .inr (.inl fm6))), (vv, .inl (cI, 1024, .inl vl6))] → va_S A s.heap H locs → ∀ ls, lv_has ls 11 [(7, .int (nI i6)), (6, .int (vplay (vput 0) a b i6)), (0, .ref h0), (1, .long a), (3, .long b), (5, .int 1)] → W p l e (headSpec wsX3_playMarbles ({ frames := 4, cells := 0, slots := 0, locals := 112 } : Room)).room s m ([.ref h0, .long a, .long b, .int 1] : List Value).toArray below meth c H locs 0 0 (MQ below (va_Qi (fun (r : Int32) (u : (Nat → Int64) × (Nat → Int32)) => r = vput 1 a b ∧ TI u.1 u.2) (fun (u : (Nat → Int64) × (Nat → Int32)) => pv_B D cI cJ (A) [(h0, .inr (1, [.ref vt])), (vt, .inr (2, [.ref vf, .ref vv])), (vf, .inl (cJ, 1024, .inr (.inl u.1))), (vv, .inl (cI, 1024, .inl u.2))]) (A)) ([.ref h0, .long a, .long b, .int 1] : List Value).toArray s 0 0 A) (F0 m 6 ls []) := by
    intro nn
    induction nn with
    | zero =>
      intro i6 hi6 fm6 vl6 hT6 H locs hP hD hS ls hl
      obtain rfl : i6 = 36 := by omega
      refine lv_iload hx hb dX3_playMarbles_6 (lv_at hl 0 rfl) ?_
      refine lv_bipush (v := 36) hx hb dX3_playMarbles_8 (by decide) ?_
      refine lv_icmp_ge (tgt := 81) hx hb dX3_playMarbles_10 (by decide) (fun c10 => ?_) (fun c10 => ?_)
      · have c10 : 36 ≤ 36 := (nq_le (a := 36) (b := 36) (by omega) (by omega)).mp c10
        refine lv_iload hx hb dX3_playMarbles_81 (lv_at hl 1 rfl) ?_
        refine W.iret (v := (vplay (vput 0) a b 36)) hx hb hr (fun tt ht hW => ⟨⟨(vplay (vput 0) a b 36), (fm6, vl6), rfl, ?_, by rw [ht]; exact hP, va_K.moved hW.alike hK, hD⟩, hS.F ht⟩) hS.2.2 dX3_playMarbles_83
        exact ⟨by { exact rfl }, hT6⟩
      · have c10 : ¬ 36 ≤ 36 := _root_.mt (nq_le (a := 36) (b := 36) (by omega) (by omega)).mpr c10
        omega
    | succ nn ih6 =>
      intro i6 hi6 fm6 vl6 hT6 H locs hP hD hS ls hl
      refine lv_iload hx hb dX3_playMarbles_6 (lv_at hl 0 rfl) ?_
      refine lv_bipush (v := 36) hx hb dX3_playMarbles_8 (by decide) ?_
      refine lv_icmp_ge (tgt := 81) hx hb dX3_playMarbles_10 (by decide) (fun c10 => ?_) (fun c10 => ?_)
      · have c10 : 36 ≤ i6 := (nq_le (a := 36) (b := i6) (by omega) (by omega)).mp c10
        omega
      · have c10 : ¬ 36 ≤ i6 := _root_.mt (nq_le (a := 36) (b := i6) (by omega) (by omega)).mpr c10
        refine lv_iload hx hb dX3_playMarbles_13 (lv_at hl 1 rfl) ?_
        refine lv_iconst (v := 1) hx hb dX3_playMarbles_15 (by decide) ?_
        refine lv_icmp_ge (tgt := 81) hx hb dX3_playMarbles_16 (by decide) (fun c16 => ?_) (fun c16 => ?_)
        · refine lv_iload hx hb dX3_playMarbles_81 (lv_at hl 1 rfl) ?_
          refine W.iret (v := (vplay (vput 0) a b i6)) hx hb hr (fun tt ht hW => ⟨⟨(vplay (vput 0) a b i6), (fm6, vl6), rfl, ?_, by rw [ht]; exact hP, va_K.moved hW.alike hK, hD⟩, hS.F ht⟩) hS.2.2 dX3_playMarbles_83
          exact ⟨by { exact stop36 c16 (by omega) }, hT6⟩
        · refine lv_iload hx hb dX3_playMarbles_19 (lv_at hl 0 rfl) ?_
          refine vp_callSl (va_Run.run (va_runSN (As := [.int (nI i6)]) (rest := []) ⟨hx, hb, hml, hown, hts⟩ (c_X6_bitOf l (nI i6)) ⟨va_cnB 1 hts gX3_playMarbles_X6_bitOf_n54 rfl rfl rfl hnest54 hiniX6 (by decide +kernel) ⟨Nat.le_of_ble_eq_true rfl, Nat.le_of_ble_eq_true rfl⟩, hts _ (by decide +kernel), trivial⟩ ⟨px_blind0, fun U hU hW => ⟨rfl, trivial⟩⟩ rfl rfl hl.1 rfl (lv_room (Nat.le_of_ble_eq_true rfl)) dX3_playMarbles_21 ⟨(Nat.le_of_ble_eq_true rfl), (Nat.le_of_ble_eq_true rfl)⟩)) (fun r21 er21 => ?_)
          obtain rfl := er21.symm
          refine lv_lstore (lv' := [(8, .long (jshl 1 (nI i6))), (7, .int (nI i6)), (6, .int (vplay (vput 0) a b i6)), (0, .ref h0), (1, .long a), (3, .long b), (5, .int 1)]) hx hb dX3_playMarbles_24 hl (by decide) rfl (fun ls hl => ?_)
          refine lv_lload_n hx hb dX3_playMarbles_26 rfl (lv_at hl 4 rfl) ?_
          refine lv_lload_n hx hb dX3_playMarbles_27 rfl (lv_at hl 5 rfl) ?_
          refine lv_lor hx hb dX3_playMarbles_28 ?_
          refine lv_topl (fun x28 ex28 => ?_)
          refine lv_lload hx hb dX3_playMarbles_29 (lv_at hl 0 rfl) ?_
          refine lv_land hx hb dX3_playMarbles_31 ?_
          refine lv_topl (fun x31 ex31 => ?_)
          refine lv_lconst (v := 0) hx hb dX3_playMarbles_32 (by decide) ?_
          refine W.lcmp hx hb dX3_playMarbles_33 ?_
          refine lv_if_ne (tgt := 75) hx hb dX3_playMarbles_34 (by decide) (fun c34 => ?_) (fun c34 => ?_)
          · rw [lg_cmp_eq] at c34
            refine lv_iinc (v := nI (i6 + 1)) (lv' := [(7, .int (nI (i6 + 1))), (8, .long (jshl 1 (nI i6))), (6, .int (vplay (vput 0) a b i6)), (0, .ref h0), (1, .long a), (3, .long b), (5, .int 1)]) hx hb dX3_playMarbles_75 hl (k := 1) rfl (nI_add i6 1) (by decide) rfl (fun ls hl => ?_)
            refine lv_goto (tgt := 6) hx hb dX3_playMarbles_78 (by decide) ?_
            exact ih6 (i6 + 1) (by omega) _ _ hT6 _ _ hP hD hS ls (by { have e9 : ((vplay (vput 0) a b i6) : Int32) = (vplay (vput 0) a b (i6 + 1)) := by { obtain rfl := ex28.symm; obtain rfl := ex31.symm; exact vplay_a c16 c34 }; rw [← e9]; exact lv_sub hl [0, 2, 3, 4, 5, 6] rfl })
          · rw [lg_cmp_eq] at c34
            refine lv_lload_n hx hb dX3_playMarbles_37 rfl (lv_at hl 4 rfl) ?_
            refine lv_lload hx hb dX3_playMarbles_38 (lv_at hl 0 rfl) ?_
            refine lv_lor hx hb dX3_playMarbles_40 ?_
            refine lv_topl (fun x40 ex40 => ?_)
            refine vp_callSi (W.runS (As := [.long x40]) (rest := []) ⟨hx, hb, hml, hown, hts⟩ (c_X1_hasLine l x40) (va_cwS 1 hts gX3_playMarbles_X1_hasLine rfl rfl rfl (by decide +kernel) ⟨Nat.le_of_ble_eq_true rfl, Nat.le_of_ble_eq_true rfl⟩) ⟨px_blind0, fun U hU hW => ⟨rfl, trivial⟩⟩ rfl rfl hl.1 rfl (lv_room (Nat.le_of_ble_eq_true rfl)) dX3_playMarbles_41 ⟨(Nat.le_of_ble_eq_true rfl), (Nat.le_of_ble_eq_true rfl)⟩) (fun r41 er41 => ?_)
            obtain rfl := er41.symm
            refine pk_b (P := cline x40 = true) (fun b41 => ?_) (fun b41 => ?_)
            · refine lv_if_eq (tgt := 51) hx hb dX3_playMarbles_44 (by decide) (fun c44 => ?_) (fun c44 => ?_)
              · exact absurd c44 (by decide)
              · refine lv_iconst (v := 1) hx hb dX3_playMarbles_47 (by decide) ?_
                refine lv_goto (tgt := 64) hx hb dX3_playMarbles_48 (by decide) ?_
                refine lv_istore (lv' := [(10, .int 1), (8, .long (jshl 1 (nI i6))), (7, .int (nI i6)), (6, .int (vplay (vput 0) a b i6)), (0, .ref h0), (1, .long a), (3, .long b), (5, .int 1)]) hx hb dX3_playMarbles_64 hl (by decide) rfl (fun ls hl => ?_)
                refine lv_iload hx hb dX3_playMarbles_66 (lv_at hl 3 rfl) ?_
                refine lv_iload hx hb dX3_playMarbles_68 (lv_at hl 0 rfl) ?_
                refine va_mmax hx hb (by rw [hml]; exact hl.1.symm) hown hmx0 hmx1 hmx2 hmx3 (by decide) (Nat.le_of_ble_eq_true rfl) (Nat.le_of_ble_eq_true rfl) (Nat.le_of_ble_eq_true rfl) dX3_playMarbles_70 ?_
                refine lv_topi (fun x70 ex70 => ?_)
                refine lv_istore (lv' := [(6, .int x70), (10, .int 1), (8, .long (jshl 1 (nI i6))), (7, .int (nI i6)), (0, .ref h0), (1, .long a), (3, .long b), (5, .int 1)]) hx hb dX3_playMarbles_73 hl (by decide) rfl (fun ls hl => ?_)
                refine lv_iinc (v := nI (i6 + 1)) (lv' := [(7, .int (nI (i6 + 1))), (6, .int x70), (10, .int 1), (8, .long (jshl 1 (nI i6))), (0, .ref h0), (1, .long a), (3, .long b), (5, .int 1)]) hx hb dX3_playMarbles_75 hl (k := 3) rfl (nI_add i6 1) (by decide) rfl (fun ls hl => ?_)
                refine lv_goto (tgt := 6) hx hb dX3_playMarbles_78 (by decide) ?_
                exact ih6 (i6 + 1) (by omega) _ _ hT6 _ _ hP hD hS ls (by { have e9 : (x70 : Int32) = (vplay (vput 0) a b (i6 + 1)) := by { obtain rfl := ex28.symm; obtain rfl := ex31.symm; obtain rfl := ex40.symm; obtain rfl := ex70.symm; exact vplay_c c16 c34 (vcell_1 b41) }; rw [← e9]; exact lv_sub hl [0, 1, 4, 5, 6, 7] rfl })
            · refine lv_if_eq (tgt := 51) hx hb dX3_playMarbles_44 (by decide) (fun c44 => ?_) (fun c44 => ?_)
              · refine lv_aload_n hx hb dX3_playMarbles_51 rfl (lv_at hl 3 rfl) ?_
                refine lv_lload_n hx hb dX3_playMarbles_52 rfl (lv_at hl 4 rfl) ?_
                refine lv_lload hx hb dX3_playMarbles_53 (lv_at hl 0 rfl) ?_
                refine lv_lor hx hb dX3_playMarbles_55 ?_
                refine lv_topl (fun x55 ex55 => ?_)
                refine lv_lload_n hx hb dX3_playMarbles_56 rfl (lv_at hl 5 rfl) ?_
                refine lv_iload hx hb dX3_playMarbles_57 (lv_at hl 6 rfl) ?_
                refine lv_iconst (v := 1) hx hb dX3_playMarbles_59 (by decide) ?_
                refine lv_isub hx hb dX3_playMarbles_60 ?_
                refine pk_ti (y := nI 0) (by decide) ?_
                have hPc := hP.sub (ws' := [(h0, .inr (1, [.ref vt])), (vt, .inr (2, [.ref vf, .ref vv])), (vf, .inl (cJ, 1024, .inr (.inl fm6))), (vv, .inl (cI, 1024, .inl vl6))]) [0, 1, 2, 3] rfl
                have hDc := hD.sub (ws' := [(h0, .inr (1, [.ref vt])), (vt, .inr (2, [.ref vf, .ref vv])), (vf, .inl (cJ, 1024, .inr (.inl fm6))), (vv, .inl (cI, 1024, .inl vl6))]) [0, 1, 2, 3] (by decide) rfl
                have hFc := va_free (wc := [(h0, .inr (1, [.ref vt])), (vt, .inr (2, [.ref vf, .ref vv])), (vf, .inl (cJ, 1024, .inr (.inl fm6))), (vv, .inl (cI, 1024, .inl vl6))]) hD hS hA [0, 1, 2, 3] rfl
                refine va_calli (va_runV (As := [.long x55, .long b, .int (nI 0)]) (rest := []) ⟨hx, hb, hml, hown, hts⟩ (c_X3_valueToTurn_f0 l D cI cJ H.size  h0 vt vf vv fm6 vl6 hT6 x55 b (by obtain rfl := ex28.symm; obtain rfl := ex31.symm; obtain rfl := ex40.symm; obtain rfl := ex55.symm; exact bv_put hB (by omega) c34)) (cwV 3 hts gX3_playMarbles_X3_valueToTurn rfl rfl rfl (by decide +kernel) ⟨Nat.le_of_ble_eq_true rfl, Nat.le_of_ble_eq_true rfl⟩) ⟨(px_blindE pv_blind), va_recv hK hPc (ci := 1) (q0 := 0) rfl rfl, fun U hU hW => ⟨rfl, hEN.warm hW, by rw [hU], by rw [hU]; exact hPc, va_K.moved hW.alike hK, hDc.weaken (fun _ _ _ _ => trivial)⟩⟩ rfl rfl hl.1 rfl (lv_room (Nat.le_of_ble_eq_true rfl)) dX3_playMarbles_61 ⟨(Nat.le_of_ble_eq_true rfl), (Nat.le_of_ble_eq_true rfl)⟩) hS (fun q _ h => hFc q h) hFc (fun r61 u t9 H1 locs hth hvm hw61 hB hz1 hk1 hS => ?_)
                obtain ⟨fm61, vl61⟩ := u
                try dsimp only at hw61
                obtain ⟨hP1, hK1, hD1⟩ := hB
                rw [hth] at hP1
                obtain ⟨hP, hD⟩ := va_join (wr := []) (w1 := [(h0, .inr (1, [.ref vt])), (vt, .inr (2, [.ref vf, .ref vv])), (vf, .inl (cJ, 1024, .inr (.inl fm61))), (vv, .inl (cI, 1024, .inl vl61))]) hP hD [0, 1, 2, 3] [] rfl rfl (by decide) (by decide) hk1 hFc hP1 hD1
                generalize H1 = H at hP hS ⊢
                have hP : va_P D vwCl [(h0, .inr (1, [.ref vt])), (vt, .inr (2, [.ref vf, .ref vv])), (vf, .inl (cJ, 1024, .inr (.inl fm61))), (vv, .inl (cI, 1024, .inl vl61))] H := hP.sub (ws' := [(h0, .inr (1, [.ref vt])), (vt, .inr (2, [.ref vf, .ref vv])), (vf, .inl (cJ, 1024, .inr (.inl fm61))), (vv, .inl (cI, 1024, .inl vl61))]) [0, 1, 2, 3] rfl
                have hD : va_D A [(h0, .inr (1, [.ref vt])), (vt, .inr (2, [.ref vf, .ref vv])), (vf, .inl (cJ, 1024, .inr (.inl fm61))), (vv, .inl (cI, 1024, .inl vl61))] := hD.sub (ws' := [(h0, .inr (1, [.ref vt])), (vt, .inr (2, [.ref vf, .ref vv])), (vf, .inl (cJ, 1024, .inr (.inl fm61))), (vv, .inl (cI, 1024, .inl vl61))]) [0, 1, 2, 3] (by decide) rfl
                obtain ⟨hv9, hT61⟩ := hw61
                obtain rfl := hv9.symm
                refine lv_istore (lv' := [(10, .int (vturn (vput 0) x55 b 8)), (8, .long (jshl 1 (nI i6))), (7, .int (nI i6)), (6, .int (vplay (vput 0) a b i6)), (0, .ref h0), (1, .long a), (3, .long b), (5, .int 1)]) hx hb dX3_playMarbles_64 hl (by decide) rfl (fun ls hl => ?_)
                refine lv_iload hx hb dX3_playMarbles_66 (lv_at hl 3 rfl) ?_
                refine lv_iload hx hb dX3_playMarbles_68 (lv_at hl 0 rfl) ?_
                refine va_mmax hx hb (by rw [hml]; exact hl.1.symm) hown hmx0 hmx1 hmx2 hmx3 (by decide) (Nat.le_of_ble_eq_true rfl) (Nat.le_of_ble_eq_true rfl) (Nat.le_of_ble_eq_true rfl) dX3_playMarbles_70 ?_
                refine lv_topi (fun x70 ex70 => ?_)
                refine lv_istore (lv' := [(6, .int x70), (10, .int (vturn (vput 0) x55 b 8)), (8, .long (jshl 1 (nI i6))), (7, .int (nI i6)), (0, .ref h0), (1, .long a), (3, .long b), (5, .int 1)]) hx hb dX3_playMarbles_73 hl (by decide) rfl (fun ls hl => ?_)
                refine lv_iinc (v := nI (i6 + 1)) (lv' := [(7, .int (nI (i6 + 1))), (6, .int x70), (10, .int (vturn (vput 0) x55 b 8)), (8, .long (jshl 1 (nI i6))), (0, .ref h0), (1, .long a), (3, .long b), (5, .int 1)]) hx hb dX3_playMarbles_75 hl (k := 3) rfl (nI_add i6 1) (by decide) rfl (fun ls hl => ?_)
                refine lv_goto (tgt := 6) hx hb dX3_playMarbles_78 (by decide) ?_
                exact ih6 (i6 + 1) (by omega) _ _ hT61 _ _ hP hD hS ls (by { have e9 : (x70 : Int32) = (vplay (vput 0) a b (i6 + 1)) := by { obtain rfl := ex28.symm; obtain rfl := ex31.symm; obtain rfl := ex40.symm; obtain rfl := ex55.symm; obtain rfl := ex70.symm; exact vplay_c c16 c34 (vcell_t b41) }; rw [← e9]; exact lv_sub hl [0, 1, 4, 5, 6, 7] rfl })
              · exact absurd c44 (by decide)
  exact loop6 36 0 (by omega) _ _ hT _ _ hP hD hS ls (lv_sub hl [0, 1, 2, 3, 4, 5] rfl)

set_option maxHeartbeats 400000 in
set_option maxRecDepth 100000 in
theorem c_X3_lowestBestMove_f1 (l : Launch) (D : va_G) (cI cJ : ClassId) (sz : Nat) (h0 vt vf vv : Nat) (fm : Nat → Int64) (vl : Nat → Int32) (hT : TI fm vl) (a b : Int64)  (hB : BV 1 a b) : Met l yX3_lowestBestMove wsX3_lowestBestMove ({ frames := 3, cells := 0, slots := 0, locals := 85 } : Room) (va_Pc [.ref h0, .long a, .long b, .int 1] (px_E (pv_C D cI cJ [(h0, .inr (1, [.ref vt])), (vt, .inr (2, [.ref vf, .ref vv])), (vf, .inl (cJ, 1024, .inr (.inl fm))), (vv, .inl (cI, 1024, .inl vl))] sz))) (va_Qi (fun (r : Int32) (u : (Nat → Int64) × (Nat → Int32)) => r = nI (mlow (vput 0) a b 288).2 ∧ TI u.1 u.2) (fun (u : (Nat → Int64) × (Nat → Int32)) => pv_B D cI cJ (va_A [(h0, .inr (1, [.ref vt])), (vt, .inr (2, [.ref vf, .ref vv])), (vf, .inl (cJ, 1024, .inr (.inl fm))), (vv, .inl (cI, 1024, .inl vl))] sz) [(h0, .inr (1, [.ref vt])), (vt, .inr (2, [.ref vf, .ref vv])), (vf, .inl (cJ, 1024, .inr (.inl u.1))), (vv, .inl (cI, 1024, .inl u.2))]) (va_A [(h0, .inr (1, [.ref vt])), (vt, .inr (2, [.ref vf, .ref vv])), (vf, .inl (cJ, 1024, .inr (.inl fm))), (vv, .inl (cI, 1024, .inl vl))] sz)) 0 0 (va_A [(h0, .inr (1, [.ref vt])), (vt, .inr (2, [.ref vf, .ref vv])), (vf, .inl (cJ, 1024, .inr (.inl fm))), (vv, .inl (cI, 1024, .inl vl))] sz) := by
  refine Met.ofW (cc := cX3_lowestBestMove) (maxL := 12) (ret := (some .int)) (by decide) rfl ?_
  intro p e s m args below meth c s₁ B hml hv
  obtain ⟨rfl, hEN, rfl, hP, hK, hD0⟩ := hv
  have hx := B.exec
  have hb := B.bytes
  have hr := B.returns
  have hts := atoms_spec (ws := wsX3_lowestBestMove) B.pre
  have hown : s.vm.findClass RX3 = some m.cls := findClass_of_methodNamed B.named
  have hlocks := B.notSynchronized
  have hD := hD0.self (sz := s.heap.size)
  generalize hAe : va_A [(h0, .inr (1, [.ref vt])), (vt, .inr (2, [.ref vf, .ref vv])), (vf, .inl (cJ, 1024, .inr (.inl fm))), (vv, .inl (cI, 1024, .inl vl))] s.heap.size = A at hD ⊢
  have hA : ∀ q : Nat, s.heap.size ≤ q → A q := fun q h => by rw [← hAe]; exact Or.inr h
  have hS : va_S A s.heap s.heap [] := va_S.rf
  have hnest54 : va_Nw (.methodLinkNest RX3 54 yX6_bitOf RX6) s := hEN.1
  have hiniX6 : (Cond.initialized (yX6_bitOf).cls).before ([.ref h0, .long a, .long b, .int 1] : List Value).toArray s = true := hts (.initialized RX6) (by decide +kernel)
  have hl := lv_entry ([.ref h0, .long a, .long b, .int 1]) (n := 12) (Nat.le_of_ble_eq_true rfl)
  rw [lg_entry_eq]
  generalize (lg_sl ([.ref h0, .long a, .long b, .int 1]) ++ List.replicate (12 - (lg_sl ([.ref h0, .long a, .long b, .int 1])).length) Slot.unset).toArray = ls at hl ⊢
  have hl : lv_has ls 12 [(0, .ref h0), (1, .long a), (3, .long b), (5, .int 1)] := hl
  refine lv_bipush (v := (-2)) hx hb dX3_lowestBestMove_0 (by decide) ?_
  refine lv_istore (lv' := [(6, .int (-2)), (0, .ref h0), (1, .long a), (3, .long b), (5, .int 1)]) hx hb dX3_lowestBestMove_2 hl (by decide) rfl (fun ls hl => ?_)
  refine lv_iconst (v := 0) hx hb dX3_lowestBestMove_4 (by decide) ?_
  refine lv_istore (lv' := [(7, .int 0), (6, .int (-2)), (0, .ref h0), (1, .long a), (3, .long b), (5, .int 1)]) hx hb dX3_lowestBestMove_5 hl (by decide) rfl (fun ls hl => ?_)
  refine lv_iconst (v := 0) hx hb dX3_lowestBestMove_7 (by decide) ?_
  refine lv_istore (lv' := [(8, .int 0), (7, .int 0), (6, .int (-2)), (0, .ref h0), (1, .long a), (3, .long b), (5, .int 1)]) hx hb dX3_lowestBestMove_8 hl (by decide) rfl (fun ls hl => ?_)
  have loop10 : ∀ (nn i10 : Nat), i10 + nn = 288 → ∀ (fm10 : Nat → Int64) (vl10 : Nat → Int32) (hT10 : TI fm10 vl10) (H : Heap) (locs : List Loc), va_P D vwCl [(h0, .inr (1, [.ref vt])), (vt, .inr (2, [.ref vf, .ref vv])), (vf, .inl (cJ, 1024, .inr (.inl fm10))), (vv, .inl (cI, 1024, .inl vl10))] H → va_D A [(h0, .inr (1, [.ref vt])), (vt, .inr (2, [.ref vf, .ref vv])), (vf, .inl (cJ, 1024, .inr (.inl fm10))), (vv, .inl (cI, 1024, .inl vl10))] → va_S A s.heap H locs → ∀ ls, lv_has ls 12 [(8, .int (nI i10)), (6, .int (mlow (vput 0) a b i10).1), (7, .int (nI (mlow (vput 0) a b i10).2)), (0, .ref h0), (1, .long a), (3, .long b), (5, .int 1)] → W p l e (headSpec wsX3_lowestBestMove ({ frames := 3, cells := 0, slots := 0, locals := 85 } : Room)).room s m ([.ref h0, .long a, .long b, .int 1] : List Value).toArray below meth c H locs 0 0 (MQ below (va_Qi (fun (r : Int32) (u : (Nat → Int64) × (Nat → Int32)) => r = nI (mlow (vput 0) a b 288).2 ∧ TI u.1 u.2) (fun (u : (Nat → Int64) × (Nat → Int32)) => pv_B D cI cJ (A) [(h0, .inr (1, [.ref vt])), (vt, .inr (2, [.ref vf, .ref vv])), (vf, .inl (cJ, 1024, .inr (.inl u.1))), (vv, .inl (cI, 1024, .inl u.2))]) (A)) ([.ref h0, .long a, .long b, .int 1] : List Value).toArray s 0 0 A) (F0 m 10 ls []) := by
    intro nn
    induction nn with
    | zero =>
      intro i10 hi10 fm10 vl10 hT10 H locs hP hD hS ls hl
      obtain rfl : i10 = 288 := by omega
      refine lv_iload hx hb dX3_lowestBestMove_10 (lv_at hl 0 rfl) ?_
      refine lv_sipush (v := 288) hx hb dX3_lowestBestMove_12 (by decide) ?_
      refine lv_icmp_ge (tgt := 100) hx hb dX3_lowestBestMove_15 (by decide) (fun c15 => ?_) (fun c15 => ?_)
      · have c15 : 288 ≤ 288 := (nq_le (a := 288) (b := 288) (by omega) (by omega)).mp c15
        refine lv_iload hx hb dX3_lowestBestMove_100 (lv_at hl 2 rfl) ?_
        refine W.iret (v := (nI (mlow (vput 0) a b 288).2)) hx hb hr (fun tt ht hW => ⟨⟨(nI (mlow (vput 0) a b 288).2), (fm10, vl10), rfl, ?_, by rw [ht]; exact hP, va_K.moved hW.alike hK, hD⟩, hS.F ht⟩) hS.2.2 dX3_lowestBestMove_102
        exact ⟨by { exact rfl }, hT10⟩
      · have c15 : ¬ 288 ≤ 288 := _root_.mt (nq_le (a := 288) (b := 288) (by omega) (by omega)).mpr c15
        omega
    | succ nn ih10 =>
      intro i10 hi10 fm10 vl10 hT10 H locs hP hD hS ls hl
      refine lv_iload hx hb dX3_lowestBestMove_10 (lv_at hl 0 rfl) ?_
      refine lv_sipush (v := 288) hx hb dX3_lowestBestMove_12 (by decide) ?_
      refine lv_icmp_ge (tgt := 100) hx hb dX3_lowestBestMove_15 (by decide) (fun c15 => ?_) (fun c15 => ?_)
      · have c15 : 288 ≤ i10 := (nq_le (a := 288) (b := i10) (by omega) (by omega)).mp c15
        omega
      · have c15 : ¬ 288 ≤ i10 := _root_.mt (nq_le (a := 288) (b := i10) (by omega) (by omega)).mpr c15
        refine lv_iload hx hb dX3_lowestBestMove_18 (lv_at hl 1 rfl) ?_
        refine lv_iconst (v := 1) hx hb dX3_lowestBestMove_20 (by decide) ?_
        refine lv_icmp_ge (tgt := 100) hx hb dX3_lowestBestMove_21 (by decide) (fun c21 => ?_) (fun c21 => ?_)
        · refine lv_iload hx hb dX3_lowestBestMove_100 (lv_at hl 2 rfl) ?_
          refine W.iret (v := (nI (mlow (vput 0) a b i10).2)) hx hb hr (fun tt ht hW => ⟨⟨(nI (mlow (vput 0) a b i10).2), (fm10, vl10), rfl, ?_, by rw [ht]; exact hP, va_K.moved hW.alike hK, hD⟩, hS.F ht⟩) hS.2.2 dX3_lowestBestMove_102
          exact ⟨by { rw [stopM c21 (by omega)] }, hT10⟩
        · refine lv_iload hx hb dX3_lowestBestMove_24 (lv_at hl 0 rfl) ?_
          refine lv_bipush (v := 8) hx hb dX3_lowestBestMove_26 (by decide) ?_
          refine lv_idiv hx hb dX3_lowestBestMove_28 (by decide) ?_
          refine pk_ti (y := nI (i10 / 8)) (pk_div (a := i10) (d := 8) (by omega) (by omega) (by omega)) ?_
          refine vp_callSl (va_Run.run (va_runSN (As := [.int (nI (i10 / 8))]) (rest := []) ⟨hx, hb, hml, hown, hts⟩ (c_X6_bitOf l (nI (i10 / 8))) ⟨va_cnB 1 hts gX3_lowestBestMove_X6_bitOf_n54 rfl rfl rfl hnest54 hiniX6 (by decide +kernel) ⟨Nat.le_of_ble_eq_true rfl, Nat.le_of_ble_eq_true rfl⟩, hts _ (by decide +kernel), trivial⟩ ⟨px_blind0, fun U hU hW => ⟨rfl, trivial⟩⟩ rfl rfl hl.1 rfl (lv_room (Nat.le_of_ble_eq_true rfl)) dX3_lowestBestMove_29 ⟨(Nat.le_of_ble_eq_true rfl), (Nat.le_of_ble_eq_true rfl)⟩)) (fun r29 er29 => ?_)
          obtain rfl := er29.symm
          refine lv_lstore (lv' := [(9, .long (jshl 1 (nI (i10 / 8)))), (8, .int (nI i10)), (6, .int (mlow (vput 0) a b i10).1), (7, .int (nI (mlow (vput 0) a b i10).2)), (0, .ref h0), (1, .long a), (3, .long b), (5, .int 1)]) hx hb dX3_lowestBestMove_32 hl (by decide) rfl (fun ls hl => ?_)
          refine lv_lload_n hx hb dX3_lowestBestMove_34 rfl (lv_at hl 5 rfl) ?_
          refine lv_lload_n hx hb dX3_lowestBestMove_35 rfl (lv_at hl 6 rfl) ?_
          refine lv_lor hx hb dX3_lowestBestMove_36 ?_
          refine lv_topl (fun x36 ex36 => ?_)
          refine lv_lload hx hb dX3_lowestBestMove_37 (lv_at hl 0 rfl) ?_
          refine lv_land hx hb dX3_lowestBestMove_39 ?_
          refine lv_topl (fun x39 ex39 => ?_)
          refine lv_lconst (v := 0) hx hb dX3_lowestBestMove_40 (by decide) ?_
          refine W.lcmp hx hb dX3_lowestBestMove_41 ?_
          refine lv_if_ne (tgt := 94) hx hb dX3_lowestBestMove_42 (by decide) (fun c42 => ?_) (fun c42 => ?_)
          · rw [lg_cmp_eq] at c42
            refine lv_iinc (v := nI (i10 + 1)) (lv' := [(8, .int (nI (i10 + 1))), (9, .long (jshl 1 (nI (i10 / 8)))), (6, .int (mlow (vput 0) a b i10).1), (7, .int (nI (mlow (vput 0) a b i10).2)), (0, .ref h0), (1, .long a), (3, .long b), (5, .int 1)]) hx hb dX3_lowestBestMove_94 hl (k := 1) rfl (nI_add i10 1) (by decide) rfl (fun ls hl => ?_)
            refine lv_goto (tgt := 10) hx hb dX3_lowestBestMove_97 (by decide) ?_
            exact ih10 (i10 + 1) (by omega) _ _ hT10 _ _ hP hD hS ls (by { have e9 : ((mlow (vput 0) a b i10).1 : Int32) = (mlow (vput 0) a b (i10 + 1)).1 := by { obtain rfl := ex36.symm; obtain rfl := ex39.symm; exact (congrArg Prod.fst (mlow_n c21 c42)).symm }; rw [← e9]; have e9 : ((nI (mlow (vput 0) a b i10).2) : Int32) = (nI (mlow (vput 0) a b (i10 + 1)).2) := by { obtain rfl := ex36.symm; obtain rfl := ex39.symm; exact (congrArg (fun q => nI q.2) (mlow_n c21 c42)).symm }; rw [← e9]; exact lv_sub hl [0, 2, 3, 4, 5, 6, 7] rfl })
          · rw [lg_cmp_eq] at c42
            refine lv_lload_n hx hb dX3_lowestBestMove_45 rfl (lv_at hl 5 rfl) ?_
            refine lv_lload hx hb dX3_lowestBestMove_46 (lv_at hl 0 rfl) ?_
            refine lv_lor hx hb dX3_lowestBestMove_48 ?_
            refine lv_topl (fun x48 ex48 => ?_)
            refine vp_callSi (W.runS (As := [.long x48]) (rest := []) ⟨hx, hb, hml, hown, hts⟩ (c_X1_hasLine l x48) (va_cwS 1 hts gX3_lowestBestMove_X1_hasLine rfl rfl rfl (by decide +kernel) ⟨Nat.le_of_ble_eq_true rfl, Nat.le_of_ble_eq_true rfl⟩) ⟨px_blind0, fun U hU hW => ⟨rfl, trivial⟩⟩ rfl rfl hl.1 rfl (lv_room (Nat.le_of_ble_eq_true rfl)) dX3_lowestBestMove_49 ⟨(Nat.le_of_ble_eq_true rfl), (Nat.le_of_ble_eq_true rfl)⟩) (fun r49 er49 => ?_)
            obtain rfl := er49.symm
            refine pk_b (P := cline x48 = true) (fun b49 => ?_) (fun b49 => ?_)
            · refine lv_if_eq (tgt := 59) hx hb dX3_lowestBestMove_52 (by decide) (fun c52 => ?_) (fun c52 => ?_)
              · exact absurd c52 (by decide)
              · refine lv_iconst (v := 1) hx hb dX3_lowestBestMove_55 (by decide) ?_
                refine lv_goto (tgt := 77) hx hb dX3_lowestBestMove_56 (by decide) ?_
                refine lv_istore (lv' := [(11, .int 1), (9, .long (jshl 1 (nI (i10 / 8)))), (8, .int (nI i10)), (6, .int (mlow (vput 0) a b i10).1), (7, .int (nI (mlow (vput 0) a b i10).2)), (0, .ref h0), (1, .long a), (3, .long b), (5, .int 1)]) hx hb dX3_lowestBestMove_77 hl (by decide) rfl (fun ls hl => ?_)
                refine lv_iload hx hb dX3_lowestBestMove_79 (lv_at hl 0 rfl) ?_
                refine lv_iload hx hb dX3_lowestBestMove_81 (lv_at hl 3 rfl) ?_
                refine lv_icmp_le (tgt := 94) hx hb dX3_lowestBestMove_83 (by decide) (fun c83 => ?_) (fun c83 => ?_)
                · refine lv_iinc (v := nI (i10 + 1)) (lv' := [(8, .int (nI (i10 + 1))), (11, .int 1), (9, .long (jshl 1 (nI (i10 / 8)))), (6, .int (mlow (vput 0) a b i10).1), (7, .int (nI (mlow (vput 0) a b i10).2)), (0, .ref h0), (1, .long a), (3, .long b), (5, .int 1)]) hx hb dX3_lowestBestMove_94 hl (k := 2) rfl (nI_add i10 1) (by decide) rfl (fun ls hl => ?_)
                  refine lv_goto (tgt := 10) hx hb dX3_lowestBestMove_97 (by decide) ?_
                  exact ih10 (i10 + 1) (by omega) _ _ hT10 _ _ hP hD hS ls (by { have e9 : ((mlow (vput 0) a b i10).1 : Int32) = (mlow (vput 0) a b (i10 + 1)).1 := by { obtain rfl := ex36.symm; obtain rfl := ex39.symm; obtain rfl := ex48.symm; exact (congrArg Prod.fst (mlow_b c21 c42 (mval_1 b49) c83)).symm }; rw [← e9]; have e9 : ((nI (mlow (vput 0) a b i10).2) : Int32) = (nI (mlow (vput 0) a b (i10 + 1)).2) := by { obtain rfl := ex36.symm; obtain rfl := ex39.symm; obtain rfl := ex48.symm; exact (congrArg (fun q => nI q.2) (mlow_b c21 c42 (mval_1 b49) c83)).symm }; rw [← e9]; exact lv_sub hl [0, 3, 4, 5, 6, 7, 8] rfl })
                · refine lv_iload hx hb dX3_lowestBestMove_86 (lv_at hl 0 rfl) ?_
                  refine lv_istore (lv' := [(6, .int 1), (11, .int 1), (9, .long (jshl 1 (nI (i10 / 8)))), (8, .int (nI i10)), (7, .int (nI (mlow (vput 0) a b i10).2)), (0, .ref h0), (1, .long a), (3, .long b), (5, .int 1)]) hx hb dX3_lowestBestMove_88 hl (by decide) rfl (fun ls hl => ?_)
                  refine lv_iload hx hb dX3_lowestBestMove_90 (lv_at hl 3 rfl) ?_
                  refine lv_istore (lv' := [(7, .int (nI i10)), (6, .int 1), (11, .int 1), (9, .long (jshl 1 (nI (i10 / 8)))), (8, .int (nI i10)), (0, .ref h0), (1, .long a), (3, .long b), (5, .int 1)]) hx hb dX3_lowestBestMove_92 hl (by decide) rfl (fun ls hl => ?_)
                  refine lv_iinc (v := nI (i10 + 1)) (lv' := [(8, .int (nI (i10 + 1))), (7, .int (nI i10)), (6, .int 1), (11, .int 1), (9, .long (jshl 1 (nI (i10 / 8)))), (0, .ref h0), (1, .long a), (3, .long b), (5, .int 1)]) hx hb dX3_lowestBestMove_94 hl (k := 4) rfl (nI_add i10 1) (by decide) rfl (fun ls hl => ?_)
                  refine lv_goto (tgt := 10) hx hb dX3_lowestBestMove_97 (by decide) ?_
                  exact ih10 (i10 + 1) (by omega) _ _ hT10 _ _ hP hD hS ls (by { have e9 : (1 : Int32) = (mlow (vput 0) a b (i10 + 1)).1 := by { obtain rfl := ex36.symm; obtain rfl := ex39.symm; obtain rfl := ex48.symm; exact (congrArg Prod.fst (mlow_a c21 c42 (mval_1 b49) c83)).symm }; rw [← e9]; have e9 : ((nI i10) : Int32) = (nI (mlow (vput 0) a b (i10 + 1)).2) := by { obtain rfl := ex36.symm; obtain rfl := ex39.symm; obtain rfl := ex48.symm; exact (congrArg (fun q => nI q.2) (mlow_a c21 c42 (mval_1 b49) c83)).symm }; rw [← e9]; exact lv_sub hl [0, 2, 1, 5, 6, 7, 8] rfl })
            · refine lv_if_eq (tgt := 59) hx hb dX3_lowestBestMove_52 (by decide) (fun c52 => ?_) (fun c52 => ?_)
              · refine lv_aload_n hx hb dX3_lowestBestMove_59 rfl (lv_at hl 4 rfl) ?_
                refine lv_lload_n hx hb dX3_lowestBestMove_60 rfl (lv_at hl 5 rfl) ?_
                refine lv_lload hx hb dX3_lowestBestMove_61 (lv_at hl 0 rfl) ?_
                refine lv_lor hx hb dX3_lowestBestMove_63 ?_
                refine lv_topl (fun x63 ex63 => ?_)
                refine lv_lload_n hx hb dX3_lowestBestMove_64 rfl (lv_at hl 6 rfl) ?_
                refine lv_iload hx hb dX3_lowestBestMove_65 (lv_at hl 1 rfl) ?_
                refine lv_bipush (v := 8) hx hb dX3_lowestBestMove_67 (by decide) ?_
                refine lv_irem hx hb dX3_lowestBestMove_69 (by decide) ?_
                refine pk_ti (y := nI (i10 % 8)) (pk_rem (a := i10) (d := 8) (by omega) (by omega) (by omega)) ?_
                refine lv_iload hx hb dX3_lowestBestMove_70 (lv_at hl 7 rfl) ?_
                refine lv_iconst (v := 1) hx hb dX3_lowestBestMove_72 (by decide) ?_
                refine lv_isub hx hb dX3_lowestBestMove_73 ?_
                refine pk_ti (y := nI 0) (by decide) ?_
                have hPc := hP.sub (ws' := [(h0, .inr (1, [.ref vt])), (vt, .inr (2, [.ref vf, .ref vv])), (vf, .inl (cJ, 1024, .inr (.inl fm10))), (vv, .inl (cI, 1024, .inl vl10))]) [0, 1, 2, 3] rfl
                have hDc := hD.sub (ws' := [(h0, .inr (1, [.ref vt])), (vt, .inr (2, [.ref vf, .ref vv])), (vf, .inl (cJ, 1024, .inr (.inl fm10))), (vv, .inl (cI, 1024, .inl vl10))]) [0, 1, 2, 3] (by decide) rfl
                have hFc := va_free (wc := [(h0, .inr (1, [.ref vt])), (vt, .inr (2, [.ref vf, .ref vv])), (vf, .inl (cJ, 1024, .inr (.inl fm10))), (vv, .inl (cI, 1024, .inl vl10))]) hD hS hA [0, 1, 2, 3] rfl
                refine va_calli (va_runV (As := [.long x63, .long b, .int (nI (i10 % 8)), .int (nI 0)]) (rest := []) ⟨hx, hb, hml, hown, hts⟩ (c_X3_valueBehindTurn_f0 l D cI cJ H.size  h0 vt vf vv fm10 vl10 hT10 x63 b (i10 % 8) (by omega) (by obtain rfl := ex36.symm; obtain rfl := ex39.symm; obtain rfl := ex48.symm; obtain rfl := ex63.symm; exact bv_put hB (by omega) c42)) (cwV 4 hts gX3_lowestBestMove_X3_valueBehindTurn rfl rfl rfl (by decide +kernel) ⟨Nat.le_of_ble_eq_true rfl, Nat.le_of_ble_eq_true rfl⟩) ⟨(px_blindE pv_blind), va_recv hK hPc (ci := 1) (q0 := 0) rfl rfl, fun U hU hW => ⟨rfl, hEN.warm hW, by rw [hU], by rw [hU]; exact hPc, va_K.moved hW.alike hK, hDc.weaken (fun _ _ _ _ => trivial)⟩⟩ rfl rfl hl.1 rfl (lv_room (Nat.le_of_ble_eq_true rfl)) dX3_lowestBestMove_74 ⟨(Nat.le_of_ble_eq_true rfl), (Nat.le_of_ble_eq_true rfl)⟩) hS (fun q _ h => hFc q h) hFc (fun r74 u t9 H1 locs hth hvm hw74 hB hz1 hk1 hS => ?_)
                obtain ⟨fm74, vl74⟩ := u
                try dsimp only at hw74
                obtain ⟨hP1, hK1, hD1⟩ := hB
                rw [hth] at hP1
                obtain ⟨hP, hD⟩ := va_join (wr := []) (w1 := [(h0, .inr (1, [.ref vt])), (vt, .inr (2, [.ref vf, .ref vv])), (vf, .inl (cJ, 1024, .inr (.inl fm74))), (vv, .inl (cI, 1024, .inl vl74))]) hP hD [0, 1, 2, 3] [] rfl rfl (by decide) (by decide) hk1 hFc hP1 hD1
                generalize H1 = H at hP hS ⊢
                have hP : va_P D vwCl [(h0, .inr (1, [.ref vt])), (vt, .inr (2, [.ref vf, .ref vv])), (vf, .inl (cJ, 1024, .inr (.inl fm74))), (vv, .inl (cI, 1024, .inl vl74))] H := hP.sub (ws' := [(h0, .inr (1, [.ref vt])), (vt, .inr (2, [.ref vf, .ref vv])), (vf, .inl (cJ, 1024, .inr (.inl fm74))), (vv, .inl (cI, 1024, .inl vl74))]) [0, 1, 2, 3] rfl
                have hD : va_D A [(h0, .inr (1, [.ref vt])), (vt, .inr (2, [.ref vf, .ref vv])), (vf, .inl (cJ, 1024, .inr (.inl fm74))), (vv, .inl (cI, 1024, .inl vl74))] := hD.sub (ws' := [(h0, .inr (1, [.ref vt])), (vt, .inr (2, [.ref vf, .ref vv])), (vf, .inl (cJ, 1024, .inr (.inl fm74))), (vv, .inl (cI, 1024, .inl vl74))]) [0, 1, 2, 3] (by decide) rfl
                obtain ⟨hv9, hT74⟩ := hw74
                obtain rfl := hv9.symm
                refine lv_istore (lv' := [(11, .int (vbehind (vput 0) x63 b (i10 % 8))), (9, .long (jshl 1 (nI (i10 / 8)))), (8, .int (nI i10)), (6, .int (mlow (vput 0) a b i10).1), (7, .int (nI (mlow (vput 0) a b i10).2)), (0, .ref h0), (1, .long a), (3, .long b), (5, .int 1)]) hx hb dX3_lowestBestMove_77 hl (by decide) rfl (fun ls hl => ?_)
                refine lv_iload hx hb dX3_lowestBestMove_79 (lv_at hl 0 rfl) ?_
                refine lv_iload hx hb dX3_lowestBestMove_81 (lv_at hl 3 rfl) ?_
                refine lv_icmp_le (tgt := 94) hx hb dX3_lowestBestMove_83 (by decide) (fun c83 => ?_) (fun c83 => ?_)
                · refine lv_iinc (v := nI (i10 + 1)) (lv' := [(8, .int (nI (i10 + 1))), (11, .int (vbehind (vput 0) x63 b (i10 % 8))), (9, .long (jshl 1 (nI (i10 / 8)))), (6, .int (mlow (vput 0) a b i10).1), (7, .int (nI (mlow (vput 0) a b i10).2)), (0, .ref h0), (1, .long a), (3, .long b), (5, .int 1)]) hx hb dX3_lowestBestMove_94 hl (k := 2) rfl (nI_add i10 1) (by decide) rfl (fun ls hl => ?_)
                  refine lv_goto (tgt := 10) hx hb dX3_lowestBestMove_97 (by decide) ?_
                  exact ih10 (i10 + 1) (by omega) _ _ hT74 _ _ hP hD hS ls (by { have e9 : ((mlow (vput 0) a b i10).1 : Int32) = (mlow (vput 0) a b (i10 + 1)).1 := by { obtain rfl := ex36.symm; obtain rfl := ex39.symm; obtain rfl := ex48.symm; obtain rfl := ex63.symm; exact (congrArg Prod.fst (mlow_b c21 c42 (mval_t b49) c83)).symm }; rw [← e9]; have e9 : ((nI (mlow (vput 0) a b i10).2) : Int32) = (nI (mlow (vput 0) a b (i10 + 1)).2) := by { obtain rfl := ex36.symm; obtain rfl := ex39.symm; obtain rfl := ex48.symm; obtain rfl := ex63.symm; exact (congrArg (fun q => nI q.2) (mlow_b c21 c42 (mval_t b49) c83)).symm }; rw [← e9]; exact lv_sub hl [0, 3, 4, 5, 6, 7, 8] rfl })
                · refine lv_iload hx hb dX3_lowestBestMove_86 (lv_at hl 0 rfl) ?_
                  refine lv_istore (lv' := [(6, .int (vbehind (vput 0) x63 b (i10 % 8))), (11, .int (vbehind (vput 0) x63 b (i10 % 8))), (9, .long (jshl 1 (nI (i10 / 8)))), (8, .int (nI i10)), (7, .int (nI (mlow (vput 0) a b i10).2)), (0, .ref h0), (1, .long a), (3, .long b), (5, .int 1)]) hx hb dX3_lowestBestMove_88 hl (by decide) rfl (fun ls hl => ?_)
                  refine lv_iload hx hb dX3_lowestBestMove_90 (lv_at hl 3 rfl) ?_
                  refine lv_istore (lv' := [(7, .int (nI i10)), (6, .int (vbehind (vput 0) x63 b (i10 % 8))), (11, .int (vbehind (vput 0) x63 b (i10 % 8))), (9, .long (jshl 1 (nI (i10 / 8)))), (8, .int (nI i10)), (0, .ref h0), (1, .long a), (3, .long b), (5, .int 1)]) hx hb dX3_lowestBestMove_92 hl (by decide) rfl (fun ls hl => ?_)
                  refine lv_iinc (v := nI (i10 + 1)) (lv' := [(8, .int (nI (i10 + 1))), (7, .int (nI i10)), (6, .int (vbehind (vput 0) x63 b (i10 % 8))), (11, .int (vbehind (vput 0) x63 b (i10 % 8))), (9, .long (jshl 1 (nI (i10 / 8)))), (0, .ref h0), (1, .long a), (3, .long b), (5, .int 1)]) hx hb dX3_lowestBestMove_94 hl (k := 4) rfl (nI_add i10 1) (by decide) rfl (fun ls hl => ?_)
                  refine lv_goto (tgt := 10) hx hb dX3_lowestBestMove_97 (by decide) ?_
                  exact ih10 (i10 + 1) (by omega) _ _ hT74 _ _ hP hD hS ls (by { have e9 : ((vbehind (vput 0) x63 b (i10 % 8)) : Int32) = (mlow (vput 0) a b (i10 + 1)).1 := by { obtain rfl := ex36.symm; obtain rfl := ex39.symm; obtain rfl := ex48.symm; obtain rfl := ex63.symm; exact (congrArg Prod.fst (mlow_a c21 c42 (mval_t b49) c83)).symm }; rw [← e9]; have e9 : ((nI i10) : Int32) = (nI (mlow (vput 0) a b (i10 + 1)).2) := by { obtain rfl := ex36.symm; obtain rfl := ex39.symm; obtain rfl := ex48.symm; obtain rfl := ex63.symm; exact (congrArg (fun q => nI q.2) (mlow_a c21 c42 (mval_t b49) c83)).symm }; rw [← e9]; exact lv_sub hl [0, 2, 1, 5, 6, 7, 8] rfl })
              · exact absurd c52 (by decide)
  exact loop10 288 0 (by omega) _ _ hT _ _ hP hD hS ls (lv_sub hl [0, 2, 1, 3, 4, 5, 6] rfl)

set_option maxHeartbeats 400000 in
set_option maxRecDepth 100000 in
theorem c_X3_valueToPut_f1 (l : Launch) (D : va_G) (cI cJ : ClassId) (sz : Nat) (h0 vt vf vv : Nat) (fm : Nat → Int64) (vl : Nat → Int32) (hT : TI fm vl) (a b : Int64)  (hB : BV 1 a b) : Met l yX3_valueToPut wsX3_valueToPut ({ frames := 5, cells := 0, slots := 0, locals := 142 } : Room) (va_Pc [.ref h0, .long a, .long b, .int 1] (px_E (pv_C D cI cJ [(h0, .inr (1, [.ref vt])), (vt, .inr (2, [.ref vf, .ref vv])), (vf, .inl (cJ, 1024, .inr (.inl fm))), (vv, .inl (cI, 1024, .inl vl))] sz))) (va_Qi (fun (r : Int32) (u : (Nat → Int64) × (Nat → Int32)) => r = vput 1 a b ∧ TI u.1 u.2) (fun (u : (Nat → Int64) × (Nat → Int32)) => pv_B D cI cJ (va_A [(h0, .inr (1, [.ref vt])), (vt, .inr (2, [.ref vf, .ref vv])), (vf, .inl (cJ, 1024, .inr (.inl fm))), (vv, .inl (cI, 1024, .inl vl))] sz) [(h0, .inr (1, [.ref vt])), (vt, .inr (2, [.ref vf, .ref vv])), (vf, .inl (cJ, 1024, .inr (.inl u.1))), (vv, .inl (cI, 1024, .inl u.2))]) (va_A [(h0, .inr (1, [.ref vt])), (vt, .inr (2, [.ref vf, .ref vv])), (vf, .inl (cJ, 1024, .inr (.inl fm))), (vv, .inl (cI, 1024, .inl vl))] sz)) 0 0 (va_A [(h0, .inr (1, [.ref vt])), (vt, .inr (2, [.ref vf, .ref vv])), (vf, .inl (cJ, 1024, .inr (.inl fm))), (vv, .inl (cI, 1024, .inl vl))] sz) := by
  refine Met.ofW (cc := cX3_valueToPut) (maxL := 9) (ret := (some .int)) (by decide) rfl ?_
  intro p e s m args below meth c s₁ B hml hv
  obtain ⟨rfl, hEN, rfl, hP, hK, hD0⟩ := hv
  have hx := B.exec
  have hb := B.bytes
  have hr := B.returns
  have hts := atoms_spec (ws := wsX3_valueToPut) B.pre
  have hown : s.vm.findClass RX3 = some m.cls := findClass_of_methodNamed B.named
  have hlocks := B.notSynchronized
  have hD := hD0.self (sz := s.heap.size)
  generalize hAe : va_A [(h0, .inr (1, [.ref vt])), (vt, .inr (2, [.ref vf, .ref vv])), (vf, .inl (cJ, 1024, .inr (.inl fm))), (vv, .inl (cI, 1024, .inl vl))] s.heap.size = A at hD ⊢
  have hA : ∀ q : Nat, s.heap.size ≤ q → A q := fun q h => by rw [← hAe]; exact Or.inr h
  have hS : va_S A s.heap s.heap [] := va_S.rf
  have hinX3 : ∀ w ∈ wsX30, w ∈ wsX3_valueToPut := by decide +kernel
  have hfl9 : (Cond.fieldLink RX3 9 "Twistquad$Solver" "table" "LTwistquad$ValueTable;").before ([.ref h0, .long a, .long b, .int 1] : List Value).toArray s = true := hts _ (by decide +kernel)
  have hl := lv_entry ([.ref h0, .long a, .long b, .int 1]) (n := 9) (Nat.le_of_ble_eq_true rfl)
  rw [lg_entry_eq]
  generalize (lg_sl ([.ref h0, .long a, .long b, .int 1]) ++ List.replicate (9 - (lg_sl ([.ref h0, .long a, .long b, .int 1])).length) Slot.unset).toArray = ls at hl ⊢
  have hl : lv_has ls 9 [(0, .ref h0), (1, .long a), (3, .long b), (5, .int 1)] := hl
  refine lv_iload hx hb dX3_valueToPut_0 (lv_at hl 3 rfl) ?_
  refine lv_if_le (tgt := 11) hx hb dX3_valueToPut_2 (by decide) (fun c2 => ?_) (fun c2 => ?_)
  · exact absurd c2 (by decide)
  · refine lv_iload hx hb dX3_valueToPut_5 (lv_at hl 3 rfl) ?_
    refine lv_iconst (v := 3) hx hb dX3_valueToPut_7 (by decide) ?_
    refine lv_icmp_le (tgt := 13) hx hb dX3_valueToPut_8 (by decide) (fun c8 => ?_) (fun c8 => ?_)
    · refine lv_aload_n hx hb dX3_valueToPut_13 rfl (lv_at hl 0 rfl) ?_
      refine va_get (D := D) (ci := 1) (v := .ref vt) (C := RX3) (T := TX3) (N := 1) hx hb hts hinX3 hown hK hP 0 rfl rfl 0 (by decide) hfl9 (fun _ h9 => h9) rfl dX3_valueToPut_14 ?_
      refine lv_ifnull hx hb dX3_valueToPut_17 ?_
      refine lv_iload hx hb dX3_valueToPut_20 (lv_at hl 3 rfl) ?_
      refine lv_iconst (v := 2) hx hb dX3_valueToPut_22 (by decide) ?_
      refine lv_icmp_ge (tgt := 35) hx hb dX3_valueToPut_23 (by decide) (fun c23 => ?_) (fun c23 => ?_)
      · exact absurd c23 (by decide)
      · refine lv_aload_n hx hb dX3_valueToPut_26 rfl (lv_at hl 0 rfl) ?_
        refine lv_lload_n hx hb dX3_valueToPut_27 rfl (lv_at hl 1 rfl) ?_
        refine lv_lload_n hx hb dX3_valueToPut_28 rfl (lv_at hl 2 rfl) ?_
        refine lv_iload hx hb dX3_valueToPut_29 (lv_at hl 3 rfl) ?_
        have hPc := hP.sub (ws' := [(h0, .inr (1, [.ref vt])), (vt, .inr (2, [.ref vf, .ref vv])), (vf, .inl (cJ, 1024, .inr (.inl fm))), (vv, .inl (cI, 1024, .inl vl))]) [0, 1, 2, 3] rfl
        have hDc := hD.sub (ws' := [(h0, .inr (1, [.ref vt])), (vt, .inr (2, [.ref vf, .ref vv])), (vf, .inl (cJ, 1024, .inr (.inl fm))), (vv, .inl (cI, 1024, .inl vl))]) [0, 1, 2, 3] (by decide) rfl
        have hFc := va_free (wc := [(h0, .inr (1, [.ref vt])), (vt, .inr (2, [.ref vf, .ref vv])), (vf, .inl (cJ, 1024, .inr (.inl fm))), (vv, .inl (cI, 1024, .inl vl))]) hD hS hA [0, 1, 2, 3] rfl
        refine va_calli (va_runV (As := [.long a, .long b, .int 1]) (rest := []) ⟨hx, hb, hml, hown, hts⟩ (c_X3_playMarbles_f1 l D cI cJ s.heap.size  h0 vt vf vv fm vl hT a b hB) (cwV 3 hts gX3_valueToPut_X3_playMarbles rfl rfl rfl (by decide +kernel) ⟨Nat.le_of_ble_eq_true rfl, Nat.le_of_ble_eq_true rfl⟩) ⟨(px_blindE pv_blind), va_recv hK hPc (ci := 1) (q0 := 0) rfl rfl, fun U hU hW => ⟨rfl, hEN.warm hW, by rw [hU], by rw [hU]; exact hPc, va_K.moved hW.alike hK, hDc.weaken (fun _ _ _ _ => trivial)⟩⟩ rfl rfl hl.1 rfl (lv_room (Nat.le_of_ble_eq_true rfl)) dX3_valueToPut_31 ⟨(Nat.le_of_ble_eq_true rfl), (Nat.le_of_ble_eq_true rfl)⟩) hS (fun q _ h => hFc q h) hFc (fun r31 u t9 H1 locs hth hvm hw31 hB hz1 hk1 hS => ?_)
        obtain ⟨fm31, vl31⟩ := u
        try dsimp only at hw31
        obtain ⟨hP1, hK1, hD1⟩ := hB
        rw [hth] at hP1
        obtain ⟨hP, hD⟩ := va_join (wr := []) (w1 := [(h0, .inr (1, [.ref vt])), (vt, .inr (2, [.ref vf, .ref vv])), (vf, .inl (cJ, 1024, .inr (.inl fm31))), (vv, .inl (cI, 1024, .inl vl31))]) hP hD [0, 1, 2, 3] [] rfl rfl (by decide) (by decide) hk1 hFc hP1 hD1
        generalize H1 = H at hP hS ⊢
        have hP : va_P D vwCl [(h0, .inr (1, [.ref vt])), (vt, .inr (2, [.ref vf, .ref vv])), (vf, .inl (cJ, 1024, .inr (.inl fm31))), (vv, .inl (cI, 1024, .inl vl31))] H := hP.sub (ws' := [(h0, .inr (1, [.ref vt])), (vt, .inr (2, [.ref vf, .ref vv])), (vf, .inl (cJ, 1024, .inr (.inl fm31))), (vv, .inl (cI, 1024, .inl vl31))]) [0, 1, 2, 3] rfl
        have hD : va_D A [(h0, .inr (1, [.ref vt])), (vt, .inr (2, [.ref vf, .ref vv])), (vf, .inl (cJ, 1024, .inr (.inl fm31))), (vv, .inl (cI, 1024, .inl vl31))] := hD.sub (ws' := [(h0, .inr (1, [.ref vt])), (vt, .inr (2, [.ref vf, .ref vv])), (vf, .inl (cJ, 1024, .inr (.inl fm31))), (vv, .inl (cI, 1024, .inl vl31))]) [0, 1, 2, 3] (by decide) rfl
        obtain ⟨hv9, hT31⟩ := hw31
        obtain rfl := hv9.symm
        refine W.iret (v := (vput 1 a b)) hx hb hr (fun tt ht hW => ⟨⟨(vput 1 a b), (fm31, vl31), rfl, ?_, by rw [ht]; exact hP, va_K.moved hW.alike hK, hD⟩, hS.F ht⟩) hS.2.2 dX3_valueToPut_34
        exact ⟨by { exact rfl }, hT31⟩
    · exact absurd c8 (by decide)

set_option maxHeartbeats 400000 in
set_option maxRecDepth 100000 in
theorem c_X3_valueBehindTurn_f1 (l : Launch) (D : va_G) (cI cJ : ClassId) (sz : Nat) (h0 vt vf vv : Nat) (fm : Nat → Int64) (vl : Nat → Int32) (hT : TI fm vl) (a b : Int64) (tn : Nat) (htn : tn < 8) (hB : BH 1 a b) : Met l yX3_valueBehindTurn wsX3_valueBehindTurn ({ frames := 6, cells := 0, slots := 0, locals := 170 } : Room) (va_Pc [.ref h0, .long a, .long b, .int (nI tn), .int 1] (px_E (pv_C D cI cJ [(h0, .inr (1, [.ref vt])), (vt, .inr (2, [.ref vf, .ref vv])), (vf, .inl (cJ, 1024, .inr (.inl fm))), (vv, .inl (cI, 1024, .inl vl))] sz))) (va_Qi (fun (r : Int32) (u : (Nat → Int64) × (Nat → Int32)) => r = vbehind (vput 1) a b tn ∧ TI u.1 u.2) (fun (u : (Nat → Int64) × (Nat → Int32)) => pv_B D cI cJ (va_A [(h0, .inr (1, [.ref vt])), (vt, .inr (2, [.ref vf, .ref vv])), (vf, .inl (cJ, 1024, .inr (.inl fm))), (vv, .inl (cI, 1024, .inl vl))] sz) [(h0, .inr (1, [.ref vt])), (vt, .inr (2, [.ref vf, .ref vv])), (vf, .inl (cJ, 1024, .inr (.inl u.1))), (vv, .inl (cI, 1024, .inl u.2))]) (va_A [(h0, .inr (1, [.ref vt])), (vt, .inr (2, [.ref vf, .ref vv])), (vf, .inl (cJ, 1024, .inr (.inl fm))), (vv, .inl (cI, 1024, .inl vl))] sz)) 0 0 (va_A [(h0, .inr (1, [.ref vt])), (vt, .inr (2, [.ref vf, .ref vv])), (vf, .inl (cJ, 1024, .inr (.inl fm))), (vv, .inl (cI, 1024, .inl vl))] sz) := by
  refine Met.ofW (cc := cX3_valueBehindTurn) (maxL := 13) (ret := (some .int)) (by decide) rfl ?_
  intro p e s m args below meth c s₁ B hml hv
  obtain ⟨rfl, hEN, rfl, hP, hK, hD0⟩ := hv
  have hx := B.exec
  have hb := B.bytes
  have hr := B.returns
  have hts := atoms_spec (ws := wsX3_valueBehindTurn) B.pre
  have hown : s.vm.findClass RX3 = some m.cls := findClass_of_methodNamed B.named
  have hlocks := B.notSynchronized
  have hD := hD0.self (sz := s.heap.size)
  generalize hAe : va_A [(h0, .inr (1, [.ref vt])), (vt, .inr (2, [.ref vf, .ref vv])), (vf, .inl (cJ, 1024, .inr (.inl fm))), (vv, .inl (cI, 1024, .inl vl))] s.heap.size = A at hD ⊢
  have hA : ∀ q : Nat, s.heap.size ≤ q → A q := fun q h => by rw [← hAe]; exact Or.inr h
  have hS : va_S A s.heap s.heap [] := va_S.rf
  have hl := lv_entry ([.ref h0, .long a, .long b, .int (nI tn), .int 1]) (n := 13) (Nat.le_of_ble_eq_true rfl)
  rw [lg_entry_eq]
  generalize (lg_sl ([.ref h0, .long a, .long b, .int (nI tn), .int 1]) ++ List.replicate (13 - (lg_sl ([.ref h0, .long a, .long b, .int (nI tn), .int 1])).length) Slot.unset).toArray = ls at hl ⊢
  have hl : lv_has ls 13 [(0, .ref h0), (1, .long a), (3, .long b), (5, .int (nI tn)), (6, .int 1)] := hl
  refine lv_lload_n hx hb dX3_valueBehindTurn_0 rfl (lv_at hl 1 rfl) ?_
  refine lv_iload hx hb dX3_valueBehindTurn_1 (lv_at hl 3 rfl) ?_
  refine vp_callSl (W.runS (As := [.long a, .int (nI tn)]) (rest := []) ⟨hx, hb, hml, hown, hts⟩ (c_X4_turned l a tn (by omega)) (va_cwS 2 hts gX3_valueBehindTurn_X4_turned rfl rfl rfl (by decide +kernel) ⟨Nat.le_of_ble_eq_true rfl, Nat.le_of_ble_eq_true rfl⟩) ⟨px_blind0, fun U hU hW => ⟨rfl, trivial⟩⟩ rfl rfl hl.1 rfl (lv_room (Nat.le_of_ble_eq_true rfl)) dX3_valueBehindTurn_3 ⟨(Nat.le_of_ble_eq_true rfl), (Nat.le_of_ble_eq_true rfl)⟩) (fun r3 er3 => ?_)
  obtain rfl := er3.symm
  refine lv_lstore (lv' := [(7, .long (cturned a tn)), (0, .ref h0), (1, .long a), (3, .long b), (5, .int (nI tn)), (6, .int 1)]) hx hb dX3_valueBehindTurn_6 hl (by decide) rfl (fun ls hl => ?_)
  refine lv_lload_n hx hb dX3_valueBehindTurn_8 rfl (lv_at hl 3 rfl) ?_
  refine lv_iload hx hb dX3_valueBehindTurn_9 (lv_at hl 4 rfl) ?_
  refine vp_callSl (W.runS (As := [.long b, .int (nI tn)]) (rest := []) ⟨hx, hb, hml, hown, hts⟩ (c_X4_turned l b tn (by omega)) (va_cwS 2 hts gX3_valueBehindTurn_X4_turned rfl rfl rfl (by decide +kernel) ⟨Nat.le_of_ble_eq_true rfl, Nat.le_of_ble_eq_true rfl⟩) ⟨px_blind0, fun U hU hW => ⟨rfl, trivial⟩⟩ rfl rfl hl.1 rfl (lv_room (Nat.le_of_ble_eq_true rfl)) dX3_valueBehindTurn_11 ⟨(Nat.le_of_ble_eq_true rfl), (Nat.le_of_ble_eq_true rfl)⟩) (fun r11 er11 => ?_)
  obtain rfl := er11.symm
  refine lv_lstore (lv' := [(9, .long (cturned b tn)), (7, .long (cturned a tn)), (0, .ref h0), (1, .long a), (3, .long b), (5, .int (nI tn)), (6, .int 1)]) hx hb dX3_valueBehindTurn_14 hl (by decide) rfl (fun ls hl => ?_)
  refine lv_lload hx hb dX3_valueBehindTurn_16 (lv_at hl 1 rfl) ?_
  refine vp_callSi (W.runS (As := [.long (cturned a tn)]) (rest := []) ⟨hx, hb, hml, hown, hts⟩ (c_X1_hasLine l (cturned a tn)) (va_cwS 1 hts gX3_valueBehindTurn_X1_hasLine rfl rfl rfl (by decide +kernel) ⟨Nat.le_of_ble_eq_true rfl, Nat.le_of_ble_eq_true rfl⟩) ⟨px_blind0, fun U hU hW => ⟨rfl, trivial⟩⟩ rfl rfl hl.1 rfl (lv_room (Nat.le_of_ble_eq_true rfl)) dX3_valueBehindTurn_18 ⟨(Nat.le_of_ble_eq_true rfl), (Nat.le_of_ble_eq_true rfl)⟩) (fun r18 er18 => ?_)
  obtain rfl := er18.symm
  refine pk_b (P := cline (cturned a tn) = true) (fun b18 => ?_) (fun b18 => ?_)
  · refine lv_istore (lv' := [(11, .int 1), (9, .long (cturned b tn)), (7, .long (cturned a tn)), (0, .ref h0), (1, .long a), (3, .long b), (5, .int (nI tn)), (6, .int 1)]) hx hb dX3_valueBehindTurn_21 hl (by decide) rfl (fun ls hl => ?_)
    refine lv_lload hx hb dX3_valueBehindTurn_23 (lv_at hl 1 rfl) ?_
    refine vp_callSi (W.runS (As := [.long (cturned b tn)]) (rest := []) ⟨hx, hb, hml, hown, hts⟩ (c_X1_hasLine l (cturned b tn)) (va_cwS 1 hts gX3_valueBehindTurn_X1_hasLine rfl rfl rfl (by decide +kernel) ⟨Nat.le_of_ble_eq_true rfl, Nat.le_of_ble_eq_true rfl⟩) ⟨px_blind0, fun U hU hW => ⟨rfl, trivial⟩⟩ rfl rfl hl.1 rfl (lv_room (Nat.le_of_ble_eq_true rfl)) dX3_valueBehindTurn_25 ⟨(Nat.le_of_ble_eq_true rfl), (Nat.le_of_ble_eq_true rfl)⟩) (fun r25 er25 => ?_)
    obtain rfl := er25.symm
    refine pk_b (P := cline (cturned b tn) = true) (fun b25 => ?_) (fun b25 => ?_)
    · refine lv_istore (lv' := [(12, .int 1), (11, .int 1), (9, .long (cturned b tn)), (7, .long (cturned a tn)), (0, .ref h0), (1, .long a), (3, .long b), (5, .int (nI tn)), (6, .int 1)]) hx hb dX3_valueBehindTurn_28 hl (by decide) rfl (fun ls hl => ?_)
      refine lv_iload hx hb dX3_valueBehindTurn_30 (lv_at hl 1 rfl) ?_
      refine lv_iload hx hb dX3_valueBehindTurn_32 (lv_at hl 0 rfl) ?_
      refine lv_icmp_eq (tgt := 48) hx hb dX3_valueBehindTurn_34 (by decide) (fun c34 => ?_) (fun c34 => ?_)
      · refine lv_iload hx hb dX3_valueBehindTurn_48 (lv_at hl 1 rfl) ?_
        refine lv_if_eq (tgt := 57) hx hb dX3_valueBehindTurn_50 (by decide) (fun c50 => ?_) (fun c50 => ?_)
        · exact absurd c50 (by decide)
        · refine lv_iconst (v := 0) hx hb dX3_valueBehindTurn_53 (by decide) ?_
          refine lv_goto (tgt := 68) hx hb dX3_valueBehindTurn_54 (by decide) ?_
          refine W.iret (v := 0) hx hb hr (fun tt ht hW => ⟨⟨0, (fm, vl), rfl, ?_, by rw [ht]; exact hP, va_K.moved hW.alike hK, hD⟩, hS.F ht⟩) hS.2.2 dX3_valueBehindTurn_68
          exact ⟨by { skip; unfold vbehind; first | (rw [if_pos b18, if_pos b25]; done) | (rw [if_pos b18, if_neg b25]; done) | (rw [if_neg b18, if_pos b25]; done) | (rw [if_neg b18, if_neg b25]; done) }, hT⟩
      · exact absurd c34 (by decide)
    · refine lv_istore (lv' := [(12, .int 0), (11, .int 1), (9, .long (cturned b tn)), (7, .long (cturned a tn)), (0, .ref h0), (1, .long a), (3, .long b), (5, .int (nI tn)), (6, .int 1)]) hx hb dX3_valueBehindTurn_28 hl (by decide) rfl (fun ls hl => ?_)
      refine lv_iload hx hb dX3_valueBehindTurn_30 (lv_at hl 1 rfl) ?_
      refine lv_iload hx hb dX3_valueBehindTurn_32 (lv_at hl 0 rfl) ?_
      refine lv_icmp_eq (tgt := 48) hx hb dX3_valueBehindTurn_34 (by decide) (fun c34 => ?_) (fun c34 => ?_)
      · exact absurd c34 (by decide)
      · refine lv_iload hx hb dX3_valueBehindTurn_37 (lv_at hl 1 rfl) ?_
        refine lv_if_eq (tgt := 46) hx hb dX3_valueBehindTurn_39 (by decide) (fun c39 => ?_) (fun c39 => ?_)
        · exact absurd c39 (by decide)
        · refine lv_iconst (v := 1) hx hb dX3_valueBehindTurn_42 (by decide) ?_
          refine lv_goto (tgt := 47) hx hb dX3_valueBehindTurn_43 (by decide) ?_
          refine W.iret (v := 1) hx hb hr (fun tt ht hW => ⟨⟨1, (fm, vl), rfl, ?_, by rw [ht]; exact hP, va_K.moved hW.alike hK, hD⟩, hS.F ht⟩) hS.2.2 dX3_valueBehindTurn_47
          exact ⟨by { skip; unfold vbehind; first | (rw [if_pos b18, if_pos b25]; done) | (rw [if_pos b18, if_neg b25]; done) | (rw [if_neg b18, if_pos b25]; done) | (rw [if_neg b18, if_neg b25]; done) }, hT⟩
  · refine lv_istore (lv' := [(11, .int 0), (9, .long (cturned b tn)), (7, .long (cturned a tn)), (0, .ref h0), (1, .long a), (3, .long b), (5, .int (nI tn)), (6, .int 1)]) hx hb dX3_valueBehindTurn_21 hl (by decide) rfl (fun ls hl => ?_)
    refine lv_lload hx hb dX3_valueBehindTurn_23 (lv_at hl 1 rfl) ?_
    refine vp_callSi (W.runS (As := [.long (cturned b tn)]) (rest := []) ⟨hx, hb, hml, hown, hts⟩ (c_X1_hasLine l (cturned b tn)) (va_cwS 1 hts gX3_valueBehindTurn_X1_hasLine rfl rfl rfl (by decide +kernel) ⟨Nat.le_of_ble_eq_true rfl, Nat.le_of_ble_eq_true rfl⟩) ⟨px_blind0, fun U hU hW => ⟨rfl, trivial⟩⟩ rfl rfl hl.1 rfl (lv_room (Nat.le_of_ble_eq_true rfl)) dX3_valueBehindTurn_25 ⟨(Nat.le_of_ble_eq_true rfl), (Nat.le_of_ble_eq_true rfl)⟩) (fun r25 er25 => ?_)
    obtain rfl := er25.symm
    refine pk_b (P := cline (cturned b tn) = true) (fun b25 => ?_) (fun b25 => ?_)
    · refine lv_istore (lv' := [(12, .int 1), (11, .int 0), (9, .long (cturned b tn)), (7, .long (cturned a tn)), (0, .ref h0), (1, .long a), (3, .long b), (5, .int (nI tn)), (6, .int 1)]) hx hb dX3_valueBehindTurn_28 hl (by decide) rfl (fun ls hl => ?_)
      refine lv_iload hx hb dX3_valueBehindTurn_30 (lv_at hl 1 rfl) ?_
      refine lv_iload hx hb dX3_valueBehindTurn_32 (lv_at hl 0 rfl) ?_
      refine lv_icmp_eq (tgt := 48) hx hb dX3_valueBehindTurn_34 (by decide) (fun c34 => ?_) (fun c34 => ?_)
      · exact absurd c34 (by decide)
      · refine lv_iload hx hb dX3_valueBehindTurn_37 (lv_at hl 1 rfl) ?_
        refine lv_if_eq (tgt := 46) hx hb dX3_valueBehindTurn_39 (by decide) (fun c39 => ?_) (fun c39 => ?_)
        · refine lv_iconst (v := (-1)) hx hb dX3_valueBehindTurn_46 (by decide) ?_
          refine W.iret (v := (-1)) hx hb hr (fun tt ht hW => ⟨⟨(-1), (fm, vl), rfl, ?_, by rw [ht]; exact hP, va_K.moved hW.alike hK, hD⟩, hS.F ht⟩) hS.2.2 dX3_valueBehindTurn_47
          exact ⟨by { skip; unfold vbehind; first | (rw [if_pos b18, if_pos b25]; done) | (rw [if_pos b18, if_neg b25]; done) | (rw [if_neg b18, if_pos b25]; done) | (rw [if_neg b18, if_neg b25]; done) }, hT⟩
        · exact absurd c39 (by decide)
    · refine lv_istore (lv' := [(12, .int 0), (11, .int 0), (9, .long (cturned b tn)), (7, .long (cturned a tn)), (0, .ref h0), (1, .long a), (3, .long b), (5, .int (nI tn)), (6, .int 1)]) hx hb dX3_valueBehindTurn_28 hl (by decide) rfl (fun ls hl => ?_)
      refine lv_iload hx hb dX3_valueBehindTurn_30 (lv_at hl 1 rfl) ?_
      refine lv_iload hx hb dX3_valueBehindTurn_32 (lv_at hl 0 rfl) ?_
      refine lv_icmp_eq (tgt := 48) hx hb dX3_valueBehindTurn_34 (by decide) (fun c34 => ?_) (fun c34 => ?_)
      · refine lv_iload hx hb dX3_valueBehindTurn_48 (lv_at hl 1 rfl) ?_
        refine lv_if_eq (tgt := 57) hx hb dX3_valueBehindTurn_50 (by decide) (fun c50 => ?_) (fun c50 => ?_)
        · refine lv_aload_n hx hb dX3_valueBehindTurn_57 rfl (lv_at hl 4 rfl) ?_
          refine lv_lload hx hb dX3_valueBehindTurn_58 (lv_at hl 2 rfl) ?_
          refine lv_lload hx hb dX3_valueBehindTurn_60 (lv_at hl 3 rfl) ?_
          refine lv_iload hx hb dX3_valueBehindTurn_62 (lv_at hl 8 rfl) ?_
          have hPc := hP.sub (ws' := [(h0, .inr (1, [.ref vt])), (vt, .inr (2, [.ref vf, .ref vv])), (vf, .inl (cJ, 1024, .inr (.inl fm))), (vv, .inl (cI, 1024, .inl vl))]) [0, 1, 2, 3] rfl
          have hDc := hD.sub (ws' := [(h0, .inr (1, [.ref vt])), (vt, .inr (2, [.ref vf, .ref vv])), (vf, .inl (cJ, 1024, .inr (.inl fm))), (vv, .inl (cI, 1024, .inl vl))]) [0, 1, 2, 3] (by decide) rfl
          have hFc := va_free (wc := [(h0, .inr (1, [.ref vt])), (vt, .inr (2, [.ref vf, .ref vv])), (vf, .inl (cJ, 1024, .inr (.inl fm))), (vv, .inl (cI, 1024, .inl vl))]) hD hS hA [0, 1, 2, 3] rfl
          refine va_calli (va_runV (As := [.long (cturned b tn), .long (cturned a tn), .int 1]) (rest := []) ⟨hx, hb, hml, hown, hts⟩ (c_X3_valueToPut_f1 l D cI cJ s.heap.size  h0 vt vf vv fm vl hT (cturned b tn) (cturned a tn) (bh_turn hB htn)) (cwV 3 hts gX3_valueBehindTurn_X3_valueToPut rfl rfl rfl (by decide +kernel) ⟨Nat.le_of_ble_eq_true rfl, Nat.le_of_ble_eq_true rfl⟩) ⟨(px_blindE pv_blind), va_recv hK hPc (ci := 1) (q0 := 0) rfl rfl, fun U hU hW => ⟨rfl, hEN.warm hW, by rw [hU], by rw [hU]; exact hPc, va_K.moved hW.alike hK, hDc.weaken (fun _ _ _ _ => trivial)⟩⟩ rfl rfl hl.1 rfl (lv_room (Nat.le_of_ble_eq_true rfl)) dX3_valueBehindTurn_64 ⟨(Nat.le_of_ble_eq_true rfl), (Nat.le_of_ble_eq_true rfl)⟩) hS (fun q _ h => hFc q h) hFc (fun r64 u t9 H1 locs hth hvm hw64 hB hz1 hk1 hS => ?_)
          obtain ⟨fm64, vl64⟩ := u
          try dsimp only at hw64
          obtain ⟨hP1, hK1, hD1⟩ := hB
          rw [hth] at hP1
          obtain ⟨hP, hD⟩ := va_join (wr := []) (w1 := [(h0, .inr (1, [.ref vt])), (vt, .inr (2, [.ref vf, .ref vv])), (vf, .inl (cJ, 1024, .inr (.inl fm64))), (vv, .inl (cI, 1024, .inl vl64))]) hP hD [0, 1, 2, 3] [] rfl rfl (by decide) (by decide) hk1 hFc hP1 hD1
          generalize H1 = H at hP hS ⊢
          have hP : va_P D vwCl [(h0, .inr (1, [.ref vt])), (vt, .inr (2, [.ref vf, .ref vv])), (vf, .inl (cJ, 1024, .inr (.inl fm64))), (vv, .inl (cI, 1024, .inl vl64))] H := hP.sub (ws' := [(h0, .inr (1, [.ref vt])), (vt, .inr (2, [.ref vf, .ref vv])), (vf, .inl (cJ, 1024, .inr (.inl fm64))), (vv, .inl (cI, 1024, .inl vl64))]) [0, 1, 2, 3] rfl
          have hD : va_D A [(h0, .inr (1, [.ref vt])), (vt, .inr (2, [.ref vf, .ref vv])), (vf, .inl (cJ, 1024, .inr (.inl fm64))), (vv, .inl (cI, 1024, .inl vl64))] := hD.sub (ws' := [(h0, .inr (1, [.ref vt])), (vt, .inr (2, [.ref vf, .ref vv])), (vf, .inl (cJ, 1024, .inr (.inl fm64))), (vv, .inl (cI, 1024, .inl vl64))]) [0, 1, 2, 3] (by decide) rfl
          obtain ⟨hv9, hT64⟩ := hw64
          obtain rfl := hv9.symm
          refine lv_ineg hx hb dX3_valueBehindTurn_67 ?_
          refine lv_topi (fun x67 ex67 => ?_)
          refine W.iret (v := x67) hx hb hr (fun tt ht hW => ⟨⟨x67, (fm64, vl64), rfl, ?_, by rw [ht]; exact hP, va_K.moved hW.alike hK, hD⟩, hS.F ht⟩) hS.2.2 dX3_valueBehindTurn_68
          exact ⟨by { obtain rfl := ex67.symm; unfold vbehind; first | (rw [if_pos b18, if_pos b25]; done) | (rw [if_pos b18, if_neg b25]; done) | (rw [if_neg b18, if_pos b25]; done) | (rw [if_neg b18, if_neg b25]; done) }, hT64⟩
        · exact absurd c50 (by decide)
      · exact absurd c34 (by decide)

set_option maxHeartbeats 400000 in
set_option maxRecDepth 100000 in
theorem c_X3_valueToTurn_f1 (l : Launch) (D : va_G) (cI cJ : ClassId) (sz : Nat) (h0 vt vf vv : Nat) (fm : Nat → Int64) (vl : Nat → Int32) (hT : TI fm vl) (a b : Int64)  (hB : BH 1 a b) : Met l yX3_valueToTurn wsX3_valueToTurn ({ frames := 7, cells := 0, slots := 0, locals := 202 } : Room) (va_Pc [.ref h0, .long a, .long b, .int 1] (px_E (pv_C D cI cJ [(h0, .inr (1, [.ref vt])), (vt, .inr (2, [.ref vf, .ref vv])), (vf, .inl (cJ, 1024, .inr (.inl fm))), (vv, .inl (cI, 1024, .inl vl))] sz))) (va_Qi (fun (r : Int32) (u : (Nat → Int64) × (Nat → Int32)) => r = vturn (vput 1) a b 8 ∧ TI u.1 u.2) (fun (u : (Nat → Int64) × (Nat → Int32)) => pv_B D cI cJ (va_A [(h0, .inr (1, [.ref vt])), (vt, .inr (2, [.ref vf, .ref vv])), (vf, .inl (cJ, 1024, .inr (.inl fm))), (vv, .inl (cI, 1024, .inl vl))] sz) [(h0, .inr (1, [.ref vt])), (vt, .inr (2, [.ref vf, .ref vv])), (vf, .inl (cJ, 1024, .inr (.inl u.1))), (vv, .inl (cI, 1024, .inl u.2))]) (va_A [(h0, .inr (1, [.ref vt])), (vt, .inr (2, [.ref vf, .ref vv])), (vf, .inl (cJ, 1024, .inr (.inl fm))), (vv, .inl (cI, 1024, .inl vl))] sz)) 0 0 (va_A [(h0, .inr (1, [.ref vt])), (vt, .inr (2, [.ref vf, .ref vv])), (vf, .inl (cJ, 1024, .inr (.inl fm))), (vv, .inl (cI, 1024, .inl vl))] sz) := by
  refine Met.ofW (cc := cX3_valueToTurn) (maxL := 8) (ret := (some .int)) (by decide) rfl ?_
  intro p e s m args below meth c s₁ B hml hv
  obtain ⟨rfl, hEN, rfl, hP, hK, hD0⟩ := hv
  have hx := B.exec
  have hb := B.bytes
  have hr := B.returns
  have hts := atoms_spec (ws := wsX3_valueToTurn) B.pre
  have hown : s.vm.findClass RX3 = some m.cls := findClass_of_methodNamed B.named
  have hlocks := B.notSynchronized
  have hD := hD0.self (sz := s.heap.size)
  generalize hAe : va_A [(h0, .inr (1, [.ref vt])), (vt, .inr (2, [.ref vf, .ref vv])), (vf, .inl (cJ, 1024, .inr (.inl fm))), (vv, .inl (cI, 1024, .inl vl))] s.heap.size = A at hD ⊢
  have hA : ∀ q : Nat, s.heap.size ≤ q → A q := fun q h => by rw [← hAe]; exact Or.inr h
  have hS : va_S A s.heap s.heap [] := va_S.rf
  have hmx0 : (Cond.methodLink RX3 48 Lib.Math.max.name).before ([.ref h0, .long a, .long b, .int 1] : List Value).toArray s = true := hts _ (by decide +kernel)
  have hmx1 : (Cond.static Lib.Math.max.name).before ([.ref h0, .long a, .long b, .int 1] : List Value).toArray s = true := hts _ (by decide +kernel)
  have hmx2 : (Cond.initialized "java/lang/Math").before ([.ref h0, .long a, .long b, .int 1] : List Value).toArray s = true := hts _ (by decide +kernel)
  have hmx3 : (Cond.code Lib.Math.max.name Lib.Math.max.code 2 (some .int)).before ([.ref h0, .long a, .long b, .int 1] : List Value).toArray s = true := hts _ (by decide +kernel)
  have hl := lv_entry ([.ref h0, .long a, .long b, .int 1]) (n := 8) (Nat.le_of_ble_eq_true rfl)
  rw [lg_entry_eq]
  generalize (lg_sl ([.ref h0, .long a, .long b, .int 1]) ++ List.replicate (8 - (lg_sl ([.ref h0, .long a, .long b, .int 1])).length) Slot.unset).toArray = ls at hl ⊢
  have hl : lv_has ls 8 [(0, .ref h0), (1, .long a), (3, .long b), (5, .int 1)] := hl
  refine lv_iconst (v := (-1)) hx hb dX3_valueToTurn_0 (by decide) ?_
  refine lv_istore (lv' := [(6, .int (-1)), (0, .ref h0), (1, .long a), (3, .long b), (5, .int 1)]) hx hb dX3_valueToTurn_1 hl (by decide) rfl (fun ls hl => ?_)
  refine lv_iconst (v := 0) hx hb dX3_valueToTurn_3 (by decide) ?_
  refine lv_istore (lv' := [(7, .int 0), (6, .int (-1)), (0, .ref h0), (1, .long a), (3, .long b), (5, .int 1)]) hx hb dX3_valueToTurn_4 hl (by decide) rfl (fun ls hl => ?_)
  have loop6 : ∀ (nn i6 : Nat), i6 + nn = 8 → ∀ (fm6 : Nat → Int64) (vl6 : Nat → Int32) (hT6 : TI fm6 vl6) (H : Heap) (locs : List Loc), va_P D vwCl [(h0, .inr (1, [.ref vt])), (vt, .inr (2, [.ref vf, .ref vv])), (vf, .inl (cJ, 1024, .inr (.inl fm6))), (vv, .inl (cI, 1024, .inl vl6))] H → va_D A [(h0, .inr (1, [.ref vt])), (vt, .inr (2, [.ref vf, .ref vv])), (vf, .inl (cJ, 1024, .inr (.inl fm6))), (vv, .inl (cI, 1024, .inl vl6))] → va_S A s.heap H locs → ∀ ls, lv_has ls 8 [(7, .int (nI i6)), (6, .int (vturn (vput 1) a b i6)), (0, .ref h0), (1, .long a), (3, .long b), (5, .int 1)] → W p l e (headSpec wsX3_valueToTurn ({ frames := 7, cells := 0, slots := 0, locals := 202 } : Room)).room s m ([.ref h0, .long a, .long b, .int 1] : List Value).toArray below meth c H locs 0 0 (MQ below (va_Qi (fun (r : Int32) (u : (Nat → Int64) × (Nat → Int32)) => r = vturn (vput 1) a b 8 ∧ TI u.1 u.2) (fun (u : (Nat → Int64) × (Nat → Int32)) => pv_B D cI cJ (A) [(h0, .inr (1, [.ref vt])), (vt, .inr (2, [.ref vf, .ref vv])), (vf, .inl (cJ, 1024, .inr (.inl u.1))), (vv, .inl (cI, 1024, .inl u.2))]) (A)) ([.ref h0, .long a, .long b, .int 1] : List Value).toArray s 0 0 A) (F0 m 6 ls []) := by
    intro nn
    induction nn with
    | zero =>
      intro i6 hi6 fm6 vl6 hT6 H locs hP hD hS ls hl
      obtain rfl : i6 = 8 := by omega
      refine lv_iload hx hb dX3_valueToTurn_6 (lv_at hl 0 rfl) ?_
      refine lv_bipush (v := 8) hx hb dX3_valueToTurn_8 (by decide) ?_
      refine lv_icmp_ge (tgt := 42) hx hb dX3_valueToTurn_10 (by decide) (fun c10 => ?_) (fun c10 => ?_)
      · have c10 : 8 ≤ 8 := (nq_le (a := 8) (b := 8) (by omega) (by omega)).mp c10
        refine lv_iload hx hb dX3_valueToTurn_42 (lv_at hl 1 rfl) ?_
        refine W.iret (v := (vturn (vput 1) a b 8)) hx hb hr (fun tt ht hW => ⟨⟨(vturn (vput 1) a b 8), (fm6, vl6), rfl, ?_, by rw [ht]; exact hP, va_K.moved hW.alike hK, hD⟩, hS.F ht⟩) hS.2.2 dX3_valueToTurn_44
        exact ⟨by { exact rfl }, hT6⟩
      · have c10 : ¬ 8 ≤ 8 := _root_.mt (nq_le (a := 8) (b := 8) (by omega) (by omega)).mpr c10
        omega
    | succ nn ih6 =>
      intro i6 hi6 fm6 vl6 hT6 H locs hP hD hS ls hl
      refine lv_iload hx hb dX3_valueToTurn_6 (lv_at hl 0 rfl) ?_
      refine lv_bipush (v := 8) hx hb dX3_valueToTurn_8 (by decide) ?_
      refine lv_icmp_ge (tgt := 42) hx hb dX3_valueToTurn_10 (by decide) (fun c10 => ?_) (fun c10 => ?_)
      · have c10 : 8 ≤ i6 := (nq_le (a := 8) (b := i6) (by omega) (by omega)).mp c10
        omega
      · have c10 : ¬ 8 ≤ i6 := _root_.mt (nq_le (a := 8) (b := i6) (by omega) (by omega)).mpr c10
        refine lv_iload hx hb dX3_valueToTurn_13 (lv_at hl 1 rfl) ?_
        refine lv_iconst (v := 1) hx hb dX3_valueToTurn_15 (by decide) ?_
        refine lv_icmp_ge (tgt := 42) hx hb dX3_valueToTurn_16 (by decide) (fun c16 => ?_) (fun c16 => ?_)
        · refine lv_iload hx hb dX3_valueToTurn_42 (lv_at hl 1 rfl) ?_
          refine W.iret (v := (vturn (vput 1) a b i6)) hx hb hr (fun tt ht hW => ⟨⟨(vturn (vput 1) a b i6), (fm6, vl6), rfl, ?_, by rw [ht]; exact hP, va_K.moved hW.alike hK, hD⟩, hS.F ht⟩) hS.2.2 dX3_valueToTurn_44
          exact ⟨by { exact stop8 c16 (by omega) }, hT6⟩
        · refine lv_iload hx hb dX3_valueToTurn_19 (lv_at hl 1 rfl) ?_
          refine lv_aload_n hx hb dX3_valueToTurn_21 rfl (lv_at hl 2 rfl) ?_
          refine lv_lload_n hx hb dX3_valueToTurn_22 rfl (lv_at hl 3 rfl) ?_
          refine lv_lload_n hx hb dX3_valueToTurn_23 rfl (lv_at hl 4 rfl) ?_
          refine lv_iload hx hb dX3_valueToTurn_24 (lv_at hl 0 rfl) ?_
          refine lv_iload hx hb dX3_valueToTurn_26 (lv_at hl 5 rfl) ?_
          have hPc := hP.sub (ws' := [(h0, .inr (1, [.ref vt])), (vt, .inr (2, [.ref vf, .ref vv])), (vf, .inl (cJ, 1024, .inr (.inl fm6))), (vv, .inl (cI, 1024, .inl vl6))]) [0, 1, 2, 3] rfl
          have hDc := hD.sub (ws' := [(h0, .inr (1, [.ref vt])), (vt, .inr (2, [.ref vf, .ref vv])), (vf, .inl (cJ, 1024, .inr (.inl fm6))), (vv, .inl (cI, 1024, .inl vl6))]) [0, 1, 2, 3] (by decide) rfl
          have hFc := va_free (wc := [(h0, .inr (1, [.ref vt])), (vt, .inr (2, [.ref vf, .ref vv])), (vf, .inl (cJ, 1024, .inr (.inl fm6))), (vv, .inl (cI, 1024, .inl vl6))]) hD hS hA [0, 1, 2, 3] rfl
          refine va_calli (va_runV (As := [.long a, .long b, .int (nI i6), .int 1]) (rest := [.int (vturn (vput 1) a b i6)]) ⟨hx, hb, hml, hown, hts⟩ (c_X3_valueBehindTurn_f1 l D cI cJ H.size  h0 vt vf vv fm6 vl6 hT6 a b i6 (by omega) hB) (cwV 4 hts gX3_valueToTurn_X3_valueBehindTurn rfl rfl rfl (by decide +kernel) ⟨Nat.le_of_ble_eq_true rfl, Nat.le_of_ble_eq_true rfl⟩) ⟨(px_blindE pv_blind), va_recv hK hPc (ci := 1) (q0 := 0) rfl rfl, fun U hU hW => ⟨rfl, hEN.warm hW, by rw [hU], by rw [hU]; exact hPc, va_K.moved hW.alike hK, hDc.weaken (fun _ _ _ _ => trivial)⟩⟩ rfl rfl hl.1 rfl (lv_room (Nat.le_of_ble_eq_true rfl)) dX3_valueToTurn_28 ⟨(Nat.le_of_ble_eq_true rfl), (Nat.le_of_ble_eq_true rfl)⟩) hS (fun q _ h => hFc q h) hFc (fun r28 u t9 H1 locs hth hvm hw28 hB hz1 hk1 hS => ?_)
          obtain ⟨fm28, vl28⟩ := u
          try dsimp only at hw28
          obtain ⟨hP1, hK1, hD1⟩ := hB
          rw [hth] at hP1
          obtain ⟨hP, hD⟩ := va_join (wr := []) (w1 := [(h0, .inr (1, [.ref vt])), (vt, .inr (2, [.ref vf, .ref vv])), (vf, .inl (cJ, 1024, .inr (.inl fm28))), (vv, .inl (cI, 1024, .inl vl28))]) hP hD [0, 1, 2, 3] [] rfl rfl (by decide) (by decide) hk1 hFc hP1 hD1
          generalize H1 = H at hP hS ⊢
          have hP : va_P D vwCl [(h0, .inr (1, [.ref vt])), (vt, .inr (2, [.ref vf, .ref vv])), (vf, .inl (cJ, 1024, .inr (.inl fm28))), (vv, .inl (cI, 1024, .inl vl28))] H := hP.sub (ws' := [(h0, .inr (1, [.ref vt])), (vt, .inr (2, [.ref vf, .ref vv])), (vf, .inl (cJ, 1024, .inr (.inl fm28))), (vv, .inl (cI, 1024, .inl vl28))]) [0, 1, 2, 3] rfl
          have hD : va_D A [(h0, .inr (1, [.ref vt])), (vt, .inr (2, [.ref vf, .ref vv])), (vf, .inl (cJ, 1024, .inr (.inl fm28))), (vv, .inl (cI, 1024, .inl vl28))] := hD.sub (ws' := [(h0, .inr (1, [.ref vt])), (vt, .inr (2, [.ref vf, .ref vv])), (vf, .inl (cJ, 1024, .inr (.inl fm28))), (vv, .inl (cI, 1024, .inl vl28))]) [0, 1, 2, 3] (by decide) rfl
          obtain ⟨hv9, hT28⟩ := hw28
          obtain rfl := hv9.symm
          refine va_mmax hx hb (by rw [hml]; exact hl.1.symm) hown hmx0 hmx1 hmx2 hmx3 (by decide) (Nat.le_of_ble_eq_true rfl) (Nat.le_of_ble_eq_true rfl) (Nat.le_of_ble_eq_true rfl) dX3_valueToTurn_31 ?_
          refine lv_topi (fun x31 ex31 => ?_)
          refine lv_istore (lv' := [(6, .int x31), (7, .int (nI i6)), (0, .ref h0), (1, .long a), (3, .long b), (5, .int 1)]) hx hb dX3_valueToTurn_34 hl (by decide) rfl (fun ls hl => ?_)
          refine lv_iinc (v := nI (i6 + 1)) (lv' := [(7, .int (nI (i6 + 1))), (6, .int x31), (0, .ref h0), (1, .long a), (3, .long b), (5, .int 1)]) hx hb dX3_valueToTurn_36 hl (k := 1) rfl (nI_add i6 1) (by decide) rfl (fun ls hl => ?_)
          refine lv_goto (tgt := 6) hx hb dX3_valueToTurn_39 (by decide) ?_
          exact ih6 (i6 + 1) (by omega) _ _ hT28 _ _ hP hD hS ls (by { have e9 : (x31 : Int32) = (vturn (vput 1) a b (i6 + 1)) := by { obtain rfl := ex31.symm; exact vturn_s c16 }; rw [← e9]; exact lv_sub hl [0, 1, 2, 3, 4, 5] rfl })
  exact loop6 8 0 (by omega) _ _ hT _ _ hP hD hS ls (lv_sub hl [0, 1, 2, 3, 4, 5] rfl)

set_option maxHeartbeats 400000 in
set_option maxRecDepth 100000 in
theorem c_X3_lowestBestTurn_f1 (l : Launch) (D : va_G) (cI cJ : ClassId) (sz : Nat) (h0 vt vf vv : Nat) (fm : Nat → Int64) (vl : Nat → Int32) (hT : TI fm vl) (a b : Int64)  (hB : BH 1 a b) : Met l yX3_lowestBestTurn wsX3_lowestBestTurn ({ frames := 7, cells := 0, slots := 0, locals := 202 } : Room) (va_Pc [.ref h0, .long a, .long b, .int 1] (px_E (pv_C D cI cJ [(h0, .inr (1, [.ref vt])), (vt, .inr (2, [.ref vf, .ref vv])), (vf, .inl (cJ, 1024, .inr (.inl fm))), (vv, .inl (cI, 1024, .inl vl))] sz))) (va_Qi (fun (r : Int32) (u : (Nat → Int64) × (Nat → Int32)) => r = nI (tlow (vput 1) a b 8).2 ∧ TI u.1 u.2) (fun (u : (Nat → Int64) × (Nat → Int32)) => pv_B D cI cJ (va_A [(h0, .inr (1, [.ref vt])), (vt, .inr (2, [.ref vf, .ref vv])), (vf, .inl (cJ, 1024, .inr (.inl fm))), (vv, .inl (cI, 1024, .inl vl))] sz) [(h0, .inr (1, [.ref vt])), (vt, .inr (2, [.ref vf, .ref vv])), (vf, .inl (cJ, 1024, .inr (.inl u.1))), (vv, .inl (cI, 1024, .inl u.2))]) (va_A [(h0, .inr (1, [.ref vt])), (vt, .inr (2, [.ref vf, .ref vv])), (vf, .inl (cJ, 1024, .inr (.inl fm))), (vv, .inl (cI, 1024, .inl vl))] sz)) 0 0 (va_A [(h0, .inr (1, [.ref vt])), (vt, .inr (2, [.ref vf, .ref vv])), (vf, .inl (cJ, 1024, .inr (.inl fm))), (vv, .inl (cI, 1024, .inl vl))] sz) := by
  refine Met.ofW (cc := cX3_lowestBestTurn) (maxL := 10) (ret := (some .int)) (by decide) rfl ?_
  intro p e s m args below meth c s₁ B hml hv
  obtain ⟨rfl, hEN, rfl, hP, hK, hD0⟩ := hv
  have hx := B.exec
  have hb := B.bytes
  have hr := B.returns
  have hts := atoms_spec (ws := wsX3_lowestBestTurn) B.pre
  have hown : s.vm.findClass RX3 = some m.cls := findClass_of_methodNamed B.named
  have hlocks := B.notSynchronized
  have hD := hD0.self (sz := s.heap.size)
  generalize hAe : va_A [(h0, .inr (1, [.ref vt])), (vt, .inr (2, [.ref vf, .ref vv])), (vf, .inl (cJ, 1024, .inr (.inl fm))), (vv, .inl (cI, 1024, .inl vl))] s.heap.size = A at hD ⊢
  have hA : ∀ q : Nat, s.heap.size ≤ q → A q := fun q h => by rw [← hAe]; exact Or.inr h
  have hS : va_S A s.heap s.heap [] := va_S.rf
  have hl := lv_entry ([.ref h0, .long a, .long b, .int 1]) (n := 10) (Nat.le_of_ble_eq_true rfl)
  rw [lg_entry_eq]
  generalize (lg_sl ([.ref h0, .long a, .long b, .int 1]) ++ List.replicate (10 - (lg_sl ([.ref h0, .long a, .long b, .int 1])).length) Slot.unset).toArray = ls at hl ⊢
  have hl : lv_has ls 10 [(0, .ref h0), (1, .long a), (3, .long b), (5, .int 1)] := hl
  refine lv_bipush (v := (-2)) hx hb dX3_lowestBestTurn_0 (by decide) ?_
  refine lv_istore (lv' := [(6, .int (-2)), (0, .ref h0), (1, .long a), (3, .long b), (5, .int 1)]) hx hb dX3_lowestBestTurn_2 hl (by decide) rfl (fun ls hl => ?_)
  refine lv_iconst (v := 0) hx hb dX3_lowestBestTurn_4 (by decide) ?_
  refine lv_istore (lv' := [(7, .int 0), (6, .int (-2)), (0, .ref h0), (1, .long a), (3, .long b), (5, .int 1)]) hx hb dX3_lowestBestTurn_5 hl (by decide) rfl (fun ls hl => ?_)
  refine lv_iconst (v := 0) hx hb dX3_lowestBestTurn_7 (by decide) ?_
  refine lv_istore (lv' := [(8, .int 0), (7, .int 0), (6, .int (-2)), (0, .ref h0), (1, .long a), (3, .long b), (5, .int 1)]) hx hb dX3_lowestBestTurn_8 hl (by decide) rfl (fun ls hl => ?_)
  have loop10 : ∀ (nn i10 : Nat), i10 + nn = 8 → ∀ (fm10 : Nat → Int64) (vl10 : Nat → Int32) (hT10 : TI fm10 vl10) (H : Heap) (locs : List Loc), va_P D vwCl [(h0, .inr (1, [.ref vt])), (vt, .inr (2, [.ref vf, .ref vv])), (vf, .inl (cJ, 1024, .inr (.inl fm10))), (vv, .inl (cI, 1024, .inl vl10))] H → va_D A [(h0, .inr (1, [.ref vt])), (vt, .inr (2, [.ref vf, .ref vv])), (vf, .inl (cJ, 1024, .inr (.inl fm10))), (vv, .inl (cI, 1024, .inl vl10))] → va_S A s.heap H locs → ∀ ls, lv_has ls 10 [(8, .int (nI i10)), (6, .int (tlow (vput 1) a b i10).1), (7, .int (nI (tlow (vput 1) a b i10).2)), (0, .ref h0), (1, .long a), (3, .long b), (5, .int 1)] → W p l e (headSpec wsX3_lowestBestTurn ({ frames := 7, cells := 0, slots := 0, locals := 202 } : Room)).room s m ([.ref h0, .long a, .long b, .int 1] : List Value).toArray below meth c H locs 0 0 (MQ below (va_Qi (fun (r : Int32) (u : (Nat → Int64) × (Nat → Int32)) => r = nI (tlow (vput 1) a b 8).2 ∧ TI u.1 u.2) (fun (u : (Nat → Int64) × (Nat → Int32)) => pv_B D cI cJ (A) [(h0, .inr (1, [.ref vt])), (vt, .inr (2, [.ref vf, .ref vv])), (vf, .inl (cJ, 1024, .inr (.inl u.1))), (vv, .inl (cI, 1024, .inl u.2))]) (A)) ([.ref h0, .long a, .long b, .int 1] : List Value).toArray s 0 0 A) (F0 m 10 ls []) := by
    intro nn
    induction nn with
    | zero =>
      intro i10 hi10 fm10 vl10 hT10 H locs hP hD hS ls hl
      obtain rfl : i10 = 8 := by omega
      refine lv_iload hx hb dX3_lowestBestTurn_10 (lv_at hl 0 rfl) ?_
      refine lv_bipush (v := 8) hx hb dX3_lowestBestTurn_12 (by decide) ?_
      refine lv_icmp_ge (tgt := 56) hx hb dX3_lowestBestTurn_14 (by decide) (fun c14 => ?_) (fun c14 => ?_)
      · have c14 : 8 ≤ 8 := (nq_le (a := 8) (b := 8) (by omega) (by omega)).mp c14
        refine lv_iload hx hb dX3_lowestBestTurn_56 (lv_at hl 2 rfl) ?_
        refine W.iret (v := (nI (tlow (vput 1) a b 8).2)) hx hb hr (fun tt ht hW => ⟨⟨(nI (tlow (vput 1) a b 8).2), (fm10, vl10), rfl, ?_, by rw [ht]; exact hP, va_K.moved hW.alike hK, hD⟩, hS.F ht⟩) hS.2.2 dX3_lowestBestTurn_58
        exact ⟨by { exact rfl }, hT10⟩
      · have c14 : ¬ 8 ≤ 8 := _root_.mt (nq_le (a := 8) (b := 8) (by omega) (by omega)).mpr c14
        omega
    | succ nn ih10 =>
      intro i10 hi10 fm10 vl10 hT10 H locs hP hD hS ls hl
      refine lv_iload hx hb dX3_lowestBestTurn_10 (lv_at hl 0 rfl) ?_
      refine lv_bipush (v := 8) hx hb dX3_lowestBestTurn_12 (by decide) ?_
      refine lv_icmp_ge (tgt := 56) hx hb dX3_lowestBestTurn_14 (by decide) (fun c14 => ?_) (fun c14 => ?_)
      · have c14 : 8 ≤ i10 := (nq_le (a := 8) (b := i10) (by omega) (by omega)).mp c14
        omega
      · have c14 : ¬ 8 ≤ i10 := _root_.mt (nq_le (a := 8) (b := i10) (by omega) (by omega)).mpr c14
        refine lv_iload hx hb dX3_lowestBestTurn_17 (lv_at hl 1 rfl) ?_
        refine lv_iconst (v := 1) hx hb dX3_lowestBestTurn_19 (by decide) ?_
        refine lv_icmp_ge (tgt := 56) hx hb dX3_lowestBestTurn_20 (by decide) (fun c20 => ?_) (fun c20 => ?_)
        · refine lv_iload hx hb dX3_lowestBestTurn_56 (lv_at hl 2 rfl) ?_
          refine W.iret (v := (nI (tlow (vput 1) a b i10).2)) hx hb hr (fun tt ht hW => ⟨⟨(nI (tlow (vput 1) a b i10).2), (fm10, vl10), rfl, ?_, by rw [ht]; exact hP, va_K.moved hW.alike hK, hD⟩, hS.F ht⟩) hS.2.2 dX3_lowestBestTurn_58
          exact ⟨by { rw [stopT c20 (by omega)] }, hT10⟩
        · refine lv_aload_n hx hb dX3_lowestBestTurn_23 rfl (lv_at hl 3 rfl) ?_
          refine lv_lload_n hx hb dX3_lowestBestTurn_24 rfl (lv_at hl 4 rfl) ?_
          refine lv_lload_n hx hb dX3_lowestBestTurn_25 rfl (lv_at hl 5 rfl) ?_
          refine lv_iload hx hb dX3_lowestBestTurn_26 (lv_at hl 0 rfl) ?_
          refine lv_iload hx hb dX3_lowestBestTurn_28 (lv_at hl 6 rfl) ?_
          have hPc := hP.sub (ws' := [(h0, .inr (1, [.ref vt])), (vt, .inr (2, [.ref vf, .ref vv])), (vf, .inl (cJ, 1024, .inr (.inl fm10))), (vv, .inl (cI, 1024, .inl vl10))]) [0, 1, 2, 3] rfl
          have hDc := hD.sub (ws' := [(h0, .inr (1, [.ref vt])), (vt, .inr (2, [.ref vf, .ref vv])), (vf, .inl (cJ, 1024, .inr (.inl fm10))), (vv, .inl (cI, 1024, .inl vl10))]) [0, 1, 2, 3] (by decide) rfl
          have hFc := va_free (wc := [(h0, .inr (1, [.ref vt])), (vt, .inr (2, [.ref vf, .ref vv])), (vf, .inl (cJ, 1024, .inr (.inl fm10))), (vv, .inl (cI, 1024, .inl vl10))]) hD hS hA [0, 1, 2, 3] rfl
          refine va_calli (va_runV (As := [.long a, .long b, .int (nI i10), .int 1]) (rest := []) ⟨hx, hb, hml, hown, hts⟩ (c_X3_valueBehindTurn_f1 l D cI cJ H.size  h0 vt vf vv fm10 vl10 hT10 a b i10 (by omega) hB) (cwV 4 hts gX3_lowestBestTurn_X3_valueBehindTurn rfl rfl rfl (by decide +kernel) ⟨Nat.le_of_ble_eq_true rfl, Nat.le_of_ble_eq_true rfl⟩) ⟨(px_blindE pv_blind), va_recv hK hPc (ci := 1) (q0 := 0) rfl rfl, fun U hU hW => ⟨rfl, hEN.warm hW, by rw [hU], by rw [hU]; exact hPc, va_K.moved hW.alike hK, hDc.weaken (fun _ _ _ _ => trivial)⟩⟩ rfl rfl hl.1 rfl (lv_room (Nat.le_of_ble_eq_true rfl)) dX3_lowestBestTurn_30 ⟨(Nat.le_of_ble_eq_true rfl), (Nat.le_of_ble_eq_true rfl)⟩) hS (fun q _ h => hFc q h) hFc (fun r30 u t9 H1 locs hth hvm hw30 hB hz1 hk1 hS => ?_)
          obtain ⟨fm30, vl30⟩ := u
          try dsimp only at hw30
          obtain ⟨hP1, hK1, hD1⟩ := hB
          rw [hth] at hP1
          obtain ⟨hP, hD⟩ := va_join (wr := []) (w1 := [(h0, .inr (1, [.ref vt])), (vt, .inr (2, [.ref vf, .ref vv])), (vf, .inl (cJ, 1024, .inr (.inl fm30))), (vv, .inl (cI, 1024, .inl vl30))]) hP hD [0, 1, 2, 3] [] rfl rfl (by decide) (by decide) hk1 hFc hP1 hD1
          generalize H1 = H at hP hS ⊢
          have hP : va_P D vwCl [(h0, .inr (1, [.ref vt])), (vt, .inr (2, [.ref vf, .ref vv])), (vf, .inl (cJ, 1024, .inr (.inl fm30))), (vv, .inl (cI, 1024, .inl vl30))] H := hP.sub (ws' := [(h0, .inr (1, [.ref vt])), (vt, .inr (2, [.ref vf, .ref vv])), (vf, .inl (cJ, 1024, .inr (.inl fm30))), (vv, .inl (cI, 1024, .inl vl30))]) [0, 1, 2, 3] rfl
          have hD : va_D A [(h0, .inr (1, [.ref vt])), (vt, .inr (2, [.ref vf, .ref vv])), (vf, .inl (cJ, 1024, .inr (.inl fm30))), (vv, .inl (cI, 1024, .inl vl30))] := hD.sub (ws' := [(h0, .inr (1, [.ref vt])), (vt, .inr (2, [.ref vf, .ref vv])), (vf, .inl (cJ, 1024, .inr (.inl fm30))), (vv, .inl (cI, 1024, .inl vl30))]) [0, 1, 2, 3] (by decide) rfl
          obtain ⟨hv9, hT30⟩ := hw30
          obtain rfl := hv9.symm
          refine lv_istore (lv' := [(9, .int (vbehind (vput 1) a b i10)), (8, .int (nI i10)), (6, .int (tlow (vput 1) a b i10).1), (7, .int (nI (tlow (vput 1) a b i10).2)), (0, .ref h0), (1, .long a), (3, .long b), (5, .int 1)]) hx hb dX3_lowestBestTurn_33 hl (by decide) rfl (fun ls hl => ?_)
          refine lv_iload hx hb dX3_lowestBestTurn_35 (lv_at hl 0 rfl) ?_
          refine lv_iload hx hb dX3_lowestBestTurn_37 (lv_at hl 2 rfl) ?_
          refine lv_icmp_le (tgt := 50) hx hb dX3_lowestBestTurn_39 (by decide) (fun c39 => ?_) (fun c39 => ?_)
          · refine lv_iinc (v := nI (i10 + 1)) (lv' := [(8, .int (nI (i10 + 1))), (9, .int (vbehind (vput 1) a b i10)), (6, .int (tlow (vput 1) a b i10).1), (7, .int (nI (tlow (vput 1) a b i10).2)), (0, .ref h0), (1, .long a), (3, .long b), (5, .int 1)]) hx hb dX3_lowestBestTurn_50 hl (k := 1) rfl (nI_add i10 1) (by decide) rfl (fun ls hl => ?_)
            refine lv_goto (tgt := 10) hx hb dX3_lowestBestTurn_53 (by decide) ?_
            exact ih10 (i10 + 1) (by omega) _ _ hT30 _ _ hP hD hS ls (by { have e9 : ((tlow (vput 1) a b i10).1 : Int32) = (tlow (vput 1) a b (i10 + 1)).1 := by { skip; exact (congrArg Prod.fst (tlow_b c20 c39)).symm }; rw [← e9]; have e9 : ((nI (tlow (vput 1) a b i10).2) : Int32) = (nI (tlow (vput 1) a b (i10 + 1)).2) := by { skip; exact (congrArg (fun q => nI q.2) (tlow_b c20 c39)).symm }; rw [← e9]; exact lv_sub hl [0, 2, 3, 4, 5, 6, 7] rfl })
          · refine lv_iload hx hb dX3_lowestBestTurn_42 (lv_at hl 0 rfl) ?_
            refine lv_istore (lv' := [(6, .int (vbehind (vput 1) a b i10)), (9, .int (vbehind (vput 1) a b i10)), (8, .int (nI i10)), (7, .int (nI (tlow (vput 1) a b i10).2)), (0, .ref h0), (1, .long a), (3, .long b), (5, .int 1)]) hx hb dX3_lowestBestTurn_44 hl (by decide) rfl (fun ls hl => ?_)
            refine lv_iload hx hb dX3_lowestBestTurn_46 (lv_at hl 2 rfl) ?_
            refine lv_istore (lv' := [(7, .int (nI i10)), (6, .int (vbehind (vput 1) a b i10)), (9, .int (vbehind (vput 1) a b i10)), (8, .int (nI i10)), (0, .ref h0), (1, .long a), (3, .long b), (5, .int 1)]) hx hb dX3_lowestBestTurn_48 hl (by decide) rfl (fun ls hl => ?_)
            refine lv_iinc (v := nI (i10 + 1)) (lv' := [(8, .int (nI (i10 + 1))), (7, .int (nI i10)), (6, .int (vbehind (vput 1) a b i10)), (9, .int (vbehind (vput 1) a b i10)), (0, .ref h0), (1, .long a), (3, .long b), (5, .int 1)]) hx hb dX3_lowestBestTurn_50 hl (k := 3) rfl (nI_add i10 1) (by decide) rfl (fun ls hl => ?_)
            refine lv_goto (tgt := 10) hx hb dX3_lowestBestTurn_53 (by decide) ?_
            exact ih10 (i10 + 1) (by omega) _ _ hT30 _ _ hP hD hS ls (by { have e9 : ((vbehind (vput 1) a b i10) : Int32) = (tlow (vput 1) a b (i10 + 1)).1 := by { skip; exact (congrArg Prod.fst (tlow_a c20 c39)).symm }; rw [← e9]; have e9 : ((nI i10) : Int32) = (nI (tlow (vput 1) a b (i10 + 1)).2) := by { skip; exact (congrArg (fun q => nI q.2) (tlow_a c20 c39)).symm }; rw [← e9]; exact lv_sub hl [0, 2, 1, 4, 5, 6, 7] rfl })
  exact loop10 8 0 (by omega) _ _ hT _ _ hP hD hS ls (lv_sub hl [0, 2, 1, 3, 4, 5, 6] rfl)

set_option maxHeartbeats 400000 in
set_option maxRecDepth 100000 in
theorem c_X3_playMarbles_f2 (l : Launch) (D : va_G) (cI cJ : ClassId) (sz : Nat) (h0 vt vf vv : Nat) (fm : Nat → Int64) (vl : Nat → Int32) (hT : TI fm vl) (a b : Int64)  (hB : BV 2 a b) : Met l yX3_playMarbles wsX3_playMarbles ({ frames := 8, cells := 0, slots := 0, locals := 229 } : Room) (va_Pc [.ref h0, .long a, .long b, .int 2] (px_E (pv_C D cI cJ [(h0, .inr (1, [.ref vt])), (vt, .inr (2, [.ref vf, .ref vv])), (vf, .inl (cJ, 1024, .inr (.inl fm))), (vv, .inl (cI, 1024, .inl vl))] sz))) (va_Qi (fun (r : Int32) (u : (Nat → Int64) × (Nat → Int32)) => r = vput 2 a b ∧ TI u.1 u.2) (fun (u : (Nat → Int64) × (Nat → Int32)) => pv_B D cI cJ (va_A [(h0, .inr (1, [.ref vt])), (vt, .inr (2, [.ref vf, .ref vv])), (vf, .inl (cJ, 1024, .inr (.inl fm))), (vv, .inl (cI, 1024, .inl vl))] sz) [(h0, .inr (1, [.ref vt])), (vt, .inr (2, [.ref vf, .ref vv])), (vf, .inl (cJ, 1024, .inr (.inl u.1))), (vv, .inl (cI, 1024, .inl u.2))]) (va_A [(h0, .inr (1, [.ref vt])), (vt, .inr (2, [.ref vf, .ref vv])), (vf, .inl (cJ, 1024, .inr (.inl fm))), (vv, .inl (cI, 1024, .inl vl))] sz)) 0 0 (va_A [(h0, .inr (1, [.ref vt])), (vt, .inr (2, [.ref vf, .ref vv])), (vf, .inl (cJ, 1024, .inr (.inl fm))), (vv, .inl (cI, 1024, .inl vl))] sz) := by
  refine Met.ofW (cc := cX3_playMarbles) (maxL := 11) (ret := (some .int)) (by decide) rfl ?_
  intro p e s m args below meth c s₁ B hml hv
  obtain ⟨rfl, hEN, rfl, hP, hK, hD0⟩ := hv
  have hx := B.exec
  have hb := B.bytes
  have hr := B.returns
  have hts := atoms_spec (ws := wsX3_playMarbles) B.pre
  have hown : s.vm.findClass RX3 = some m.cls := findClass_of_methodNamed B.named
  have hlocks := B.notSynchronized
  have hD := hD0.self (sz := s.heap.size)
  generalize hAe : va_A [(h0, .inr (1, [.ref vt])), (vt, .inr (2, [.ref vf, .ref vv])), (vf, .inl (cJ, 1024, .inr (.inl fm))), (vv, .inl (cI, 1024, .inl vl))] s.heap.size = A at hD ⊢
  have hA : ∀ q : Nat, s.heap.size ≤ q → A q := fun q h => by rw [← hAe]; exact Or.inr h
  have hS : va_S A s.heap s.heap [] := va_S.rf
  have hnest54 : va_Nw (.methodLinkNest RX3 54 yX6_bitOf RX6) s := hEN.1
  have hiniX6 : (Cond.initialized (yX6_bitOf).cls).before ([.ref h0, .long a, .long b, .int 2] : List Value).toArray s = true := hts (.initialized RX6) (by decide +kernel)
  have hmx0 : (Cond.methodLink RX3 48 Lib.Math.max.name).before ([.ref h0, .long a, .long b, .int 2] : List Value).toArray s = true := hts _ (by decide +kernel)
  have hmx1 : (Cond.static Lib.Math.max.name).before ([.ref h0, .long a, .long b, .int 2] : List Value).toArray s = true := hts _ (by decide +kernel)
  have hmx2 : (Cond.initialized "java/lang/Math").before ([.ref h0, .long a, .long b, .int 2] : List Value).toArray s = true := hts _ (by decide +kernel)
  have hmx3 : (Cond.code Lib.Math.max.name Lib.Math.max.code 2 (some .int)).before ([.ref h0, .long a, .long b, .int 2] : List Value).toArray s = true := hts _ (by decide +kernel)
  have hl := lv_entry ([.ref h0, .long a, .long b, .int 2]) (n := 11) (Nat.le_of_ble_eq_true rfl)
  rw [lg_entry_eq]
  generalize (lg_sl ([.ref h0, .long a, .long b, .int 2]) ++ List.replicate (11 - (lg_sl ([.ref h0, .long a, .long b, .int 2])).length) Slot.unset).toArray = ls at hl ⊢
  have hl : lv_has ls 11 [(0, .ref h0), (1, .long a), (3, .long b), (5, .int 2)] := hl
  refine lv_iconst (v := (-1)) hx hb dX3_playMarbles_0 (by decide) ?_
  refine lv_istore (lv' := [(6, .int (-1)), (0, .ref h0), (1, .long a), (3, .long b), (5, .int 2)]) hx hb dX3_playMarbles_1 hl (by decide) rfl (fun ls hl => ?_)
  refine lv_iconst (v := 0) hx hb dX3_playMarbles_3 (by decide) ?_
  refine lv_istore (lv' := [(7, .int 0), (6, .int (-1)), (0, .ref h0), (1, .long a), (3, .long b), (5, .int 2)]) hx hb dX3_playMarbles_4 hl (by decide) rfl (fun ls hl => ?_)
  have loop6 : ∀ (nn i6 : Nat), i6 + nn = 36 → ∀ (fm6 : Nat → Int64) (vl6 : Nat → Int32) (hT6 : TI fm6 vl6) (H : Heap) (locs : List Loc), va_P D vwCl [(h0, .inr (1, [.ref vt])), (vt, .inr (2, [.ref vf, .ref vv])), (vf, .inl (cJ, 1024, .inr (.inl fm6))), (vv, .inl (cI, 1024, .inl vl6))] H → va_D A [(h0, .inr (1, [.ref vt])), (vt, .inr (2, [.ref vf, .ref vv])), (vf, .inl (cJ, 1024, .inr (.inl fm6))), (vv, .inl (cI, 1024, .inl vl6))] → va_S A s.heap H locs → ∀ ls, lv_has ls 11 [(7, .int (nI i6)), (6, .int (vplay (vput 1) a b i6)), (0, .ref h0), (1, .long a), (3, .long b), (5, .int 2)] → W p l e (headSpec wsX3_playMarbles ({ frames := 8, cells := 0, slots := 0, locals := 229 } : Room)).room s m ([.ref h0, .long a, .long b, .int 2] : List Value).toArray below meth c H locs 0 0 (MQ below (va_Qi (fun (r : Int32) (u : (Nat → Int64) × (Nat → Int32)) => r = vput 2 a b ∧ TI u.1 u.2) (fun (u : (Nat → Int64) × (Nat → Int32)) => pv_B D cI cJ (A) [(h0, .inr (1, [.ref vt])), (vt, .inr (2, [.ref vf, .ref vv])), (vf, .inl (cJ, 1024, .inr (.inl u.1))), (vv, .inl (cI, 1024, .inl u.2))]) (A)) ([.ref h0, .long a, .long b, .int 2] : List Value).toArray s 0 0 A) (F0 m 6 ls []) := by
    intro nn
    induction nn with
    | zero =>
      intro i6 hi6 fm6 vl6 hT6 H locs hP hD hS ls hl
      obtain rfl : i6 = 36 := by omega
      refine lv_iload hx hb dX3_playMarbles_6 (lv_at hl 0 rfl) ?_
      refine lv_bipush (v := 36) hx hb dX3_playMarbles_8 (by decide) ?_
      refine lv_icmp_ge (tgt := 81) hx hb dX3_playMarbles_10 (by decide) (fun c10 => ?_) (fun c10 => ?_)
      · have c10 : 36 ≤ 36 := (nq_le (a := 36) (b := 36) (by omega) (by omega)).mp c10
        refine lv_iload hx hb dX3_playMarbles_81 (lv_at hl 1 rfl) ?_
        refine W.iret (v := (vplay (vput 1) a b 36)) hx hb hr (fun tt ht hW => ⟨⟨(vplay (vput 1) a b 36), (fm6, vl6), rfl, ?_, by rw [ht]; exact hP, va_K.moved hW.alike hK, hD⟩, hS.F ht⟩) hS.2.2 dX3_playMarbles_83
        exact ⟨by { exact rfl }, hT6⟩
      · have c10 : ¬ 36 ≤ 36 := _root_.mt (nq_le (a := 36) (b := 36) (by omega) (by omega)).mpr c10
        omega
    | succ nn ih6 =>
      intro i6 hi6 fm6 vl6 hT6 H locs hP hD hS ls hl
      refine lv_iload hx hb dX3_playMarbles_6 (lv_at hl 0 rfl) ?_
      refine lv_bipush (v := 36) hx hb dX3_playMarbles_8 (by decide) ?_
      refine lv_icmp_ge (tgt := 81) hx hb dX3_playMarbles_10 (by decide) (fun c10 => ?_) (fun c10 => ?_)
      · have c10 : 36 ≤ i6 := (nq_le (a := 36) (b := i6) (by omega) (by omega)).mp c10
        omega
      · have c10 : ¬ 36 ≤ i6 := _root_.mt (nq_le (a := 36) (b := i6) (by omega) (by omega)).mpr c10
        refine lv_iload hx hb dX3_playMarbles_13 (lv_at hl 1 rfl) ?_
        refine lv_iconst (v := 1) hx hb dX3_playMarbles_15 (by decide) ?_
        refine lv_icmp_ge (tgt := 81) hx hb dX3_playMarbles_16 (by decide) (fun c16 => ?_) (fun c16 => ?_)
        · refine lv_iload hx hb dX3_playMarbles_81 (lv_at hl 1 rfl) ?_
          refine W.iret (v := (vplay (vput 1) a b i6)) hx hb hr (fun tt ht hW => ⟨⟨(vplay (vput 1) a b i6), (fm6, vl6), rfl, ?_, by rw [ht]; exact hP, va_K.moved hW.alike hK, hD⟩, hS.F ht⟩) hS.2.2 dX3_playMarbles_83
          exact ⟨by { exact stop36 c16 (by omega) }, hT6⟩
        · refine lv_iload hx hb dX3_playMarbles_19 (lv_at hl 0 rfl) ?_
          refine vp_callSl (va_Run.run (va_runSN (As := [.int (nI i6)]) (rest := []) ⟨hx, hb, hml, hown, hts⟩ (c_X6_bitOf l (nI i6)) ⟨va_cnB 1 hts gX3_playMarbles_X6_bitOf_n54 rfl rfl rfl hnest54 hiniX6 (by decide +kernel) ⟨Nat.le_of_ble_eq_true rfl, Nat.le_of_ble_eq_true rfl⟩, hts _ (by decide +kernel), trivial⟩ ⟨px_blind0, fun U hU hW => ⟨rfl, trivial⟩⟩ rfl rfl hl.1 rfl (lv_room (Nat.le_of_ble_eq_true rfl)) dX3_playMarbles_21 ⟨(Nat.le_of_ble_eq_true rfl), (Nat.le_of_ble_eq_true rfl)⟩)) (fun r21 er21 => ?_)
          obtain rfl := er21.symm
          refine lv_lstore (lv' := [(8, .long (jshl 1 (nI i6))), (7, .int (nI i6)), (6, .int (vplay (vput 1) a b i6)), (0, .ref h0), (1, .long a), (3, .long b), (5, .int 2)]) hx hb dX3_playMarbles_24 hl (by decide) rfl (fun ls hl => ?_)
          refine lv_lload_n hx hb dX3_playMarbles_26 rfl (lv_at hl 4 rfl) ?_
          refine lv_lload_n hx hb dX3_playMarbles_27 rfl (lv_at hl 5 rfl) ?_
          refine lv_lor hx hb dX3_playMarbles_28 ?_
          refine lv_topl (fun x28 ex28 => ?_)
          refine lv_lload hx hb dX3_playMarbles_29 (lv_at hl 0 rfl) ?_
          refine lv_land hx hb dX3_playMarbles_31 ?_
          refine lv_topl (fun x31 ex31 => ?_)
          refine lv_lconst (v := 0) hx hb dX3_playMarbles_32 (by decide) ?_
          refine W.lcmp hx hb dX3_playMarbles_33 ?_
          refine lv_if_ne (tgt := 75) hx hb dX3_playMarbles_34 (by decide) (fun c34 => ?_) (fun c34 => ?_)
          · rw [lg_cmp_eq] at c34
            refine lv_iinc (v := nI (i6 + 1)) (lv' := [(7, .int (nI (i6 + 1))), (8, .long (jshl 1 (nI i6))), (6, .int (vplay (vput 1) a b i6)), (0, .ref h0), (1, .long a), (3, .long b), (5, .int 2)]) hx hb dX3_playMarbles_75 hl (k := 1) rfl (nI_add i6 1) (by decide) rfl (fun ls hl => ?_)
            refine lv_goto (tgt := 6) hx hb dX3_playMarbles_78 (by decide) ?_
            exact ih6 (i6 + 1) (by omega) _ _ hT6 _ _ hP hD hS ls (by { have e9 : ((vplay (vput 1) a b i6) : Int32) = (vplay (vput 1) a b (i6 + 1)) := by { obtain rfl := ex28.symm; obtain rfl := ex31.symm; exact vplay_a c16 c34 }; rw [← e9]; exact lv_sub hl [0, 2, 3, 4, 5, 6] rfl })
          · rw [lg_cmp_eq] at c34
            refine lv_lload_n hx hb dX3_playMarbles_37 rfl (lv_at hl 4 rfl) ?_
            refine lv_lload hx hb dX3_playMarbles_38 (lv_at hl 0 rfl) ?_
            refine lv_lor hx hb dX3_playMarbles_40 ?_
            refine lv_topl (fun x40 ex40 => ?_)
            refine vp_callSi (W.runS (As := [.long x40]) (rest := []) ⟨hx, hb, hml, hown, hts⟩ (c_X1_hasLine l x40) (va_cwS 1 hts gX3_playMarbles_X1_hasLine rfl rfl rfl (by decide +kernel) ⟨Nat.le_of_ble_eq_true rfl, Nat.le_of_ble_eq_true rfl⟩) ⟨px_blind0, fun U hU hW => ⟨rfl, trivial⟩⟩ rfl rfl hl.1 rfl (lv_room (Nat.le_of_ble_eq_true rfl)) dX3_playMarbles_41 ⟨(Nat.le_of_ble_eq_true rfl), (Nat.le_of_ble_eq_true rfl)⟩) (fun r41 er41 => ?_)
            obtain rfl := er41.symm
            refine pk_b (P := cline x40 = true) (fun b41 => ?_) (fun b41 => ?_)
            · refine lv_if_eq (tgt := 51) hx hb dX3_playMarbles_44 (by decide) (fun c44 => ?_) (fun c44 => ?_)
              · exact absurd c44 (by decide)
              · refine lv_iconst (v := 1) hx hb dX3_playMarbles_47 (by decide) ?_
                refine lv_goto (tgt := 64) hx hb dX3_playMarbles_48 (by decide) ?_
                refine lv_istore (lv' := [(10, .int 1), (8, .long (jshl 1 (nI i6))), (7, .int (nI i6)), (6, .int (vplay (vput 1) a b i6)), (0, .ref h0), (1, .long a), (3, .long b), (5, .int 2)]) hx hb dX3_playMarbles_64 hl (by decide) rfl (fun ls hl => ?_)
                refine lv_iload hx hb dX3_playMarbles_66 (lv_at hl 3 rfl) ?_
                refine lv_iload hx hb dX3_playMarbles_68 (lv_at hl 0 rfl) ?_
                refine va_mmax hx hb (by rw [hml]; exact hl.1.symm) hown hmx0 hmx1 hmx2 hmx3 (by decide) (Nat.le_of_ble_eq_true rfl) (Nat.le_of_ble_eq_true rfl) (Nat.le_of_ble_eq_true rfl) dX3_playMarbles_70 ?_
                refine lv_topi (fun x70 ex70 => ?_)
                refine lv_istore (lv' := [(6, .int x70), (10, .int 1), (8, .long (jshl 1 (nI i6))), (7, .int (nI i6)), (0, .ref h0), (1, .long a), (3, .long b), (5, .int 2)]) hx hb dX3_playMarbles_73 hl (by decide) rfl (fun ls hl => ?_)
                refine lv_iinc (v := nI (i6 + 1)) (lv' := [(7, .int (nI (i6 + 1))), (6, .int x70), (10, .int 1), (8, .long (jshl 1 (nI i6))), (0, .ref h0), (1, .long a), (3, .long b), (5, .int 2)]) hx hb dX3_playMarbles_75 hl (k := 3) rfl (nI_add i6 1) (by decide) rfl (fun ls hl => ?_)
                refine lv_goto (tgt := 6) hx hb dX3_playMarbles_78 (by decide) ?_
                exact ih6 (i6 + 1) (by omega) _ _ hT6 _ _ hP hD hS ls (by { have e9 : (x70 : Int32) = (vplay (vput 1) a b (i6 + 1)) := by { obtain rfl := ex28.symm; obtain rfl := ex31.symm; obtain rfl := ex40.symm; obtain rfl := ex70.symm; exact vplay_c c16 c34 (vcell_1 b41) }; rw [← e9]; exact lv_sub hl [0, 1, 4, 5, 6, 7] rfl })
            · refine lv_if_eq (tgt := 51) hx hb dX3_playMarbles_44 (by decide) (fun c44 => ?_) (fun c44 => ?_)
              · refine lv_aload_n hx hb dX3_playMarbles_51 rfl (lv_at hl 3 rfl) ?_
                refine lv_lload_n hx hb dX3_playMarbles_52 rfl (lv_at hl 4 rfl) ?_
                refine lv_lload hx hb dX3_playMarbles_53 (lv_at hl 0 rfl) ?_
                refine lv_lor hx hb dX3_playMarbles_55 ?_
                refine lv_topl (fun x55 ex55 => ?_)
                refine lv_lload_n hx hb dX3_playMarbles_56 rfl (lv_at hl 5 rfl) ?_
                refine lv_iload hx hb dX3_playMarbles_57 (lv_at hl 6 rfl) ?_
                refine lv_iconst (v := 1) hx hb dX3_playMarbles_59 (by decide) ?_
                refine lv_isub hx hb dX3_playMarbles_60 ?_
                refine pk_ti (y := nI 1) (by decide) ?_
                have hPc := hP.sub (ws' := [(h0, .inr (1, [.ref vt])), (vt, .inr (2, [.ref vf, .ref vv])), (vf, .inl (cJ, 1024, .inr (.inl fm6))), (vv, .inl (cI, 1024, .inl vl6))]) [0, 1, 2, 3] rfl
                have hDc := hD.sub (ws' := [(h0, .inr (1, [.ref vt])), (vt, .inr (2, [.ref vf, .ref vv])), (vf, .inl (cJ, 1024, .inr (.inl fm6))), (vv, .inl (cI, 1024, .inl vl6))]) [0, 1, 2, 3] (by decide) rfl
                have hFc := va_free (wc := [(h0, .inr (1, [.ref vt])), (vt, .inr (2, [.ref vf, .ref vv])), (vf, .inl (cJ, 1024, .inr (.inl fm6))), (vv, .inl (cI, 1024, .inl vl6))]) hD hS hA [0, 1, 2, 3] rfl
                refine va_calli (va_runV (As := [.long x55, .long b, .int (nI 1)]) (rest := []) ⟨hx, hb, hml, hown, hts⟩ (c_X3_valueToTurn_f1 l D cI cJ H.size  h0 vt vf vv fm6 vl6 hT6 x55 b (by obtain rfl := ex28.symm; obtain rfl := ex31.symm; obtain rfl := ex40.symm; obtain rfl := ex55.symm; exact bv_put hB (by omega) c34)) (cwV 3 hts gX3_playMarbles_X3_valueToTurn rfl rfl rfl (by decide +kernel) ⟨Nat.le_of_ble_eq_true rfl, Nat.le_of_ble_eq_true rfl⟩) ⟨(px_blindE pv_blind), va_recv hK hPc (ci := 1) (q0 := 0) rfl rfl, fun U hU hW => ⟨rfl, hEN.warm hW, by rw [hU], by rw [hU]; exact hPc, va_K.moved hW.alike hK, hDc.weaken (fun _ _ _ _ => trivial)⟩⟩ rfl rfl hl.1 rfl (lv_room (Nat.le_of_ble_eq_true rfl)) dX3_playMarbles_61 ⟨(Nat.le_of_ble_eq_true rfl), (Nat.le_of_ble_eq_true rfl)⟩) hS (fun q _ h => hFc q h) hFc (fun r61 u t9 H1 locs hth hvm hw61 hB hz1 hk1 hS => ?_)
                obtain ⟨fm61, vl61⟩ := u
                try dsimp only at hw61
                obtain ⟨hP1, hK1, hD1⟩ := hB
                rw [hth] at hP1
                obtain ⟨hP, hD⟩ := va_join (wr := []) (w1 := [(h0, .inr (1, [.ref vt])), (vt, .inr (2, [.ref vf, .ref vv])), (vf, .inl (cJ, 1024, .inr (.inl fm61))), (vv, .inl (cI, 1024, .inl vl61))]) hP hD [0, 1, 2, 3] [] rfl rfl (by decide) (by decide) hk1 hFc hP1 hD1
                generalize H1 = H at hP hS ⊢
                have hP : va_P D vwCl [(h0, .inr (1, [.ref vt])), (vt, .inr (2, [.ref vf, .ref vv])), (vf, .inl (cJ, 1024, .inr (.inl fm61))), (vv, .inl (cI, 1024, .inl vl61))] H := hP.sub (ws' := [(h0, .inr (1, [.ref vt])), (vt, .inr (2, [.ref vf, .ref vv])), (vf, .inl (cJ, 1024, .inr (.inl fm61))), (vv, .inl (cI, 1024, .inl vl61))]) [0, 1, 2, 3] rfl
                have hD : va_D A [(h0, .inr (1, [.ref vt])), (vt, .inr (2, [.ref vf, .ref vv])), (vf, .inl (cJ, 1024, .inr (.inl fm61))), (vv, .inl (cI, 1024, .inl vl61))] := hD.sub (ws' := [(h0, .inr (1, [.ref vt])), (vt, .inr (2, [.ref vf, .ref vv])), (vf, .inl (cJ, 1024, .inr (.inl fm61))), (vv, .inl (cI, 1024, .inl vl61))]) [0, 1, 2, 3] (by decide) rfl
                obtain ⟨hv9, hT61⟩ := hw61
                obtain rfl := hv9.symm
                refine lv_istore (lv' := [(10, .int (vturn (vput 1) x55 b 8)), (8, .long (jshl 1 (nI i6))), (7, .int (nI i6)), (6, .int (vplay (vput 1) a b i6)), (0, .ref h0), (1, .long a), (3, .long b), (5, .int 2)]) hx hb dX3_playMarbles_64 hl (by decide) rfl (fun ls hl => ?_)
                refine lv_iload hx hb dX3_playMarbles_66 (lv_at hl 3 rfl) ?_
                refine lv_iload hx hb dX3_playMarbles_68 (lv_at hl 0 rfl) ?_
                refine va_mmax hx hb (by rw [hml]; exact hl.1.symm) hown hmx0 hmx1 hmx2 hmx3 (by decide) (Nat.le_of_ble_eq_true rfl) (Nat.le_of_ble_eq_true rfl) (Nat.le_of_ble_eq_true rfl) dX3_playMarbles_70 ?_
                refine lv_topi (fun x70 ex70 => ?_)
                refine lv_istore (lv' := [(6, .int x70), (10, .int (vturn (vput 1) x55 b 8)), (8, .long (jshl 1 (nI i6))), (7, .int (nI i6)), (0, .ref h0), (1, .long a), (3, .long b), (5, .int 2)]) hx hb dX3_playMarbles_73 hl (by decide) rfl (fun ls hl => ?_)
                refine lv_iinc (v := nI (i6 + 1)) (lv' := [(7, .int (nI (i6 + 1))), (6, .int x70), (10, .int (vturn (vput 1) x55 b 8)), (8, .long (jshl 1 (nI i6))), (0, .ref h0), (1, .long a), (3, .long b), (5, .int 2)]) hx hb dX3_playMarbles_75 hl (k := 3) rfl (nI_add i6 1) (by decide) rfl (fun ls hl => ?_)
                refine lv_goto (tgt := 6) hx hb dX3_playMarbles_78 (by decide) ?_
                exact ih6 (i6 + 1) (by omega) _ _ hT61 _ _ hP hD hS ls (by { have e9 : (x70 : Int32) = (vplay (vput 1) a b (i6 + 1)) := by { obtain rfl := ex28.symm; obtain rfl := ex31.symm; obtain rfl := ex40.symm; obtain rfl := ex55.symm; obtain rfl := ex70.symm; exact vplay_c c16 c34 (vcell_t b41) }; rw [← e9]; exact lv_sub hl [0, 1, 4, 5, 6, 7] rfl })
              · exact absurd c44 (by decide)
  exact loop6 36 0 (by omega) _ _ hT _ _ hP hD hS ls (lv_sub hl [0, 1, 2, 3, 4, 5] rfl)

set_option maxHeartbeats 400000 in
set_option maxRecDepth 100000 in
theorem c_X3_lowestBestMove_f2 (l : Launch) (D : va_G) (cI cJ : ClassId) (sz : Nat) (h0 vt vf vv : Nat) (fm : Nat → Int64) (vl : Nat → Int32) (hT : TI fm vl) (a b : Int64)  (hB : BV 2 a b) : Met l yX3_lowestBestMove wsX3_lowestBestMove ({ frames := 7, cells := 0, slots := 0, locals := 202 } : Room) (va_Pc [.ref h0, .long a, .long b, .int 2] (px_E (pv_C D cI cJ [(h0, .inr (1, [.ref vt])), (vt, .inr (2, [.ref vf, .ref vv])), (vf, .inl (cJ, 1024, .inr (.inl fm))), (vv, .inl (cI, 1024, .inl vl))] sz))) (va_Qi (fun (r : Int32) (u : (Nat → Int64) × (Nat → Int32)) => r = nI (mlow (vput 1) a b 288).2 ∧ TI u.1 u.2) (fun (u : (Nat → Int64) × (Nat → Int32)) => pv_B D cI cJ (va_A [(h0, .inr (1, [.ref vt])), (vt, .inr (2, [.ref vf, .ref vv])), (vf, .inl (cJ, 1024, .inr (.inl fm))), (vv, .inl (cI, 1024, .inl vl))] sz) [(h0, .inr (1, [.ref vt])), (vt, .inr (2, [.ref vf, .ref vv])), (vf, .inl (cJ, 1024, .inr (.inl u.1))), (vv, .inl (cI, 1024, .inl u.2))]) (va_A [(h0, .inr (1, [.ref vt])), (vt, .inr (2, [.ref vf, .ref vv])), (vf, .inl (cJ, 1024, .inr (.inl fm))), (vv, .inl (cI, 1024, .inl vl))] sz)) 0 0 (va_A [(h0, .inr (1, [.ref vt])), (vt, .inr (2, [.ref vf, .ref vv])), (vf, .inl (cJ, 1024, .inr (.inl fm))), (vv, .inl (cI, 1024, .inl vl))] sz) := by
  refine Met.ofW (cc := cX3_lowestBestMove) (maxL := 12) (ret := (some .int)) (by decide) rfl ?_
  intro p e s m args below meth c s₁ B hml hv
  obtain ⟨rfl, hEN, rfl, hP, hK, hD0⟩ := hv
  have hx := B.exec
  have hb := B.bytes
  have hr := B.returns
  have hts := atoms_spec (ws := wsX3_lowestBestMove) B.pre
  have hown : s.vm.findClass RX3 = some m.cls := findClass_of_methodNamed B.named
  have hlocks := B.notSynchronized
  have hD := hD0.self (sz := s.heap.size)
  generalize hAe : va_A [(h0, .inr (1, [.ref vt])), (vt, .inr (2, [.ref vf, .ref vv])), (vf, .inl (cJ, 1024, .inr (.inl fm))), (vv, .inl (cI, 1024, .inl vl))] s.heap.size = A at hD ⊢
  have hA : ∀ q : Nat, s.heap.size ≤ q → A q := fun q h => by rw [← hAe]; exact Or.inr h
  have hS : va_S A s.heap s.heap [] := va_S.rf
  have hnest54 : va_Nw (.methodLinkNest RX3 54 yX6_bitOf RX6) s := hEN.1
  have hiniX6 : (Cond.initialized (yX6_bitOf).cls).before ([.ref h0, .long a, .long b, .int 2] : List Value).toArray s = true := hts (.initialized RX6) (by decide +kernel)
  have hl := lv_entry ([.ref h0, .long a, .long b, .int 2]) (n := 12) (Nat.le_of_ble_eq_true rfl)
  rw [lg_entry_eq]
  generalize (lg_sl ([.ref h0, .long a, .long b, .int 2]) ++ List.replicate (12 - (lg_sl ([.ref h0, .long a, .long b, .int 2])).length) Slot.unset).toArray = ls at hl ⊢
  have hl : lv_has ls 12 [(0, .ref h0), (1, .long a), (3, .long b), (5, .int 2)] := hl
  refine lv_bipush (v := (-2)) hx hb dX3_lowestBestMove_0 (by decide) ?_
  refine lv_istore (lv' := [(6, .int (-2)), (0, .ref h0), (1, .long a), (3, .long b), (5, .int 2)]) hx hb dX3_lowestBestMove_2 hl (by decide) rfl (fun ls hl => ?_)
  refine lv_iconst (v := 0) hx hb dX3_lowestBestMove_4 (by decide) ?_
  refine lv_istore (lv' := [(7, .int 0), (6, .int (-2)), (0, .ref h0), (1, .long a), (3, .long b), (5, .int 2)]) hx hb dX3_lowestBestMove_5 hl (by decide) rfl (fun ls hl => ?_)
  refine lv_iconst (v := 0) hx hb dX3_lowestBestMove_7 (by decide) ?_
  refine lv_istore (lv' := [(8, .int 0), (7, .int 0), (6, .int (-2)), (0, .ref h0), (1, .long a), (3, .long b), (5, .int 2)]) hx hb dX3_lowestBestMove_8 hl (by decide) rfl (fun ls hl => ?_)
  have loop10 : ∀ (nn i10 : Nat), i10 + nn = 288 → ∀ (fm10 : Nat → Int64) (vl10 : Nat → Int32) (hT10 : TI fm10 vl10) (H : Heap) (locs : List Loc), va_P D vwCl [(h0, .inr (1, [.ref vt])), (vt, .inr (2, [.ref vf, .ref vv])), (vf, .inl (cJ, 1024, .inr (.inl fm10))), (vv, .inl (cI, 1024, .inl vl10))] H → va_D A [(h0, .inr (1, [.ref vt])), (vt, .inr (2, [.ref vf, .ref vv])), (vf, .inl (cJ, 1024, .inr (.inl fm10))), (vv, .inl (cI, 1024, .inl vl10))] → va_S A s.heap H locs → ∀ ls, lv_has ls 12 [(8, .int (nI i10)), (6, .int (mlow (vput 1) a b i10).1), (7, .int (nI (mlow (vput 1) a b i10).2)), (0, .ref h0), (1, .long a), (3, .long b), (5, .int 2)] → W p l e (headSpec wsX3_lowestBestMove ({ frames := 7, cells := 0, slots := 0, locals := 202 } : Room)).room s m ([.ref h0, .long a, .long b, .int 2] : List Value).toArray below meth c H locs 0 0 (MQ below (va_Qi (fun (r : Int32) (u : (Nat → Int64) × (Nat → Int32)) => r = nI (mlow (vput 1) a b 288).2 ∧ TI u.1 u.2) (fun (u : (Nat → Int64) × (Nat → Int32)) => pv_B D cI cJ (A) [(h0, .inr (1, [.ref vt])), (vt, .inr (2, [.ref vf, .ref vv])), (vf, .inl (cJ, 1024, .inr (.inl u.1))), (vv, .inl (cI, 1024, .inl u.2))]) (A)) ([.ref h0, .long a, .long b, .int 2] : List Value).toArray s 0 0 A) (F0 m 10 ls []) := by
    intro nn
    induction nn with
    | zero =>
      intro i10 hi10 fm10 vl10 hT10 H locs hP hD hS ls hl
      obtain rfl : i10 = 288 := by omega
      refine lv_iload hx hb dX3_lowestBestMove_10 (lv_at hl 0 rfl) ?_
      refine lv_sipush (v := 288) hx hb dX3_lowestBestMove_12 (by decide) ?_
      refine lv_icmp_ge (tgt := 100) hx hb dX3_lowestBestMove_15 (by decide) (fun c15 => ?_) (fun c15 => ?_)
      · have c15 : 288 ≤ 288 := (nq_le (a := 288) (b := 288) (by omega) (by omega)).mp c15
        refine lv_iload hx hb dX3_lowestBestMove_100 (lv_at hl 2 rfl) ?_
        refine W.iret (v := (nI (mlow (vput 1) a b 288).2)) hx hb hr (fun tt ht hW => ⟨⟨(nI (mlow (vput 1) a b 288).2), (fm10, vl10), rfl, ?_, by rw [ht]; exact hP, va_K.moved hW.alike hK, hD⟩, hS.F ht⟩) hS.2.2 dX3_lowestBestMove_102
        exact ⟨by { exact rfl }, hT10⟩
      · have c15 : ¬ 288 ≤ 288 := _root_.mt (nq_le (a := 288) (b := 288) (by omega) (by omega)).mpr c15
        omega
    | succ nn ih10 =>
      intro i10 hi10 fm10 vl10 hT10 H locs hP hD hS ls hl
      refine lv_iload hx hb dX3_lowestBestMove_10 (lv_at hl 0 rfl) ?_
      refine lv_sipush (v := 288) hx hb dX3_lowestBestMove_12 (by decide) ?_
      refine lv_icmp_ge (tgt := 100) hx hb dX3_lowestBestMove_15 (by decide) (fun c15 => ?_) (fun c15 => ?_)
      · have c15 : 288 ≤ i10 := (nq_le (a := 288) (b := i10) (by omega) (by omega)).mp c15
        omega
      · have c15 : ¬ 288 ≤ i10 := _root_.mt (nq_le (a := 288) (b := i10) (by omega) (by omega)).mpr c15
        refine lv_iload hx hb dX3_lowestBestMove_18 (lv_at hl 1 rfl) ?_
        refine lv_iconst (v := 1) hx hb dX3_lowestBestMove_20 (by decide) ?_
        refine lv_icmp_ge (tgt := 100) hx hb dX3_lowestBestMove_21 (by decide) (fun c21 => ?_) (fun c21 => ?_)
        · refine lv_iload hx hb dX3_lowestBestMove_100 (lv_at hl 2 rfl) ?_
          refine W.iret (v := (nI (mlow (vput 1) a b i10).2)) hx hb hr (fun tt ht hW => ⟨⟨(nI (mlow (vput 1) a b i10).2), (fm10, vl10), rfl, ?_, by rw [ht]; exact hP, va_K.moved hW.alike hK, hD⟩, hS.F ht⟩) hS.2.2 dX3_lowestBestMove_102
          exact ⟨by { rw [stopM c21 (by omega)] }, hT10⟩
        · refine lv_iload hx hb dX3_lowestBestMove_24 (lv_at hl 0 rfl) ?_
          refine lv_bipush (v := 8) hx hb dX3_lowestBestMove_26 (by decide) ?_
          refine lv_idiv hx hb dX3_lowestBestMove_28 (by decide) ?_
          refine pk_ti (y := nI (i10 / 8)) (pk_div (a := i10) (d := 8) (by omega) (by omega) (by omega)) ?_
          refine vp_callSl (va_Run.run (va_runSN (As := [.int (nI (i10 / 8))]) (rest := []) ⟨hx, hb, hml, hown, hts⟩ (c_X6_bitOf l (nI (i10 / 8))) ⟨va_cnB 1 hts gX3_lowestBestMove_X6_bitOf_n54 rfl rfl rfl hnest54 hiniX6 (by decide +kernel) ⟨Nat.le_of_ble_eq_true rfl, Nat.le_of_ble_eq_true rfl⟩, hts _ (by decide +kernel), trivial⟩ ⟨px_blind0, fun U hU hW => ⟨rfl, trivial⟩⟩ rfl rfl hl.1 rfl (lv_room (Nat.le_of_ble_eq_true rfl)) dX3_lowestBestMove_29 ⟨(Nat.le_of_ble_eq_true rfl), (Nat.le_of_ble_eq_true rfl)⟩)) (fun r29 er29 => ?_)
          obtain rfl := er29.symm
          refine lv_lstore (lv' := [(9, .long (jshl 1 (nI (i10 / 8)))), (8, .int (nI i10)), (6, .int (mlow (vput 1) a b i10).1), (7, .int (nI (mlow (vput 1) a b i10).2)), (0, .ref h0), (1, .long a), (3, .long b), (5, .int 2)]) hx hb dX3_lowestBestMove_32 hl (by decide) rfl (fun ls hl => ?_)
          refine lv_lload_n hx hb dX3_lowestBestMove_34 rfl (lv_at hl 5 rfl) ?_
          refine lv_lload_n hx hb dX3_lowestBestMove_35 rfl (lv_at hl 6 rfl) ?_
          refine lv_lor hx hb dX3_lowestBestMove_36 ?_
          refine lv_topl (fun x36 ex36 => ?_)
          refine lv_lload hx hb dX3_lowestBestMove_37 (lv_at hl 0 rfl) ?_
          refine lv_land hx hb dX3_lowestBestMove_39 ?_
          refine lv_topl (fun x39 ex39 => ?_)
          refine lv_lconst (v := 0) hx hb dX3_lowestBestMove_40 (by decide) ?_
          refine W.lcmp hx hb dX3_lowestBestMove_41 ?_
          refine lv_if_ne (tgt := 94) hx hb dX3_lowestBestMove_42 (by decide) (fun c42 => ?_) (fun c42 => ?_)
          · rw [lg_cmp_eq] at c42
            refine lv_iinc (v := nI (i10 + 1)) (lv' := [(8, .int (nI (i10 + 1))), (9, .long (jshl 1 (nI (i10 / 8)))), (6, .int (mlow (vput 1) a b i10).1), (7, .int (nI (mlow (vput 1) a b i10).2)), (0, .ref h0), (1, .long a), (3, .long b), (5, .int 2)]) hx hb dX3_lowestBestMove_94 hl (k := 1) rfl (nI_add i10 1) (by decide) rfl (fun ls hl => ?_)
            refine lv_goto (tgt := 10) hx hb dX3_lowestBestMove_97 (by decide) ?_
            exact ih10 (i10 + 1) (by omega) _ _ hT10 _ _ hP hD hS ls (by { have e9 : ((mlow (vput 1) a b i10).1 : Int32) = (mlow (vput 1) a b (i10 + 1)).1 := by { obtain rfl := ex36.symm; obtain rfl := ex39.symm; exact (congrArg Prod.fst (mlow_n c21 c42)).symm }; rw [← e9]; have e9 : ((nI (mlow (vput 1) a b i10).2) : Int32) = (nI (mlow (vput 1) a b (i10 + 1)).2) := by { obtain rfl := ex36.symm; obtain rfl := ex39.symm; exact (congrArg (fun q => nI q.2) (mlow_n c21 c42)).symm }; rw [← e9]; exact lv_sub hl [0, 2, 3, 4, 5, 6, 7] rfl })
          · rw [lg_cmp_eq] at c42
            refine lv_lload_n hx hb dX3_lowestBestMove_45 rfl (lv_at hl 5 rfl) ?_
            refine lv_lload hx hb dX3_lowestBestMove_46 (lv_at hl 0 rfl) ?_
            refine lv_lor hx hb dX3_lowestBestMove_48 ?_
            refine lv_topl (fun x48 ex48 => ?_)
            refine vp_callSi (W.runS (As := [.long x48]) (rest := []) ⟨hx, hb, hml, hown, hts⟩ (c_X1_hasLine l x48) (va_cwS 1 hts gX3_lowestBestMove_X1_hasLine rfl rfl rfl (by decide +kernel) ⟨Nat.le_of_ble_eq_true rfl, Nat.le_of_ble_eq_true rfl⟩) ⟨px_blind0, fun U hU hW => ⟨rfl, trivial⟩⟩ rfl rfl hl.1 rfl (lv_room (Nat.le_of_ble_eq_true rfl)) dX3_lowestBestMove_49 ⟨(Nat.le_of_ble_eq_true rfl), (Nat.le_of_ble_eq_true rfl)⟩) (fun r49 er49 => ?_)
            obtain rfl := er49.symm
            refine pk_b (P := cline x48 = true) (fun b49 => ?_) (fun b49 => ?_)
            · refine lv_if_eq (tgt := 59) hx hb dX3_lowestBestMove_52 (by decide) (fun c52 => ?_) (fun c52 => ?_)
              · exact absurd c52 (by decide)
              · refine lv_iconst (v := 1) hx hb dX3_lowestBestMove_55 (by decide) ?_
                refine lv_goto (tgt := 77) hx hb dX3_lowestBestMove_56 (by decide) ?_
                refine lv_istore (lv' := [(11, .int 1), (9, .long (jshl 1 (nI (i10 / 8)))), (8, .int (nI i10)), (6, .int (mlow (vput 1) a b i10).1), (7, .int (nI (mlow (vput 1) a b i10).2)), (0, .ref h0), (1, .long a), (3, .long b), (5, .int 2)]) hx hb dX3_lowestBestMove_77 hl (by decide) rfl (fun ls hl => ?_)
                refine lv_iload hx hb dX3_lowestBestMove_79 (lv_at hl 0 rfl) ?_
                refine lv_iload hx hb dX3_lowestBestMove_81 (lv_at hl 3 rfl) ?_
                refine lv_icmp_le (tgt := 94) hx hb dX3_lowestBestMove_83 (by decide) (fun c83 => ?_) (fun c83 => ?_)
                · refine lv_iinc (v := nI (i10 + 1)) (lv' := [(8, .int (nI (i10 + 1))), (11, .int 1), (9, .long (jshl 1 (nI (i10 / 8)))), (6, .int (mlow (vput 1) a b i10).1), (7, .int (nI (mlow (vput 1) a b i10).2)), (0, .ref h0), (1, .long a), (3, .long b), (5, .int 2)]) hx hb dX3_lowestBestMove_94 hl (k := 2) rfl (nI_add i10 1) (by decide) rfl (fun ls hl => ?_)
                  refine lv_goto (tgt := 10) hx hb dX3_lowestBestMove_97 (by decide) ?_
                  exact ih10 (i10 + 1) (by omega) _ _ hT10 _ _ hP hD hS ls (by { have e9 : ((mlow (vput 1) a b i10).1 : Int32) = (mlow (vput 1) a b (i10 + 1)).1 := by { obtain rfl := ex36.symm; obtain rfl := ex39.symm; obtain rfl := ex48.symm; exact (congrArg Prod.fst (mlow_b c21 c42 (mval_1 b49) c83)).symm }; rw [← e9]; have e9 : ((nI (mlow (vput 1) a b i10).2) : Int32) = (nI (mlow (vput 1) a b (i10 + 1)).2) := by { obtain rfl := ex36.symm; obtain rfl := ex39.symm; obtain rfl := ex48.symm; exact (congrArg (fun q => nI q.2) (mlow_b c21 c42 (mval_1 b49) c83)).symm }; rw [← e9]; exact lv_sub hl [0, 3, 4, 5, 6, 7, 8] rfl })
                · refine lv_iload hx hb dX3_lowestBestMove_86 (lv_at hl 0 rfl) ?_
                  refine lv_istore (lv' := [(6, .int 1), (11, .int 1), (9, .long (jshl 1 (nI (i10 / 8)))), (8, .int (nI i10)), (7, .int (nI (mlow (vput 1) a b i10).2)), (0, .ref h0), (1, .long a), (3, .long b), (5, .int 2)]) hx hb dX3_lowestBestMove_88 hl (by decide) rfl (fun ls hl => ?_)
                  refine lv_iload hx hb dX3_lowestBestMove_90 (lv_at hl 3 rfl) ?_
                  refine lv_istore (lv' := [(7, .int (nI i10)), (6, .int 1), (11, .int 1), (9, .long (jshl 1 (nI (i10 / 8)))), (8, .int (nI i10)), (0, .ref h0), (1, .long a), (3, .long b), (5, .int 2)]) hx hb dX3_lowestBestMove_92 hl (by decide) rfl (fun ls hl => ?_)
                  refine lv_iinc (v := nI (i10 + 1)) (lv' := [(8, .int (nI (i10 + 1))), (7, .int (nI i10)), (6, .int 1), (11, .int 1), (9, .long (jshl 1 (nI (i10 / 8)))), (0, .ref h0), (1, .long a), (3, .long b), (5, .int 2)]) hx hb dX3_lowestBestMove_94 hl (k := 4) rfl (nI_add i10 1) (by decide) rfl (fun ls hl => ?_)
                  refine lv_goto (tgt := 10) hx hb dX3_lowestBestMove_97 (by decide) ?_
                  exact ih10 (i10 + 1) (by omega) _ _ hT10 _ _ hP hD hS ls (by { have e9 : (1 : Int32) = (mlow (vput 1) a b (i10 + 1)).1 := by { obtain rfl := ex36.symm; obtain rfl := ex39.symm; obtain rfl := ex48.symm; exact (congrArg Prod.fst (mlow_a c21 c42 (mval_1 b49) c83)).symm }; rw [← e9]; have e9 : ((nI i10) : Int32) = (nI (mlow (vput 1) a b (i10 + 1)).2) := by { obtain rfl := ex36.symm; obtain rfl := ex39.symm; obtain rfl := ex48.symm; exact (congrArg (fun q => nI q.2) (mlow_a c21 c42 (mval_1 b49) c83)).symm }; rw [← e9]; exact lv_sub hl [0, 2, 1, 5, 6, 7, 8] rfl })
            · refine lv_if_eq (tgt := 59) hx hb dX3_lowestBestMove_52 (by decide) (fun c52 => ?_) (fun c52 => ?_)
              · refine lv_aload_n hx hb dX3_lowestBestMove_59 rfl (lv_at hl 4 rfl) ?_
                refine lv_lload_n hx hb dX3_lowestBestMove_60 rfl (lv_at hl 5 rfl) ?_
                refine lv_lload hx hb dX3_lowestBestMove_61 (lv_at hl 0 rfl) ?_
                refine lv_lor hx hb dX3_lowestBestMove_63 ?_
                refine lv_topl (fun x63 ex63 => ?_)
                refine lv_lload_n hx hb dX3_lowestBestMove_64 rfl (lv_at hl 6 rfl) ?_
                refine lv_iload hx hb dX3_lowestBestMove_65 (lv_at hl 1 rfl) ?_
                refine lv_bipush (v := 8) hx hb dX3_lowestBestMove_67 (by decide) ?_
                refine lv_irem hx hb dX3_lowestBestMove_69 (by decide) ?_
                refine pk_ti (y := nI (i10 % 8)) (pk_rem (a := i10) (d := 8) (by omega) (by omega) (by omega)) ?_
                refine lv_iload hx hb dX3_lowestBestMove_70 (lv_at hl 7 rfl) ?_
                refine lv_iconst (v := 1) hx hb dX3_lowestBestMove_72 (by decide) ?_
                refine lv_isub hx hb dX3_lowestBestMove_73 ?_
                refine pk_ti (y := nI 1) (by decide) ?_
                have hPc := hP.sub (ws' := [(h0, .inr (1, [.ref vt])), (vt, .inr (2, [.ref vf, .ref vv])), (vf, .inl (cJ, 1024, .inr (.inl fm10))), (vv, .inl (cI, 1024, .inl vl10))]) [0, 1, 2, 3] rfl
                have hDc := hD.sub (ws' := [(h0, .inr (1, [.ref vt])), (vt, .inr (2, [.ref vf, .ref vv])), (vf, .inl (cJ, 1024, .inr (.inl fm10))), (vv, .inl (cI, 1024, .inl vl10))]) [0, 1, 2, 3] (by decide) rfl
                have hFc := va_free (wc := [(h0, .inr (1, [.ref vt])), (vt, .inr (2, [.ref vf, .ref vv])), (vf, .inl (cJ, 1024, .inr (.inl fm10))), (vv, .inl (cI, 1024, .inl vl10))]) hD hS hA [0, 1, 2, 3] rfl
                refine va_calli (va_runV (As := [.long x63, .long b, .int (nI (i10 % 8)), .int (nI 1)]) (rest := []) ⟨hx, hb, hml, hown, hts⟩ (c_X3_valueBehindTurn_f1 l D cI cJ H.size  h0 vt vf vv fm10 vl10 hT10 x63 b (i10 % 8) (by omega) (by obtain rfl := ex36.symm; obtain rfl := ex39.symm; obtain rfl := ex48.symm; obtain rfl := ex63.symm; exact bv_put hB (by omega) c42)) (cwV 4 hts gX3_lowestBestMove_X3_valueBehindTurn rfl rfl rfl (by decide +kernel) ⟨Nat.le_of_ble_eq_true rfl, Nat.le_of_ble_eq_true rfl⟩) ⟨(px_blindE pv_blind), va_recv hK hPc (ci := 1) (q0 := 0) rfl rfl, fun U hU hW => ⟨rfl, hEN.warm hW, by rw [hU], by rw [hU]; exact hPc, va_K.moved hW.alike hK, hDc.weaken (fun _ _ _ _ => trivial)⟩⟩ rfl rfl hl.1 rfl (lv_room (Nat.le_of_ble_eq_true rfl)) dX3_lowestBestMove_74 ⟨(Nat.le_of_ble_eq_true rfl), (Nat.le_of_ble_eq_true rfl)⟩) hS (fun q _ h => hFc q h) hFc (fun r74 u t9 H1 locs hth hvm hw74 hB hz1 hk1 hS => ?_)
                obtain ⟨fm74, vl74⟩ := u
                try dsimp only at hw74
                obtain ⟨hP1, hK1, hD1⟩ := hB
                rw [hth] at hP1
                obtain ⟨hP, hD⟩ := va_join (wr := []) (w1 := [(h0, .inr (1, [.ref vt])), (vt, .inr (2, [.ref vf, .ref vv])), (vf, .inl (cJ, 1024, .inr (.inl fm74))), (vv, .inl (cI, 1024, .inl vl74))]) hP hD [0, 1, 2, 3] [] rfl rfl (by decide) (by decide) hk1 hFc hP1 hD1
                generalize H1 = H at hP hS ⊢
                have hP : va_P D vwCl [(h0, .inr (1, [.ref vt])), (vt, .inr (2, [.ref vf, .ref vv])), (vf, .inl (cJ, 1024, .inr (.inl fm74))), (vv, .inl (cI, 1024, .inl vl74))] H := hP.sub (ws' := [(h0, .inr (1, [.ref vt])), (vt, .inr (2, [.ref vf, .ref vv])), (vf, .inl (cJ, 1024, .inr (.inl fm74))), (vv, .inl (cI, 1024, .inl vl74))]) [0, 1, 2, 3] rfl
                have hD : va_D A [(h0, .inr (1, [.ref vt])), (vt, .inr (2, [.ref vf, .ref vv])), (vf, .inl (cJ, 1024, .inr (.inl fm74))), (vv, .inl (cI, 1024, .inl vl74))] := hD.sub (ws' := [(h0, .inr (1, [.ref vt])), (vt, .inr (2, [.ref vf, .ref vv])), (vf, .inl (cJ, 1024, .inr (.inl fm74))), (vv, .inl (cI, 1024, .inl vl74))]) [0, 1, 2, 3] (by decide) rfl
                obtain ⟨hv9, hT74⟩ := hw74
                obtain rfl := hv9.symm
                refine lv_istore (lv' := [(11, .int (vbehind (vput 1) x63 b (i10 % 8))), (9, .long (jshl 1 (nI (i10 / 8)))), (8, .int (nI i10)), (6, .int (mlow (vput 1) a b i10).1), (7, .int (nI (mlow (vput 1) a b i10).2)), (0, .ref h0), (1, .long a), (3, .long b), (5, .int 2)]) hx hb dX3_lowestBestMove_77 hl (by decide) rfl (fun ls hl => ?_)
                refine lv_iload hx hb dX3_lowestBestMove_79 (lv_at hl 0 rfl) ?_
                refine lv_iload hx hb dX3_lowestBestMove_81 (lv_at hl 3 rfl) ?_
                refine lv_icmp_le (tgt := 94) hx hb dX3_lowestBestMove_83 (by decide) (fun c83 => ?_) (fun c83 => ?_)
                · refine lv_iinc (v := nI (i10 + 1)) (lv' := [(8, .int (nI (i10 + 1))), (11, .int (vbehind (vput 1) x63 b (i10 % 8))), (9, .long (jshl 1 (nI (i10 / 8)))), (6, .int (mlow (vput 1) a b i10).1), (7, .int (nI (mlow (vput 1) a b i10).2)), (0, .ref h0), (1, .long a), (3, .long b), (5, .int 2)]) hx hb dX3_lowestBestMove_94 hl (k := 2) rfl (nI_add i10 1) (by decide) rfl (fun ls hl => ?_)
                  refine lv_goto (tgt := 10) hx hb dX3_lowestBestMove_97 (by decide) ?_
                  exact ih10 (i10 + 1) (by omega) _ _ hT74 _ _ hP hD hS ls (by { have e9 : ((mlow (vput 1) a b i10).1 : Int32) = (mlow (vput 1) a b (i10 + 1)).1 := by { obtain rfl := ex36.symm; obtain rfl := ex39.symm; obtain rfl := ex48.symm; obtain rfl := ex63.symm; exact (congrArg Prod.fst (mlow_b c21 c42 (mval_t b49) c83)).symm }; rw [← e9]; have e9 : ((nI (mlow (vput 1) a b i10).2) : Int32) = (nI (mlow (vput 1) a b (i10 + 1)).2) := by { obtain rfl := ex36.symm; obtain rfl := ex39.symm; obtain rfl := ex48.symm; obtain rfl := ex63.symm; exact (congrArg (fun q => nI q.2) (mlow_b c21 c42 (mval_t b49) c83)).symm }; rw [← e9]; exact lv_sub hl [0, 3, 4, 5, 6, 7, 8] rfl })
                · refine lv_iload hx hb dX3_lowestBestMove_86 (lv_at hl 0 rfl) ?_
                  refine lv_istore (lv' := [(6, .int (vbehind (vput 1) x63 b (i10 % 8))), (11, .int (vbehind (vput 1) x63 b (i10 % 8))), (9, .long (jshl 1 (nI (i10 / 8)))), (8, .int (nI i10)), (7, .int (nI (mlow (vput 1) a b i10).2)), (0, .ref h0), (1, .long a), (3, .long b), (5, .int 2)]) hx hb dX3_lowestBestMove_88 hl (by decide) rfl (fun ls hl => ?_)
                  refine lv_iload hx hb dX3_lowestBestMove_90 (lv_at hl 3 rfl) ?_
                  refine lv_istore (lv' := [(7, .int (nI i10)), (6, .int (vbehind (vput 1) x63 b (i10 % 8))), (11, .int (vbehind (vput 1) x63 b (i10 % 8))), (9, .long (jshl 1 (nI (i10 / 8)))), (8, .int (nI i10)), (0, .ref h0), (1, .long a), (3, .long b), (5, .int 2)]) hx hb dX3_lowestBestMove_92 hl (by decide) rfl (fun ls hl => ?_)
                  refine lv_iinc (v := nI (i10 + 1)) (lv' := [(8, .int (nI (i10 + 1))), (7, .int (nI i10)), (6, .int (vbehind (vput 1) x63 b (i10 % 8))), (11, .int (vbehind (vput 1) x63 b (i10 % 8))), (9, .long (jshl 1 (nI (i10 / 8)))), (0, .ref h0), (1, .long a), (3, .long b), (5, .int 2)]) hx hb dX3_lowestBestMove_94 hl (k := 4) rfl (nI_add i10 1) (by decide) rfl (fun ls hl => ?_)
                  refine lv_goto (tgt := 10) hx hb dX3_lowestBestMove_97 (by decide) ?_
                  exact ih10 (i10 + 1) (by omega) _ _ hT74 _ _ hP hD hS ls (by { have e9 : ((vbehind (vput 1) x63 b (i10 % 8)) : Int32) = (mlow (vput 1) a b (i10 + 1)).1 := by { obtain rfl := ex36.symm; obtain rfl := ex39.symm; obtain rfl := ex48.symm; obtain rfl := ex63.symm; exact (congrArg Prod.fst (mlow_a c21 c42 (mval_t b49) c83)).symm }; rw [← e9]; have e9 : ((nI i10) : Int32) = (nI (mlow (vput 1) a b (i10 + 1)).2) := by { obtain rfl := ex36.symm; obtain rfl := ex39.symm; obtain rfl := ex48.symm; obtain rfl := ex63.symm; exact (congrArg (fun q => nI q.2) (mlow_a c21 c42 (mval_t b49) c83)).symm }; rw [← e9]; exact lv_sub hl [0, 2, 1, 5, 6, 7, 8] rfl })
              · exact absurd c52 (by decide)
  exact loop10 288 0 (by omega) _ _ hT _ _ hP hD hS ls (lv_sub hl [0, 2, 1, 3, 4, 5, 6] rfl)

set_option maxHeartbeats 400000 in
set_option maxRecDepth 100000 in
theorem c_X3_valueToPut_f2 (l : Launch) (D : va_G) (cI cJ : ClassId) (sz : Nat) (h0 vt vf vv : Nat) (fm : Nat → Int64) (vl : Nat → Int32) (hT : TI fm vl) (a b : Int64)  (hB : BV 2 a b) : Met l yX3_valueToPut wsX3_valueToPut ({ frames := 9, cells := 0, slots := 0, locals := 259 } : Room) (va_Pc [.ref h0, .long a, .long b, .int 2] (px_E (pv_C D cI cJ [(h0, .inr (1, [.ref vt])), (vt, .inr (2, [.ref vf, .ref vv])), (vf, .inl (cJ, 1024, .inr (.inl fm))), (vv, .inl (cI, 1024, .inl vl))] sz))) (va_Qi (fun (r : Int32) (u : (Nat → Int64) × (Nat → Int32)) => r = vput 2 a b ∧ TI u.1 u.2) (fun (u : (Nat → Int64) × (Nat → Int32)) => pv_B D cI cJ (va_A [(h0, .inr (1, [.ref vt])), (vt, .inr (2, [.ref vf, .ref vv])), (vf, .inl (cJ, 1024, .inr (.inl fm))), (vv, .inl (cI, 1024, .inl vl))] sz) [(h0, .inr (1, [.ref vt])), (vt, .inr (2, [.ref vf, .ref vv])), (vf, .inl (cJ, 1024, .inr (.inl u.1))), (vv, .inl (cI, 1024, .inl u.2))]) (va_A [(h0, .inr (1, [.ref vt])), (vt, .inr (2, [.ref vf, .ref vv])), (vf, .inl (cJ, 1024, .inr (.inl fm))), (vv, .inl (cI, 1024, .inl vl))] sz)) 0 0 (va_A [(h0, .inr (1, [.ref vt])), (vt, .inr (2, [.ref vf, .ref vv])), (vf, .inl (cJ, 1024, .inr (.inl fm))), (vv, .inl (cI, 1024, .inl vl))] sz) := by
  refine Met.ofW (cc := cX3_valueToPut) (maxL := 9) (ret := (some .int)) (by decide) rfl ?_
  intro p e s m args below meth c s₁ B hml hv
  obtain ⟨rfl, hEN, rfl, hP, hK, hD0⟩ := hv
  have hx := B.exec
  have hb := B.bytes
  have hr := B.returns
  have hts := atoms_spec (ws := wsX3_valueToPut) B.pre
  have hown : s.vm.findClass RX3 = some m.cls := findClass_of_methodNamed B.named
  have hlocks := B.notSynchronized
  have hD := hD0.self (sz := s.heap.size)
  generalize hAe : va_A [(h0, .inr (1, [.ref vt])), (vt, .inr (2, [.ref vf, .ref vv])), (vf, .inl (cJ, 1024, .inr (.inl fm))), (vv, .inl (cI, 1024, .inl vl))] s.heap.size = A at hD ⊢
  have hA : ∀ q : Nat, s.heap.size ≤ q → A q := fun q h => by rw [← hAe]; exact Or.inr h
  have hS : va_S A s.heap s.heap [] := va_S.rf
  have hinX3 : ∀ w ∈ wsX30, w ∈ wsX3_valueToPut := by decide +kernel
  have hfl9 : (Cond.fieldLink RX3 9 "Twistquad$Solver" "table" "LTwistquad$ValueTable;").before ([.ref h0, .long a, .long b, .int 2] : List Value).toArray s = true := hts _ (by decide +kernel)
  have hl := lv_entry ([.ref h0, .long a, .long b, .int 2]) (n := 9) (Nat.le_of_ble_eq_true rfl)
  rw [lg_entry_eq]
  generalize (lg_sl ([.ref h0, .long a, .long b, .int 2]) ++ List.replicate (9 - (lg_sl ([.ref h0, .long a, .long b, .int 2])).length) Slot.unset).toArray = ls at hl ⊢
  have hl : lv_has ls 9 [(0, .ref h0), (1, .long a), (3, .long b), (5, .int 2)] := hl
  refine lv_iload hx hb dX3_valueToPut_0 (lv_at hl 3 rfl) ?_
  refine lv_if_le (tgt := 11) hx hb dX3_valueToPut_2 (by decide) (fun c2 => ?_) (fun c2 => ?_)
  · exact absurd c2 (by decide)
  · refine lv_iload hx hb dX3_valueToPut_5 (lv_at hl 3 rfl) ?_
    refine lv_iconst (v := 3) hx hb dX3_valueToPut_7 (by decide) ?_
    refine lv_icmp_le (tgt := 13) hx hb dX3_valueToPut_8 (by decide) (fun c8 => ?_) (fun c8 => ?_)
    · refine lv_aload_n hx hb dX3_valueToPut_13 rfl (lv_at hl 0 rfl) ?_
      refine va_get (D := D) (ci := 1) (v := .ref vt) (C := RX3) (T := TX3) (N := 1) hx hb hts hinX3 hown hK hP 0 rfl rfl 0 (by decide) hfl9 (fun _ h9 => h9) rfl dX3_valueToPut_14 ?_
      refine lv_ifnull hx hb dX3_valueToPut_17 ?_
      refine lv_iload hx hb dX3_valueToPut_20 (lv_at hl 3 rfl) ?_
      refine lv_iconst (v := 2) hx hb dX3_valueToPut_22 (by decide) ?_
      refine lv_icmp_ge (tgt := 35) hx hb dX3_valueToPut_23 (by decide) (fun c23 => ?_) (fun c23 => ?_)
      · refine lv_lload_n hx hb dX3_valueToPut_35 rfl (lv_at hl 1 rfl) ?_
        refine vp_callSi (W.runS (As := [.long a]) (rest := []) ⟨hx, hb, hml, hown, hts⟩ (c_J13_bitCount_95d88 l a) (va_cwS 1 hts gX3_valueToPut_J13_bitCount_95d88 rfl rfl rfl (by decide +kernel) ⟨Nat.le_of_ble_eq_true rfl, Nat.le_of_ble_eq_true rfl⟩) ⟨px_blind0, fun U hU hW => ⟨rfl, trivial⟩⟩ rfl rfl hl.1 rfl (lv_room (Nat.le_of_ble_eq_true rfl)) dX3_valueToPut_36 ⟨(Nat.le_of_ble_eq_true rfl), (Nat.le_of_ble_eq_true rfl)⟩) (fun r36 er36 => ?_)
        obtain rfl := er36.symm
        refine lv_lload_n hx hb dX3_valueToPut_39 rfl (lv_at hl 2 rfl) ?_
        refine vp_callSi (W.runS (As := [.long b]) (rest := [.int (nI (pop a))]) ⟨hx, hb, hml, hown, hts⟩ (c_J13_bitCount_95d88 l b) (va_cwS 1 hts gX3_valueToPut_J13_bitCount_95d88 rfl rfl rfl (by decide +kernel) ⟨Nat.le_of_ble_eq_true rfl, Nat.le_of_ble_eq_true rfl⟩) ⟨px_blind0, fun U hU hW => ⟨rfl, trivial⟩⟩ rfl rfl hl.1 rfl (lv_room (Nat.le_of_ble_eq_true rfl)) dX3_valueToPut_40 ⟨(Nat.le_of_ble_eq_true rfl), (Nat.le_of_ble_eq_true rfl)⟩) (fun r40 er40 => ?_)
        obtain rfl := er40.symm
        have hpa := pop_le a
        have hpb := pop_le b
        refine lv_icmp_ne (tgt := 54) hx hb dX3_valueToPut_43 (by decide) (fun c43 => ?_) (fun c43 => ?_)
        · have c43 : ¬ (pop a) = (pop b) := _root_.mt (nq_eq (a := (pop a)) (b := (pop b)) (by omega) (by omega)).mpr c43
          refine lv_lload_n hx hb dX3_valueToPut_54 rfl (lv_at hl 2 rfl) ?_
          refine lv_lload_n hx hb dX3_valueToPut_55 rfl (lv_at hl 1 rfl) ?_
          refine vp_callSl (W.runS (As := [.long b, .long a]) (rest := []) ⟨hx, hb, hml, hown, hts⟩ (c_X0_leastCode l b a) (va_cwS 2 hts gX3_valueToPut_X0_leastCode rfl rfl rfl (by decide +kernel) ⟨Nat.le_of_ble_eq_true rfl, Nat.le_of_ble_eq_true rfl⟩) ⟨px_blind0, fun U hU hW => ⟨rfl, trivial⟩⟩ rfl rfl hl.1 rfl (lv_room (Nat.le_of_ble_eq_true rfl)) dX3_valueToPut_56 ⟨(Nat.le_of_ble_eq_true rfl), (Nat.le_of_ble_eq_true rfl)⟩) (fun r56 er56 => ?_)
          obtain rfl := er56.symm
          refine pk_tl (y := fkey a b) (by unfold fkey; first | exact (if_pos c43).symm | exact (if_neg c43).symm) ?_
          refine lv_lstore (lv' := [(6, .long (fkey a b)), (0, .ref h0), (1, .long a), (3, .long b), (5, .int 2)]) hx hb dX3_valueToPut_59 hl (by decide) rfl (fun ls hl => ?_)
          refine lv_aload_n hx hb dX3_valueToPut_61 rfl (lv_at hl 1 rfl) ?_
          refine va_get (D := D) (ci := 1) (v := .ref vt) (C := RX3) (T := TX3) (N := 1) hx hb hts hinX3 hown hK hP 0 rfl rfl 0 (by decide) hfl9 (fun _ h9 => h9) rfl dX3_valueToPut_62 ?_
          refine lv_lload hx hb dX3_valueToPut_65 (lv_at hl 0 rfl) ?_
          refine vp_callSi (W.runV (As := [.long (fkey a b)]) (rest := []) ⟨hx, hb, hml, hown, hts⟩ (c_X5_holds l D cI cJ vt vf vv fm vl (fkey a b)) (cwV 1 hts gX3_valueToPut_X5_holds rfl rfl rfl (by decide +kernel) ⟨Nat.le_of_ble_eq_true rfl, Nat.le_of_ble_eq_true rfl⟩) ⟨px_blindW, va_recv hK hP (ci := 2) (q0 := 1) rfl rfl, fun U hU hW => ⟨rfl, by rw [hU]; exact hP.sub (ws' := [(vt, .inr (2, [.ref vf, .ref vv])), (vf, .inl (cJ, 1024, .inr (.inl fm))), (vv, .inl (cI, 1024, .inl vl))]) [1, 2, 3] rfl, va_K.moved hW.alike hK⟩⟩ rfl rfl hl.1 rfl (lv_room (Nat.le_of_ble_eq_true rfl)) dX3_valueToPut_67 ⟨(Nat.le_of_ble_eq_true rfl), (Nat.le_of_ble_eq_true rfl)⟩) (fun r67 er67 => ?_)
          obtain rfl := er67.symm
          refine pk_b (P := fm (slotN (fkey a b)) = (fkey a b)) (fun b67 => ?_) (fun b67 => ?_)
          · refine lv_if_eq (tgt := 83) hx hb dX3_valueToPut_70 (by decide) (fun c70 => ?_) (fun c70 => ?_)
            · exact absurd c70 (by decide)
            · refine lv_aload_n hx hb dX3_valueToPut_73 rfl (lv_at hl 1 rfl) ?_
              refine va_get (D := D) (ci := 1) (v := .ref vt) (C := RX3) (T := TX3) (N := 1) hx hb hts hinX3 hown hK hP 0 rfl rfl 0 (by decide) hfl9 (fun _ h9 => h9) rfl dX3_valueToPut_74 ?_
              refine lv_lload hx hb dX3_valueToPut_77 (lv_at hl 0 rfl) ?_
              refine vp_callSi (W.runV (As := [.long (fkey a b)]) (rest := []) ⟨hx, hb, hml, hown, hts⟩ (c_X5_valueOf l D cI cJ vt vf vv fm vl (fkey a b)) (cwV 1 hts gX3_valueToPut_X5_valueOf rfl rfl rfl (by decide +kernel) ⟨Nat.le_of_ble_eq_true rfl, Nat.le_of_ble_eq_true rfl⟩) ⟨px_blindW, va_recv hK hP (ci := 2) (q0 := 1) rfl rfl, fun U hU hW => ⟨rfl, by rw [hU]; exact hP.sub (ws' := [(vt, .inr (2, [.ref vf, .ref vv])), (vf, .inl (cJ, 1024, .inr (.inl fm))), (vv, .inl (cI, 1024, .inl vl))]) [1, 2, 3] rfl, va_K.moved hW.alike hK⟩⟩ rfl rfl hl.1 rfl (lv_room (Nat.le_of_ble_eq_true rfl)) dX3_valueToPut_79 ⟨(Nat.le_of_ble_eq_true rfl), (Nat.le_of_ble_eq_true rfl)⟩) (fun r79 er79 => ?_)
              obtain rfl := er79.symm
              refine W.iret (v := (vl (slotN (fkey a b)))) hx hb hr (fun tt ht hW => ⟨⟨(vl (slotN (fkey a b))), (fm, vl), rfl, ?_, by rw [ht]; exact hP, va_K.moved hW.alike hK, hD⟩, hS.F ht⟩) hS.2.2 dX3_valueToPut_82
              exact ⟨by { exact (hT _ (slot_in _) 2 a b hB (by omega) b67.symm).symm }, hT⟩
          · refine lv_if_eq (tgt := 83) hx hb dX3_valueToPut_70 (by decide) (fun c70 => ?_) (fun c70 => ?_)
            · refine lv_aload_n hx hb dX3_valueToPut_83 rfl (lv_at hl 1 rfl) ?_
              refine lv_lload_n hx hb dX3_valueToPut_84 rfl (lv_at hl 2 rfl) ?_
              refine lv_lload_n hx hb dX3_valueToPut_85 rfl (lv_at hl 3 rfl) ?_
              refine lv_iload hx hb dX3_valueToPut_86 (lv_at hl 4 rfl) ?_
              have hPc := hP.sub (ws' := [(h0, .inr (1, [.ref vt])), (vt, .inr (2, [.ref vf, .ref vv])), (vf, .inl (cJ, 1024, .inr (.inl fm))), (vv, .inl (cI, 1024, .inl vl))]) [0, 1, 2, 3] rfl
              have hDc := hD.sub (ws' := [(h0, .inr (1, [.ref vt])), (vt, .inr (2, [.ref vf, .ref vv])), (vf, .inl (cJ, 1024, .inr (.inl fm))), (vv, .inl (cI, 1024, .inl vl))]) [0, 1, 2, 3] (by decide) rfl
              have hFc := va_free (wc := [(h0, .inr (1, [.ref vt])), (vt, .inr (2, [.ref vf, .ref vv])), (vf, .inl (cJ, 1024, .inr (.inl fm))), (vv, .inl (cI, 1024, .inl vl))]) hD hS hA [0, 1, 2, 3] rfl
              refine va_calli (va_runV (As := [.long a, .long b, .int 2]) (rest := []) ⟨hx, hb, hml, hown, hts⟩ (c_X3_playMarbles_f2 l D cI cJ s.heap.size  h0 vt vf vv fm vl hT a b hB) (cwV 3 hts gX3_valueToPut_X3_playMarbles rfl rfl rfl (by decide +kernel) ⟨Nat.le_of_ble_eq_true rfl, Nat.le_of_ble_eq_true rfl⟩) ⟨(px_blindE pv_blind), va_recv hK hPc (ci := 1) (q0 := 0) rfl rfl, fun U hU hW => ⟨rfl, hEN.warm hW, by rw [hU], by rw [hU]; exact hPc, va_K.moved hW.alike hK, hDc.weaken (fun _ _ _ _ => trivial)⟩⟩ rfl rfl hl.1 rfl (lv_room (Nat.le_of_ble_eq_true rfl)) dX3_valueToPut_88 ⟨(Nat.le_of_ble_eq_true rfl), (Nat.le_of_ble_eq_true rfl)⟩) hS (fun q _ h => hFc q h) hFc (fun r88 u t9 H1 locs hth hvm hw88 hB hz1 hk1 hS => ?_)
              obtain ⟨fm88, vl88⟩ := u
              try dsimp only at hw88
              obtain ⟨hP1, hK1, hD1⟩ := hB
              rw [hth] at hP1
              obtain ⟨hP, hD⟩ := va_join (wr := []) (w1 := [(h0, .inr (1, [.ref vt])), (vt, .inr (2, [.ref vf, .ref vv])), (vf, .inl (cJ, 1024, .inr (.inl fm88))), (vv, .inl (cI, 1024, .inl vl88))]) hP hD [0, 1, 2, 3] [] rfl rfl (by decide) (by decide) hk1 hFc hP1 hD1
              generalize H1 = H at hP hS ⊢
              have hP : va_P D vwCl [(h0, .inr (1, [.ref vt])), (vt, .inr (2, [.ref vf, .ref vv])), (vf, .inl (cJ, 1024, .inr (.inl fm88))), (vv, .inl (cI, 1024, .inl vl88))] H := hP.sub (ws' := [(h0, .inr (1, [.ref vt])), (vt, .inr (2, [.ref vf, .ref vv])), (vf, .inl (cJ, 1024, .inr (.inl fm88))), (vv, .inl (cI, 1024, .inl vl88))]) [0, 1, 2, 3] rfl
              have hD : va_D A [(h0, .inr (1, [.ref vt])), (vt, .inr (2, [.ref vf, .ref vv])), (vf, .inl (cJ, 1024, .inr (.inl fm88))), (vv, .inl (cI, 1024, .inl vl88))] := hD.sub (ws' := [(h0, .inr (1, [.ref vt])), (vt, .inr (2, [.ref vf, .ref vv])), (vf, .inl (cJ, 1024, .inr (.inl fm88))), (vv, .inl (cI, 1024, .inl vl88))]) [0, 1, 2, 3] (by decide) rfl
              obtain ⟨hv9, hT88⟩ := hw88
              obtain rfl := hv9.symm
              refine lv_istore (lv' := [(8, .int (vput 2 a b)), (6, .long (fkey a b)), (0, .ref h0), (1, .long a), (3, .long b), (5, .int 2)]) hx hb dX3_valueToPut_91 hl (by decide) rfl (fun ls hl => ?_)
              refine lv_aload_n hx hb dX3_valueToPut_93 rfl (lv_at hl 2 rfl) ?_
              refine va_get (D := D) (ci := 1) (v := .ref vt) (C := RX3) (T := TX3) (N := 1) hx hb hts hinX3 hown hK hP 0 rfl rfl 0 (by decide) hfl9 (fun _ h9 => h9) rfl dX3_valueToPut_94 ?_
              refine lv_lload hx hb dX3_valueToPut_97 (lv_at hl 1 rfl) ?_
              refine lv_iload hx hb dX3_valueToPut_99 (lv_at hl 0 rfl) ?_
              have hPc := hP.sub (ws' := [(vt, .inr (2, [.ref vf, .ref vv])), (vf, .inl (cJ, 1024, .inr (.inl fm88))), (vv, .inl (cI, 1024, .inl vl88))]) [1, 2, 3] rfl
              have hDc := hD.sub (ws' := [(vt, .inr (2, [.ref vf, .ref vv])), (vf, .inl (cJ, 1024, .inr (.inl fm88))), (vv, .inl (cI, 1024, .inl vl88))]) [1, 2, 3] (by decide) rfl
              have hFc := va_free (wc := [(vt, .inr (2, [.ref vf, .ref vv])), (vf, .inl (cJ, 1024, .inr (.inl fm88))), (vv, .inl (cI, 1024, .inl vl88))]) hD hS hA [1, 2, 3] rfl
              refine va_callv (va_runV (As := [.long (fkey a b), .int (vput 2 a b)]) (rest := []) ⟨hx, hb, hml, hown, hts⟩ (c_X5_keep l D cI cJ H.size  vt vf vv fm88 vl88 (fkey a b) (vput 2 a b)) (cwV 2 hts gX3_valueToPut_X5_keep rfl rfl rfl (by decide +kernel) ⟨Nat.le_of_ble_eq_true rfl, Nat.le_of_ble_eq_true rfl⟩) ⟨pv_blind, va_recv hK hPc (ci := 2) (q0 := 0) rfl rfl, fun U hU hW => ⟨rfl, by rw [hU], by rw [hU]; exact hPc, va_K.moved hW.alike hK, hDc.weaken (fun _ _ _ _ => trivial)⟩⟩ rfl rfl hl.1 rfl (lv_room (Nat.le_of_ble_eq_true rfl)) dX3_valueToPut_101 ⟨(Nat.le_of_ble_eq_true rfl), (Nat.le_of_ble_eq_true rfl)⟩) hS (fun q _ h => hFc q h) hFc (fun u t9 H1 locs hth hvm hw101 hB hz1 hk1 hS => ?_)
              try dsimp only at hw101
              obtain ⟨hP1, hK1, hD1⟩ := hB
              rw [hth] at hP1
              obtain ⟨hP, hD⟩ := va_join (wr := [(h0, .inr (1, [.ref vt]))]) (w1 := [(vt, .inr (2, [.ref vf, .ref vv])), (vf, .inl (cJ, 1024, .inr (.inl (vp_updL fm88 (slotN (fkey a b)) (fkey a b))))), (vv, .inl (cI, 1024, .inl (upd vl88 (slotN (fkey a b)) (vput 2 a b))))]) hP hD [1, 2, 3] [0] rfl rfl (by decide) (by decide) hk1 hFc hP1 hD1
              generalize H1 = H at hP hS ⊢
              have hP : va_P D vwCl [(h0, .inr (1, [.ref vt])), (vt, .inr (2, [.ref vf, .ref vv])), (vf, .inl (cJ, 1024, .inr (.inl (vp_updL fm88 (slotN (fkey a b)) (fkey a b))))), (vv, .inl (cI, 1024, .inl (upd vl88 (slotN (fkey a b)) (vput 2 a b))))] H := hP.sub (ws' := [(h0, .inr (1, [.ref vt])), (vt, .inr (2, [.ref vf, .ref vv])), (vf, .inl (cJ, 1024, .inr (.inl (vp_updL fm88 (slotN (fkey a b)) (fkey a b))))), (vv, .inl (cI, 1024, .inl (upd vl88 (slotN (fkey a b)) (vput 2 a b))))]) [0, 1, 2, 3] rfl
              have hD : va_D A [(h0, .inr (1, [.ref vt])), (vt, .inr (2, [.ref vf, .ref vv])), (vf, .inl (cJ, 1024, .inr (.inl (vp_updL fm88 (slotN (fkey a b)) (fkey a b))))), (vv, .inl (cI, 1024, .inl (upd vl88 (slotN (fkey a b)) (vput 2 a b))))] := hD.sub (ws' := [(h0, .inr (1, [.ref vt])), (vt, .inr (2, [.ref vf, .ref vv])), (vf, .inl (cJ, 1024, .inr (.inl (vp_updL fm88 (slotN (fkey a b)) (fkey a b))))), (vv, .inl (cI, 1024, .inl (upd vl88 (slotN (fkey a b)) (vput 2 a b))))]) [0, 1, 2, 3] (by decide) rfl
              have hT101 := ti_keep hT88 (n := 2) (by omega) hB
              refine lv_iload hx hb dX3_valueToPut_104 (lv_at hl 0 rfl) ?_
              refine W.iret (v := (vput 2 a b)) hx hb hr (fun tt ht hW => ⟨⟨(vput 2 a b), ((vp_updL fm88 (slotN (fkey a b)) (fkey a b)), (upd vl88 (slotN (fkey a b)) (vput 2 a b))), rfl, ?_, by rw [ht]; exact hP, va_K.moved hW.alike hK, hD⟩, hS.F ht⟩) hS.2.2 dX3_valueToPut_106
              exact ⟨by { exact rfl }, hT101⟩
            · exact absurd c70 (by decide)
        · have c43 : (pop a) = (pop b) := (nq_eq (a := (pop a)) (b := (pop b)) (by omega) (by omega)).mp c43
          refine lv_lload_n hx hb dX3_valueToPut_46 rfl (lv_at hl 1 rfl) ?_
          refine lv_lload_n hx hb dX3_valueToPut_47 rfl (lv_at hl 2 rfl) ?_
          refine vp_callSl (W.runS (As := [.long a, .long b]) (rest := []) ⟨hx, hb, hml, hown, hts⟩ (c_X0_leastCode l a b) (va_cwS 2 hts gX3_valueToPut_X0_leastCode rfl rfl rfl (by decide +kernel) ⟨Nat.le_of_ble_eq_true rfl, Nat.le_of_ble_eq_true rfl⟩) ⟨px_blind0, fun U hU hW => ⟨rfl, trivial⟩⟩ rfl rfl hl.1 rfl (lv_room (Nat.le_of_ble_eq_true rfl)) dX3_valueToPut_48 ⟨(Nat.le_of_ble_eq_true rfl), (Nat.le_of_ble_eq_true rfl)⟩) (fun r48 er48 => ?_)
          obtain rfl := er48.symm
          refine lv_goto (tgt := 59) hx hb dX3_valueToPut_51 (by decide) ?_
          refine pk_tl (y := fkey a b) (by unfold fkey; first | exact (if_pos c43).symm | exact (if_neg c43).symm) ?_
          refine lv_lstore (lv' := [(6, .long (fkey a b)), (0, .ref h0), (1, .long a), (3, .long b), (5, .int 2)]) hx hb dX3_valueToPut_59 hl (by decide) rfl (fun ls hl => ?_)
          refine lv_aload_n hx hb dX3_valueToPut_61 rfl (lv_at hl 1 rfl) ?_
          refine va_get (D := D) (ci := 1) (v := .ref vt) (C := RX3) (T := TX3) (N := 1) hx hb hts hinX3 hown hK hP 0 rfl rfl 0 (by decide) hfl9 (fun _ h9 => h9) rfl dX3_valueToPut_62 ?_
          refine lv_lload hx hb dX3_valueToPut_65 (lv_at hl 0 rfl) ?_
          refine vp_callSi (W.runV (As := [.long (fkey a b)]) (rest := []) ⟨hx, hb, hml, hown, hts⟩ (c_X5_holds l D cI cJ vt vf vv fm vl (fkey a b)) (cwV 1 hts gX3_valueToPut_X5_holds rfl rfl rfl (by decide +kernel) ⟨Nat.le_of_ble_eq_true rfl, Nat.le_of_ble_eq_true rfl⟩) ⟨px_blindW, va_recv hK hP (ci := 2) (q0 := 1) rfl rfl, fun U hU hW => ⟨rfl, by rw [hU]; exact hP.sub (ws' := [(vt, .inr (2, [.ref vf, .ref vv])), (vf, .inl (cJ, 1024, .inr (.inl fm))), (vv, .inl (cI, 1024, .inl vl))]) [1, 2, 3] rfl, va_K.moved hW.alike hK⟩⟩ rfl rfl hl.1 rfl (lv_room (Nat.le_of_ble_eq_true rfl)) dX3_valueToPut_67 ⟨(Nat.le_of_ble_eq_true rfl), (Nat.le_of_ble_eq_true rfl)⟩) (fun r67 er67 => ?_)
          obtain rfl := er67.symm
          refine pk_b (P := fm (slotN (fkey a b)) = (fkey a b)) (fun b67 => ?_) (fun b67 => ?_)
          · refine lv_if_eq (tgt := 83) hx hb dX3_valueToPut_70 (by decide) (fun c70 => ?_) (fun c70 => ?_)
            · exact absurd c70 (by decide)
            · refine lv_aload_n hx hb dX3_valueToPut_73 rfl (lv_at hl 1 rfl) ?_
              refine va_get (D := D) (ci := 1) (v := .ref vt) (C := RX3) (T := TX3) (N := 1) hx hb hts hinX3 hown hK hP 0 rfl rfl 0 (by decide) hfl9 (fun _ h9 => h9) rfl dX3_valueToPut_74 ?_
              refine lv_lload hx hb dX3_valueToPut_77 (lv_at hl 0 rfl) ?_
              refine vp_callSi (W.runV (As := [.long (fkey a b)]) (rest := []) ⟨hx, hb, hml, hown, hts⟩ (c_X5_valueOf l D cI cJ vt vf vv fm vl (fkey a b)) (cwV 1 hts gX3_valueToPut_X5_valueOf rfl rfl rfl (by decide +kernel) ⟨Nat.le_of_ble_eq_true rfl, Nat.le_of_ble_eq_true rfl⟩) ⟨px_blindW, va_recv hK hP (ci := 2) (q0 := 1) rfl rfl, fun U hU hW => ⟨rfl, by rw [hU]; exact hP.sub (ws' := [(vt, .inr (2, [.ref vf, .ref vv])), (vf, .inl (cJ, 1024, .inr (.inl fm))), (vv, .inl (cI, 1024, .inl vl))]) [1, 2, 3] rfl, va_K.moved hW.alike hK⟩⟩ rfl rfl hl.1 rfl (lv_room (Nat.le_of_ble_eq_true rfl)) dX3_valueToPut_79 ⟨(Nat.le_of_ble_eq_true rfl), (Nat.le_of_ble_eq_true rfl)⟩) (fun r79 er79 => ?_)
              obtain rfl := er79.symm
              refine W.iret (v := (vl (slotN (fkey a b)))) hx hb hr (fun tt ht hW => ⟨⟨(vl (slotN (fkey a b))), (fm, vl), rfl, ?_, by rw [ht]; exact hP, va_K.moved hW.alike hK, hD⟩, hS.F ht⟩) hS.2.2 dX3_valueToPut_82
              exact ⟨by { exact (hT _ (slot_in _) 2 a b hB (by omega) b67.symm).symm }, hT⟩
          · refine lv_if_eq (tgt := 83) hx hb dX3_valueToPut_70 (by decide) (fun c70 => ?_) (fun c70 => ?_)
            · refine lv_aload_n hx hb dX3_valueToPut_83 rfl (lv_at hl 1 rfl) ?_
              refine lv_lload_n hx hb dX3_valueToPut_84 rfl (lv_at hl 2 rfl) ?_
              refine lv_lload_n hx hb dX3_valueToPut_85 rfl (lv_at hl 3 rfl) ?_
              refine lv_iload hx hb dX3_valueToPut_86 (lv_at hl 4 rfl) ?_
              have hPc := hP.sub (ws' := [(h0, .inr (1, [.ref vt])), (vt, .inr (2, [.ref vf, .ref vv])), (vf, .inl (cJ, 1024, .inr (.inl fm))), (vv, .inl (cI, 1024, .inl vl))]) [0, 1, 2, 3] rfl
              have hDc := hD.sub (ws' := [(h0, .inr (1, [.ref vt])), (vt, .inr (2, [.ref vf, .ref vv])), (vf, .inl (cJ, 1024, .inr (.inl fm))), (vv, .inl (cI, 1024, .inl vl))]) [0, 1, 2, 3] (by decide) rfl
              have hFc := va_free (wc := [(h0, .inr (1, [.ref vt])), (vt, .inr (2, [.ref vf, .ref vv])), (vf, .inl (cJ, 1024, .inr (.inl fm))), (vv, .inl (cI, 1024, .inl vl))]) hD hS hA [0, 1, 2, 3] rfl
              refine va_calli (va_runV (As := [.long a, .long b, .int 2]) (rest := []) ⟨hx, hb, hml, hown, hts⟩ (c_X3_playMarbles_f2 l D cI cJ s.heap.size  h0 vt vf vv fm vl hT a b hB) (cwV 3 hts gX3_valueToPut_X3_playMarbles rfl rfl rfl (by decide +kernel) ⟨Nat.le_of_ble_eq_true rfl, Nat.le_of_ble_eq_true rfl⟩) ⟨(px_blindE pv_blind), va_recv hK hPc (ci := 1) (q0 := 0) rfl rfl, fun U hU hW => ⟨rfl, hEN.warm hW, by rw [hU], by rw [hU]; exact hPc, va_K.moved hW.alike hK, hDc.weaken (fun _ _ _ _ => trivial)⟩⟩ rfl rfl hl.1 rfl (lv_room (Nat.le_of_ble_eq_true rfl)) dX3_valueToPut_88 ⟨(Nat.le_of_ble_eq_true rfl), (Nat.le_of_ble_eq_true rfl)⟩) hS (fun q _ h => hFc q h) hFc (fun r88 u t9 H1 locs hth hvm hw88 hB hz1 hk1 hS => ?_)
              obtain ⟨fm88, vl88⟩ := u
              try dsimp only at hw88
              obtain ⟨hP1, hK1, hD1⟩ := hB
              rw [hth] at hP1
              obtain ⟨hP, hD⟩ := va_join (wr := []) (w1 := [(h0, .inr (1, [.ref vt])), (vt, .inr (2, [.ref vf, .ref vv])), (vf, .inl (cJ, 1024, .inr (.inl fm88))), (vv, .inl (cI, 1024, .inl vl88))]) hP hD [0, 1, 2, 3] [] rfl rfl (by decide) (by decide) hk1 hFc hP1 hD1
              generalize H1 = H at hP hS ⊢
              have hP : va_P D vwCl [(h0, .inr (1, [.ref vt])), (vt, .inr (2, [.ref vf, .ref vv])), (vf, .inl (cJ, 1024, .inr (.inl fm88))), (vv, .inl (cI, 1024, .inl vl88))] H := hP.sub (ws' := [(h0, .inr (1, [.ref vt])), (vt, .inr (2, [.ref vf, .ref vv])), (vf, .inl (cJ, 1024, .inr (.inl fm88))), (vv, .inl (cI, 1024, .inl vl88))]) [0, 1, 2, 3] rfl
              have hD : va_D A [(h0, .inr (1, [.ref vt])), (vt, .inr (2, [.ref vf, .ref vv])), (vf, .inl (cJ, 1024, .inr (.inl fm88))), (vv, .inl (cI, 1024, .inl vl88))] := hD.sub (ws' := [(h0, .inr (1, [.ref vt])), (vt, .inr (2, [.ref vf, .ref vv])), (vf, .inl (cJ, 1024, .inr (.inl fm88))), (vv, .inl (cI, 1024, .inl vl88))]) [0, 1, 2, 3] (by decide) rfl
              obtain ⟨hv9, hT88⟩ := hw88
              obtain rfl := hv9.symm
              refine lv_istore (lv' := [(8, .int (vput 2 a b)), (6, .long (fkey a b)), (0, .ref h0), (1, .long a), (3, .long b), (5, .int 2)]) hx hb dX3_valueToPut_91 hl (by decide) rfl (fun ls hl => ?_)
              refine lv_aload_n hx hb dX3_valueToPut_93 rfl (lv_at hl 2 rfl) ?_
              refine va_get (D := D) (ci := 1) (v := .ref vt) (C := RX3) (T := TX3) (N := 1) hx hb hts hinX3 hown hK hP 0 rfl rfl 0 (by decide) hfl9 (fun _ h9 => h9) rfl dX3_valueToPut_94 ?_
              refine lv_lload hx hb dX3_valueToPut_97 (lv_at hl 1 rfl) ?_
              refine lv_iload hx hb dX3_valueToPut_99 (lv_at hl 0 rfl) ?_
              have hPc := hP.sub (ws' := [(vt, .inr (2, [.ref vf, .ref vv])), (vf, .inl (cJ, 1024, .inr (.inl fm88))), (vv, .inl (cI, 1024, .inl vl88))]) [1, 2, 3] rfl
              have hDc := hD.sub (ws' := [(vt, .inr (2, [.ref vf, .ref vv])), (vf, .inl (cJ, 1024, .inr (.inl fm88))), (vv, .inl (cI, 1024, .inl vl88))]) [1, 2, 3] (by decide) rfl
              have hFc := va_free (wc := [(vt, .inr (2, [.ref vf, .ref vv])), (vf, .inl (cJ, 1024, .inr (.inl fm88))), (vv, .inl (cI, 1024, .inl vl88))]) hD hS hA [1, 2, 3] rfl
              refine va_callv (va_runV (As := [.long (fkey a b), .int (vput 2 a b)]) (rest := []) ⟨hx, hb, hml, hown, hts⟩ (c_X5_keep l D cI cJ H.size  vt vf vv fm88 vl88 (fkey a b) (vput 2 a b)) (cwV 2 hts gX3_valueToPut_X5_keep rfl rfl rfl (by decide +kernel) ⟨Nat.le_of_ble_eq_true rfl, Nat.le_of_ble_eq_true rfl⟩) ⟨pv_blind, va_recv hK hPc (ci := 2) (q0 := 0) rfl rfl, fun U hU hW => ⟨rfl, by rw [hU], by rw [hU]; exact hPc, va_K.moved hW.alike hK, hDc.weaken (fun _ _ _ _ => trivial)⟩⟩ rfl rfl hl.1 rfl (lv_room (Nat.le_of_ble_eq_true rfl)) dX3_valueToPut_101 ⟨(Nat.le_of_ble_eq_true rfl), (Nat.le_of_ble_eq_true rfl)⟩) hS (fun q _ h => hFc q h) hFc (fun u t9 H1 locs hth hvm hw101 hB hz1 hk1 hS => ?_)
              try dsimp only at hw101
              obtain ⟨hP1, hK1, hD1⟩ := hB
              rw [hth] at hP1
              obtain ⟨hP, hD⟩ := va_join (wr := [(h0, .inr (1, [.ref vt]))]) (w1 := [(vt, .inr (2, [.ref vf, .ref vv])), (vf, .inl (cJ, 1024, .inr (.inl (vp_updL fm88 (slotN (fkey a b)) (fkey a b))))), (vv, .inl (cI, 1024, .inl (upd vl88 (slotN (fkey a b)) (vput 2 a b))))]) hP hD [1, 2, 3] [0] rfl rfl (by decide) (by decide) hk1 hFc hP1 hD1
              generalize H1 = H at hP hS ⊢
              have hP : va_P D vwCl [(h0, .inr (1, [.ref vt])), (vt, .inr (2, [.ref vf, .ref vv])), (vf, .inl (cJ, 1024, .inr (.inl (vp_updL fm88 (slotN (fkey a b)) (fkey a b))))), (vv, .inl (cI, 1024, .inl (upd vl88 (slotN (fkey a b)) (vput 2 a b))))] H := hP.sub (ws' := [(h0, .inr (1, [.ref vt])), (vt, .inr (2, [.ref vf, .ref vv])), (vf, .inl (cJ, 1024, .inr (.inl (vp_updL fm88 (slotN (fkey a b)) (fkey a b))))), (vv, .inl (cI, 1024, .inl (upd vl88 (slotN (fkey a b)) (vput 2 a b))))]) [0, 1, 2, 3] rfl
              have hD : va_D A [(h0, .inr (1, [.ref vt])), (vt, .inr (2, [.ref vf, .ref vv])), (vf, .inl (cJ, 1024, .inr (.inl (vp_updL fm88 (slotN (fkey a b)) (fkey a b))))), (vv, .inl (cI, 1024, .inl (upd vl88 (slotN (fkey a b)) (vput 2 a b))))] := hD.sub (ws' := [(h0, .inr (1, [.ref vt])), (vt, .inr (2, [.ref vf, .ref vv])), (vf, .inl (cJ, 1024, .inr (.inl (vp_updL fm88 (slotN (fkey a b)) (fkey a b))))), (vv, .inl (cI, 1024, .inl (upd vl88 (slotN (fkey a b)) (vput 2 a b))))]) [0, 1, 2, 3] (by decide) rfl
              have hT101 := ti_keep hT88 (n := 2) (by omega) hB
              refine lv_iload hx hb dX3_valueToPut_104 (lv_at hl 0 rfl) ?_
              refine W.iret (v := (vput 2 a b)) hx hb hr (fun tt ht hW => ⟨⟨(vput 2 a b), ((vp_updL fm88 (slotN (fkey a b)) (fkey a b)), (upd vl88 (slotN (fkey a b)) (vput 2 a b))), rfl, ?_, by rw [ht]; exact hP, va_K.moved hW.alike hK, hD⟩, hS.F ht⟩) hS.2.2 dX3_valueToPut_106
              exact ⟨by { exact rfl }, hT101⟩
            · exact absurd c70 (by decide)
      · exact absurd c23 (by decide)
    · exact absurd c8 (by decide)

set_option maxHeartbeats 400000 in
set_option maxRecDepth 100000 in
theorem c_X3_valueBehindTurn_f2 (l : Launch) (D : va_G) (cI cJ : ClassId) (sz : Nat) (h0 vt vf vv : Nat) (fm : Nat → Int64) (vl : Nat → Int32) (hT : TI fm vl) (a b : Int64) (tn : Nat) (htn : tn < 8) (hB : BH 2 a b) : Met l yX3_valueBehindTurn wsX3_valueBehindTurn ({ frames := 10, cells := 0, slots := 0, locals := 287 } : Room) (va_Pc [.ref h0, .long a, .long b, .int (nI tn), .int 2] (px_E (pv_C D cI cJ [(h0, .inr (1, [.ref vt])), (vt, .inr (2, [.ref vf, .ref vv])), (vf, .inl (cJ, 1024, .inr (.inl fm))), (vv, .inl (cI, 1024, .inl vl))] sz))) (va_Qi (fun (r : Int32) (u : (Nat → Int64) × (Nat → Int32)) => r = vbehind (vput 2) a b tn ∧ TI u.1 u.2) (fun (u : (Nat → Int64) × (Nat → Int32)) => pv_B D cI cJ (va_A [(h0, .inr (1, [.ref vt])), (vt, .inr (2, [.ref vf, .ref vv])), (vf, .inl (cJ, 1024, .inr (.inl fm))), (vv, .inl (cI, 1024, .inl vl))] sz) [(h0, .inr (1, [.ref vt])), (vt, .inr (2, [.ref vf, .ref vv])), (vf, .inl (cJ, 1024, .inr (.inl u.1))), (vv, .inl (cI, 1024, .inl u.2))]) (va_A [(h0, .inr (1, [.ref vt])), (vt, .inr (2, [.ref vf, .ref vv])), (vf, .inl (cJ, 1024, .inr (.inl fm))), (vv, .inl (cI, 1024, .inl vl))] sz)) 0 0 (va_A [(h0, .inr (1, [.ref vt])), (vt, .inr (2, [.ref vf, .ref vv])), (vf, .inl (cJ, 1024, .inr (.inl fm))), (vv, .inl (cI, 1024, .inl vl))] sz) := by
  refine Met.ofW (cc := cX3_valueBehindTurn) (maxL := 13) (ret := (some .int)) (by decide) rfl ?_
  intro p e s m args below meth c s₁ B hml hv
  obtain ⟨rfl, hEN, rfl, hP, hK, hD0⟩ := hv
  have hx := B.exec
  have hb := B.bytes
  have hr := B.returns
  have hts := atoms_spec (ws := wsX3_valueBehindTurn) B.pre
  have hown : s.vm.findClass RX3 = some m.cls := findClass_of_methodNamed B.named
  have hlocks := B.notSynchronized
  have hD := hD0.self (sz := s.heap.size)
  generalize hAe : va_A [(h0, .inr (1, [.ref vt])), (vt, .inr (2, [.ref vf, .ref vv])), (vf, .inl (cJ, 1024, .inr (.inl fm))), (vv, .inl (cI, 1024, .inl vl))] s.heap.size = A at hD ⊢
  have hA : ∀ q : Nat, s.heap.size ≤ q → A q := fun q h => by rw [← hAe]; exact Or.inr h
  have hS : va_S A s.heap s.heap [] := va_S.rf
  have hl := lv_entry ([.ref h0, .long a, .long b, .int (nI tn), .int 2]) (n := 13) (Nat.le_of_ble_eq_true rfl)
  rw [lg_entry_eq]
  generalize (lg_sl ([.ref h0, .long a, .long b, .int (nI tn), .int 2]) ++ List.replicate (13 - (lg_sl ([.ref h0, .long a, .long b, .int (nI tn), .int 2])).length) Slot.unset).toArray = ls at hl ⊢
  have hl : lv_has ls 13 [(0, .ref h0), (1, .long a), (3, .long b), (5, .int (nI tn)), (6, .int 2)] := hl
  refine lv_lload_n hx hb dX3_valueBehindTurn_0 rfl (lv_at hl 1 rfl) ?_
  refine lv_iload hx hb dX3_valueBehindTurn_1 (lv_at hl 3 rfl) ?_
  refine vp_callSl (W.runS (As := [.long a, .int (nI tn)]) (rest := []) ⟨hx, hb, hml, hown, hts⟩ (c_X4_turned l a tn (by omega)) (va_cwS 2 hts gX3_valueBehindTurn_X4_turned rfl rfl rfl (by decide +kernel) ⟨Nat.le_of_ble_eq_true rfl, Nat.le_of_ble_eq_true rfl⟩) ⟨px_blind0, fun U hU hW => ⟨rfl, trivial⟩⟩ rfl rfl hl.1 rfl (lv_room (Nat.le_of_ble_eq_true rfl)) dX3_valueBehindTurn_3 ⟨(Nat.le_of_ble_eq_true rfl), (Nat.le_of_ble_eq_true rfl)⟩) (fun r3 er3 => ?_)
  obtain rfl := er3.symm
  refine lv_lstore (lv' := [(7, .long (cturned a tn)), (0, .ref h0), (1, .long a), (3, .long b), (5, .int (nI tn)), (6, .int 2)]) hx hb dX3_valueBehindTurn_6 hl (by decide) rfl (fun ls hl => ?_)
  refine lv_lload_n hx hb dX3_valueBehindTurn_8 rfl (lv_at hl 3 rfl) ?_
  refine lv_iload hx hb dX3_valueBehindTurn_9 (lv_at hl 4 rfl) ?_
  refine vp_callSl (W.runS (As := [.long b, .int (nI tn)]) (rest := []) ⟨hx, hb, hml, hown, hts⟩ (c_X4_turned l b tn (by omega)) (va_cwS 2 hts gX3_valueBehindTurn_X4_turned rfl rfl rfl (by decide +kernel) ⟨Nat.le_of_ble_eq_true rfl, Nat.le_of_ble_eq_true rfl⟩) ⟨px_blind0, fun U hU hW => ⟨rfl, trivial⟩⟩ rfl rfl hl.1 rfl (lv_room (Nat.le_of_ble_eq_true rfl)) dX3_valueBehindTurn_11 ⟨(Nat.le_of_ble_eq_true rfl), (Nat.le_of_ble_eq_true rfl)⟩) (fun r11 er11 => ?_)
  obtain rfl := er11.symm
  refine lv_lstore (lv' := [(9, .long (cturned b tn)), (7, .long (cturned a tn)), (0, .ref h0), (1, .long a), (3, .long b), (5, .int (nI tn)), (6, .int 2)]) hx hb dX3_valueBehindTurn_14 hl (by decide) rfl (fun ls hl => ?_)
  refine lv_lload hx hb dX3_valueBehindTurn_16 (lv_at hl 1 rfl) ?_
  refine vp_callSi (W.runS (As := [.long (cturned a tn)]) (rest := []) ⟨hx, hb, hml, hown, hts⟩ (c_X1_hasLine l (cturned a tn)) (va_cwS 1 hts gX3_valueBehindTurn_X1_hasLine rfl rfl rfl (by decide +kernel) ⟨Nat.le_of_ble_eq_true rfl, Nat.le_of_ble_eq_true rfl⟩) ⟨px_blind0, fun U hU hW => ⟨rfl, trivial⟩⟩ rfl rfl hl.1 rfl (lv_room (Nat.le_of_ble_eq_true rfl)) dX3_valueBehindTurn_18 ⟨(Nat.le_of_ble_eq_true rfl), (Nat.le_of_ble_eq_true rfl)⟩) (fun r18 er18 => ?_)
  obtain rfl := er18.symm
  refine pk_b (P := cline (cturned a tn) = true) (fun b18 => ?_) (fun b18 => ?_)
  · refine lv_istore (lv' := [(11, .int 1), (9, .long (cturned b tn)), (7, .long (cturned a tn)), (0, .ref h0), (1, .long a), (3, .long b), (5, .int (nI tn)), (6, .int 2)]) hx hb dX3_valueBehindTurn_21 hl (by decide) rfl (fun ls hl => ?_)
    refine lv_lload hx hb dX3_valueBehindTurn_23 (lv_at hl 1 rfl) ?_
    refine vp_callSi (W.runS (As := [.long (cturned b tn)]) (rest := []) ⟨hx, hb, hml, hown, hts⟩ (c_X1_hasLine l (cturned b tn)) (va_cwS 1 hts gX3_valueBehindTurn_X1_hasLine rfl rfl rfl (by decide +kernel) ⟨Nat.le_of_ble_eq_true rfl, Nat.le_of_ble_eq_true rfl⟩) ⟨px_blind0, fun U hU hW => ⟨rfl, trivial⟩⟩ rfl rfl hl.1 rfl (lv_room (Nat.le_of_ble_eq_true rfl)) dX3_valueBehindTurn_25 ⟨(Nat.le_of_ble_eq_true rfl), (Nat.le_of_ble_eq_true rfl)⟩) (fun r25 er25 => ?_)
    obtain rfl := er25.symm
    refine pk_b (P := cline (cturned b tn) = true) (fun b25 => ?_) (fun b25 => ?_)
    · refine lv_istore (lv' := [(12, .int 1), (11, .int 1), (9, .long (cturned b tn)), (7, .long (cturned a tn)), (0, .ref h0), (1, .long a), (3, .long b), (5, .int (nI tn)), (6, .int 2)]) hx hb dX3_valueBehindTurn_28 hl (by decide) rfl (fun ls hl => ?_)
      refine lv_iload hx hb dX3_valueBehindTurn_30 (lv_at hl 1 rfl) ?_
      refine lv_iload hx hb dX3_valueBehindTurn_32 (lv_at hl 0 rfl) ?_
      refine lv_icmp_eq (tgt := 48) hx hb dX3_valueBehindTurn_34 (by decide) (fun c34 => ?_) (fun c34 => ?_)
      · refine lv_iload hx hb dX3_valueBehindTurn_48 (lv_at hl 1 rfl) ?_
        refine lv_if_eq (tgt := 57) hx hb dX3_valueBehindTurn_50 (by decide) (fun c50 => ?_) (fun c50 => ?_)
        · exact absurd c50 (by decide)
        · refine lv_iconst (v := 0) hx hb dX3_valueBehindTurn_53 (by decide) ?_
          refine lv_goto (tgt := 68) hx hb dX3_valueBehindTurn_54 (by decide) ?_
          refine W.iret (v := 0) hx hb hr (fun tt ht hW => ⟨⟨0, (fm, vl), rfl, ?_, by rw [ht]; exact hP, va_K.moved hW.alike hK, hD⟩, hS.F ht⟩) hS.2.2 dX3_valueBehindTurn_68
          exact ⟨by { skip; unfold vbehind; first | (rw [if_pos b18, if_pos b25]; done) | (rw [if_pos b18, if_neg b25]; done) | (rw [if_neg b18, if_pos b25]; done) | (rw [if_neg b18, if_neg b25]; done) }, hT⟩
      · exact absurd c34 (by decide)
    · refine lv_istore (lv' := [(12, .int 0), (11, .int 1), (9, .long (cturned b tn)), (7, .long (cturned a tn)), (0, .ref h0), (1, .long a), (3, .long b), (5, .int (nI tn)), (6, .int 2)]) hx hb dX3_valueBehindTurn_28 hl (by decide) rfl (fun ls hl => ?_)
      refine lv_iload hx hb dX3_valueBehindTurn_30 (lv_at hl 1 rfl) ?_
      refine lv_iload hx hb dX3_valueBehindTurn_32 (lv_at hl 0 rfl) ?_
      refine lv_icmp_eq (tgt := 48) hx hb dX3_valueBehindTurn_34 (by decide) (fun c34 => ?_) (fun c34 => ?_)
      · exact absurd c34 (by decide)
      · refine lv_iload hx hb dX3_valueBehindTurn_37 (lv_at hl 1 rfl) ?_
        refine lv_if_eq (tgt := 46) hx hb dX3_valueBehindTurn_39 (by decide) (fun c39 => ?_) (fun c39 => ?_)
        · exact absurd c39 (by decide)
        · refine lv_iconst (v := 1) hx hb dX3_valueBehindTurn_42 (by decide) ?_
          refine lv_goto (tgt := 47) hx hb dX3_valueBehindTurn_43 (by decide) ?_
          refine W.iret (v := 1) hx hb hr (fun tt ht hW => ⟨⟨1, (fm, vl), rfl, ?_, by rw [ht]; exact hP, va_K.moved hW.alike hK, hD⟩, hS.F ht⟩) hS.2.2 dX3_valueBehindTurn_47
          exact ⟨by { skip; unfold vbehind; first | (rw [if_pos b18, if_pos b25]; done) | (rw [if_pos b18, if_neg b25]; done) | (rw [if_neg b18, if_pos b25]; done) | (rw [if_neg b18, if_neg b25]; done) }, hT⟩
  · refine lv_istore (lv' := [(11, .int 0), (9, .long (cturned b tn)), (7, .long (cturned a tn)), (0, .ref h0), (1, .long a), (3, .long b), (5, .int (nI tn)), (6, .int 2)]) hx hb dX3_valueBehindTurn_21 hl (by decide) rfl (fun ls hl => ?_)
    refine lv_lload hx hb dX3_valueBehindTurn_23 (lv_at hl 1 rfl) ?_
    refine vp_callSi (W.runS (As := [.long (cturned b tn)]) (rest := []) ⟨hx, hb, hml, hown, hts⟩ (c_X1_hasLine l (cturned b tn)) (va_cwS 1 hts gX3_valueBehindTurn_X1_hasLine rfl rfl rfl (by decide +kernel) ⟨Nat.le_of_ble_eq_true rfl, Nat.le_of_ble_eq_true rfl⟩) ⟨px_blind0, fun U hU hW => ⟨rfl, trivial⟩⟩ rfl rfl hl.1 rfl (lv_room (Nat.le_of_ble_eq_true rfl)) dX3_valueBehindTurn_25 ⟨(Nat.le_of_ble_eq_true rfl), (Nat.le_of_ble_eq_true rfl)⟩) (fun r25 er25 => ?_)
    obtain rfl := er25.symm
    refine pk_b (P := cline (cturned b tn) = true) (fun b25 => ?_) (fun b25 => ?_)
    · refine lv_istore (lv' := [(12, .int 1), (11, .int 0), (9, .long (cturned b tn)), (7, .long (cturned a tn)), (0, .ref h0), (1, .long a), (3, .long b), (5, .int (nI tn)), (6, .int 2)]) hx hb dX3_valueBehindTurn_28 hl (by decide) rfl (fun ls hl => ?_)
      refine lv_iload hx hb dX3_valueBehindTurn_30 (lv_at hl 1 rfl) ?_
      refine lv_iload hx hb dX3_valueBehindTurn_32 (lv_at hl 0 rfl) ?_
      refine lv_icmp_eq (tgt := 48) hx hb dX3_valueBehindTurn_34 (by decide) (fun c34 => ?_) (fun c34 => ?_)
      · exact absurd c34 (by decide)
      · refine lv_iload hx hb dX3_valueBehindTurn_37 (lv_at hl 1 rfl) ?_
        refine lv_if_eq (tgt := 46) hx hb dX3_valueBehindTurn_39 (by decide) (fun c39 => ?_) (fun c39 => ?_)
        · refine lv_iconst (v := (-1)) hx hb dX3_valueBehindTurn_46 (by decide) ?_
          refine W.iret (v := (-1)) hx hb hr (fun tt ht hW => ⟨⟨(-1), (fm, vl), rfl, ?_, by rw [ht]; exact hP, va_K.moved hW.alike hK, hD⟩, hS.F ht⟩) hS.2.2 dX3_valueBehindTurn_47
          exact ⟨by { skip; unfold vbehind; first | (rw [if_pos b18, if_pos b25]; done) | (rw [if_pos b18, if_neg b25]; done) | (rw [if_neg b18, if_pos b25]; done) | (rw [if_neg b18, if_neg b25]; done) }, hT⟩
        · exact absurd c39 (by decide)
    · refine lv_istore (lv' := [(12, .int 0), (11, .int 0), (9, .long (cturned b tn)), (7, .long (cturned a tn)), (0, .ref h0), (1, .long a), (3, .long b), (5, .int (nI tn)), (6, .int 2)]) hx hb dX3_valueBehindTurn_28 hl (by decide) rfl (fun ls hl => ?_)
      refine lv_iload hx hb dX3_valueBehindTurn_30 (lv_at hl 1 rfl) ?_
      refine lv_iload hx hb dX3_valueBehindTurn_32 (lv_at hl 0 rfl) ?_
      refine lv_icmp_eq (tgt := 48) hx hb dX3_valueBehindTurn_34 (by decide) (fun c34 => ?_) (fun c34 => ?_)
      · refine lv_iload hx hb dX3_valueBehindTurn_48 (lv_at hl 1 rfl) ?_
        refine lv_if_eq (tgt := 57) hx hb dX3_valueBehindTurn_50 (by decide) (fun c50 => ?_) (fun c50 => ?_)
        · refine lv_aload_n hx hb dX3_valueBehindTurn_57 rfl (lv_at hl 4 rfl) ?_
          refine lv_lload hx hb dX3_valueBehindTurn_58 (lv_at hl 2 rfl) ?_
          refine lv_lload hx hb dX3_valueBehindTurn_60 (lv_at hl 3 rfl) ?_
          refine lv_iload hx hb dX3_valueBehindTurn_62 (lv_at hl 8 rfl) ?_
          have hPc := hP.sub (ws' := [(h0, .inr (1, [.ref vt])), (vt, .inr (2, [.ref vf, .ref vv])), (vf, .inl (cJ, 1024, .inr (.inl fm))), (vv, .inl (cI, 1024, .inl vl))]) [0, 1, 2, 3] rfl
          have hDc := hD.sub (ws' := [(h0, .inr (1, [.ref vt])), (vt, .inr (2, [.ref vf, .ref vv])), (vf, .inl (cJ, 1024, .inr (.inl fm))), (vv, .inl (cI, 1024, .inl vl))]) [0, 1, 2, 3] (by decide) rfl
          have hFc := va_free (wc := [(h0, .inr (1, [.ref vt])), (vt, .inr (2, [.ref vf, .ref vv])), (vf, .inl (cJ, 1024, .inr (.inl fm))), (vv, .inl (cI, 1024, .inl vl))]) hD hS hA [0, 1, 2, 3] rfl
          refine va_calli (va_runV (As := [.long (cturned b tn), .long (cturned a tn), .int 2]) (rest := []) ⟨hx, hb, hml, hown, hts⟩ (c_X3_valueToPut_f2 l D cI cJ s.heap.size  h0 vt vf vv fm vl hT (cturned b tn) (cturned a tn) (bh_turn hB htn)) (cwV 3 hts gX3_valueBehindTurn_X3_valueToPut rfl rfl rfl (by decide +kernel) ⟨Nat.le_of_ble_eq_true rfl, Nat.le_of_ble_eq_true rfl⟩) ⟨(px_blindE pv_blind), va_recv hK hPc (ci := 1) (q0 := 0) rfl rfl, fun U hU hW => ⟨rfl, hEN.warm hW, by rw [hU], by rw [hU]; exact hPc, va_K.moved hW.alike hK, hDc.weaken (fun _ _ _ _ => trivial)⟩⟩ rfl rfl hl.1 rfl (lv_room (Nat.le_of_ble_eq_true rfl)) dX3_valueBehindTurn_64 ⟨(Nat.le_of_ble_eq_true rfl), (Nat.le_of_ble_eq_true rfl)⟩) hS (fun q _ h => hFc q h) hFc (fun r64 u t9 H1 locs hth hvm hw64 hB hz1 hk1 hS => ?_)
          obtain ⟨fm64, vl64⟩ := u
          try dsimp only at hw64
          obtain ⟨hP1, hK1, hD1⟩ := hB
          rw [hth] at hP1
          obtain ⟨hP, hD⟩ := va_join (wr := []) (w1 := [(h0, .inr (1, [.ref vt])), (vt, .inr (2, [.ref vf, .ref vv])), (vf, .inl (cJ, 1024, .inr (.inl fm64))), (vv, .inl (cI, 1024, .inl vl64))]) hP hD [0, 1, 2, 3] [] rfl rfl (by decide) (by decide) hk1 hFc hP1 hD1
          generalize H1 = H at hP hS ⊢
          have hP : va_P D vwCl [(h0, .inr (1, [.ref vt])), (vt, .inr (2, [.ref vf, .ref vv])), (vf, .inl (cJ, 1024, .inr (.inl fm64))), (vv, .inl (cI, 1024, .inl vl64))] H := hP.sub (ws' := [(h0, .inr (1, [.ref vt])), (vt, .inr (2, [.ref vf, .ref vv])), (vf, .inl (cJ, 1024, .inr (.inl fm64))), (vv, .inl (cI, 1024, .inl vl64))]) [0, 1, 2, 3] rfl
          have hD : va_D A [(h0, .inr (1, [.ref vt])), (vt, .inr (2, [.ref vf, .ref vv])), (vf, .inl (cJ, 1024, .inr (.inl fm64))), (vv, .inl (cI, 1024, .inl vl64))] := hD.sub (ws' := [(h0, .inr (1, [.ref vt])), (vt, .inr (2, [.ref vf, .ref vv])), (vf, .inl (cJ, 1024, .inr (.inl fm64))), (vv, .inl (cI, 1024, .inl vl64))]) [0, 1, 2, 3] (by decide) rfl
          obtain ⟨hv9, hT64⟩ := hw64
          obtain rfl := hv9.symm
          refine lv_ineg hx hb dX3_valueBehindTurn_67 ?_
          refine lv_topi (fun x67 ex67 => ?_)
          refine W.iret (v := x67) hx hb hr (fun tt ht hW => ⟨⟨x67, (fm64, vl64), rfl, ?_, by rw [ht]; exact hP, va_K.moved hW.alike hK, hD⟩, hS.F ht⟩) hS.2.2 dX3_valueBehindTurn_68
          exact ⟨by { obtain rfl := ex67.symm; unfold vbehind; first | (rw [if_pos b18, if_pos b25]; done) | (rw [if_pos b18, if_neg b25]; done) | (rw [if_neg b18, if_pos b25]; done) | (rw [if_neg b18, if_neg b25]; done) }, hT64⟩
        · exact absurd c50 (by decide)
      · exact absurd c34 (by decide)

set_option maxHeartbeats 400000 in
set_option maxRecDepth 100000 in
theorem c_X3_valueToTurn_f2 (l : Launch) (D : va_G) (cI cJ : ClassId) (sz : Nat) (h0 vt vf vv : Nat) (fm : Nat → Int64) (vl : Nat → Int32) (hT : TI fm vl) (a b : Int64)  (hB : BH 2 a b) : Met l yX3_valueToTurn wsX3_valueToTurn ({ frames := 11, cells := 0, slots := 0, locals := 319 } : Room) (va_Pc [.ref h0, .long a, .long b, .int 2] (px_E (pv_C D cI cJ [(h0, .inr (1, [.ref vt])), (vt, .inr (2, [.ref vf, .ref vv])), (vf, .inl (cJ, 1024, .inr (.inl fm))), (vv, .inl (cI, 1024, .inl vl))] sz))) (va_Qi (fun (r : Int32) (u : (Nat → Int64) × (Nat → Int32)) => r = vturn (vput 2) a b 8 ∧ TI u.1 u.2) (fun (u : (Nat → Int64) × (Nat → Int32)) => pv_B D cI cJ (va_A [(h0, .inr (1, [.ref vt])), (vt, .inr (2, [.ref vf, .ref vv])), (vf, .inl (cJ, 1024, .inr (.inl fm))), (vv, .inl (cI, 1024, .inl vl))] sz) [(h0, .inr (1, [.ref vt])), (vt, .inr (2, [.ref vf, .ref vv])), (vf, .inl (cJ, 1024, .inr (.inl u.1))), (vv, .inl (cI, 1024, .inl u.2))]) (va_A [(h0, .inr (1, [.ref vt])), (vt, .inr (2, [.ref vf, .ref vv])), (vf, .inl (cJ, 1024, .inr (.inl fm))), (vv, .inl (cI, 1024, .inl vl))] sz)) 0 0 (va_A [(h0, .inr (1, [.ref vt])), (vt, .inr (2, [.ref vf, .ref vv])), (vf, .inl (cJ, 1024, .inr (.inl fm))), (vv, .inl (cI, 1024, .inl vl))] sz) := by
  refine Met.ofW (cc := cX3_valueToTurn) (maxL := 8) (ret := (some .int)) (by decide) rfl ?_
  intro p e s m args below meth c s₁ B hml hv
  obtain ⟨rfl, hEN, rfl, hP, hK, hD0⟩ := hv
  have hx := B.exec
  have hb := B.bytes
  have hr := B.returns
  have hts := atoms_spec (ws := wsX3_valueToTurn) B.pre
  have hown : s.vm.findClass RX3 = some m.cls := findClass_of_methodNamed B.named
  have hlocks := B.notSynchronized
  have hD := hD0.self (sz := s.heap.size)
  generalize hAe : va_A [(h0, .inr (1, [.ref vt])), (vt, .inr (2, [.ref vf, .ref vv])), (vf, .inl (cJ, 1024, .inr (.inl fm))), (vv, .inl (cI, 1024, .inl vl))] s.heap.size = A at hD ⊢
  have hA : ∀ q : Nat, s.heap.size ≤ q → A q := fun q h => by rw [← hAe]; exact Or.inr h
  have hS : va_S A s.heap s.heap [] := va_S.rf
  have hmx0 : (Cond.methodLink RX3 48 Lib.Math.max.name).before ([.ref h0, .long a, .long b, .int 2] : List Value).toArray s = true := hts _ (by decide +kernel)
  have hmx1 : (Cond.static Lib.Math.max.name).before ([.ref h0, .long a, .long b, .int 2] : List Value).toArray s = true := hts _ (by decide +kernel)
  have hmx2 : (Cond.initialized "java/lang/Math").before ([.ref h0, .long a, .long b, .int 2] : List Value).toArray s = true := hts _ (by decide +kernel)
  have hmx3 : (Cond.code Lib.Math.max.name Lib.Math.max.code 2 (some .int)).before ([.ref h0, .long a, .long b, .int 2] : List Value).toArray s = true := hts _ (by decide +kernel)
  have hl := lv_entry ([.ref h0, .long a, .long b, .int 2]) (n := 8) (Nat.le_of_ble_eq_true rfl)
  rw [lg_entry_eq]
  generalize (lg_sl ([.ref h0, .long a, .long b, .int 2]) ++ List.replicate (8 - (lg_sl ([.ref h0, .long a, .long b, .int 2])).length) Slot.unset).toArray = ls at hl ⊢
  have hl : lv_has ls 8 [(0, .ref h0), (1, .long a), (3, .long b), (5, .int 2)] := hl
  refine lv_iconst (v := (-1)) hx hb dX3_valueToTurn_0 (by decide) ?_
  refine lv_istore (lv' := [(6, .int (-1)), (0, .ref h0), (1, .long a), (3, .long b), (5, .int 2)]) hx hb dX3_valueToTurn_1 hl (by decide) rfl (fun ls hl => ?_)
  refine lv_iconst (v := 0) hx hb dX3_valueToTurn_3 (by decide) ?_
  refine lv_istore (lv' := [(7, .int 0), (6, .int (-1)), (0, .ref h0), (1, .long a), (3, .long b), (5, .int 2)]) hx hb dX3_valueToTurn_4 hl (by decide) rfl (fun ls hl => ?_)
  have loop6 : ∀ (nn i6 : Nat), i6 + nn = 8 → ∀ (fm6 : Nat → Int64) (vl6 : Nat → Int32) (hT6 : TI fm6 vl6) (H : Heap) (locs : List Loc), va_P D vwCl [(h0, .inr (1, [.ref vt])), (vt, .inr (2, [.ref vf, .ref vv])), (vf, .inl (cJ, 1024, .inr (.inl fm6))), (vv, .inl (cI, 1024, .inl vl6))] H → va_D A [(h0, .inr (1, [.ref vt])), (vt, .inr (2, [.ref vf, .ref vv])), (vf, .inl (cJ, 1024, .inr (.inl fm6))), (vv, .inl (cI, 1024, .inl vl6))] → va_S A s.heap H locs → ∀ ls, lv_has ls 8 [(7, .int (nI i6)), (6, .int (vturn (vput 2) a b i6)), (0, .ref h0), (1, .long a), (3, .long b), (5, .int 2)] → W p l e (headSpec wsX3_valueToTurn ({ frames := 11, cells := 0, slots := 0, locals := 319 } : Room)).room s m ([.ref h0, .long a, .long b, .int 2] : List Value).toArray below meth c H locs 0 0 (MQ below (va_Qi (fun (r : Int32) (u : (Nat → Int64) × (Nat → Int32)) => r = vturn (vput 2) a b 8 ∧ TI u.1 u.2) (fun (u : (Nat → Int64) × (Nat → Int32)) => pv_B D cI cJ (A) [(h0, .inr (1, [.ref vt])), (vt, .inr (2, [.ref vf, .ref vv])), (vf, .inl (cJ, 1024, .inr (.inl u.1))), (vv, .inl (cI, 1024, .inl u.2))]) (A)) ([.ref h0, .long a, .long b, .int 2] : List Value).toArray s 0 0 A) (F0 m 6 ls []) := by
    intro nn
    induction nn with
    | zero =>
      intro i6 hi6 fm6 vl6 hT6 H locs hP hD hS ls hl
      obtain rfl : i6 = 8 := by omega
      refine lv_iload hx hb dX3_valueToTurn_6 (lv_at hl 0 rfl) ?_
      refine lv_bipush (v := 8) hx hb dX3_valueToTurn_8 (by decide) ?_
      refine lv_icmp_ge (tgt := 42) hx hb dX3_valueToTurn_10 (by decide) (fun c10 => ?_) (fun c10 => ?_)
      · have c10 : 8 ≤ 8 := (nq_le (a := 8) (b := 8) (by omega) (by omega)).mp c10
        refine lv_iload hx hb dX3_valueToTurn_42 (lv_at hl 1 rfl) ?_
        refine W.iret (v := (vturn (vput 2) a b 8)) hx hb hr (fun tt ht hW => ⟨⟨(vturn (vput 2) a b 8), (fm6, vl6), rfl, ?_, by rw [ht]; exact hP, va_K.moved hW.alike hK, hD⟩, hS.F ht⟩) hS.2.2 dX3_valueToTurn_44
        exact ⟨by { exact rfl }, hT6⟩
      · have c10 : ¬ 8 ≤ 8 := _root_.mt (nq_le (a := 8) (b := 8) (by omega) (by omega)).mpr c10
        omega
    | succ nn ih6 =>
      intro i6 hi6 fm6 vl6 hT6 H locs hP hD hS ls hl
      refine lv_iload hx hb dX3_valueToTurn_6 (lv_at hl 0 rfl) ?_
      refine lv_bipush (v := 8) hx hb dX3_valueToTurn_8 (by decide) ?_
      refine lv_icmp_ge (tgt := 42) hx hb dX3_valueToTurn_10 (by decide) (fun c10 => ?_) (fun c10 => ?_)
      · have c10 : 8 ≤ i6 := (nq_le (a := 8) (b := i6) (by omega) (by omega)).mp c10
        omega
      · have c10 : ¬ 8 ≤ i6 := _root_.mt (nq_le (a := 8) (b := i6) (by omega) (by omega)).mpr c10
        refine lv_iload hx hb dX3_valueToTurn_13 (lv_at hl 1 rfl) ?_
        refine lv_iconst (v := 1) hx hb dX3_valueToTurn_15 (by decide) ?_
        refine lv_icmp_ge (tgt := 42) hx hb dX3_valueToTurn_16 (by decide) (fun c16 => ?_) (fun c16 => ?_)
        · refine lv_iload hx hb dX3_valueToTurn_42 (lv_at hl 1 rfl) ?_
          refine W.iret (v := (vturn (vput 2) a b i6)) hx hb hr (fun tt ht hW => ⟨⟨(vturn (vput 2) a b i6), (fm6, vl6), rfl, ?_, by rw [ht]; exact hP, va_K.moved hW.alike hK, hD⟩, hS.F ht⟩) hS.2.2 dX3_valueToTurn_44
          exact ⟨by { exact stop8 c16 (by omega) }, hT6⟩
        · refine lv_iload hx hb dX3_valueToTurn_19 (lv_at hl 1 rfl) ?_
          refine lv_aload_n hx hb dX3_valueToTurn_21 rfl (lv_at hl 2 rfl) ?_
          refine lv_lload_n hx hb dX3_valueToTurn_22 rfl (lv_at hl 3 rfl) ?_
          refine lv_lload_n hx hb dX3_valueToTurn_23 rfl (lv_at hl 4 rfl) ?_
          refine lv_iload hx hb dX3_valueToTurn_24 (lv_at hl 0 rfl) ?_
          refine lv_iload hx hb dX3_valueToTurn_26 (lv_at hl 5 rfl) ?_
          have hPc := hP.sub (ws' := [(h0, .inr (1, [.ref vt])), (vt, .inr (2, [.ref vf, .ref vv])), (vf, .inl (cJ, 1024, .inr (.inl fm6))), (vv, .inl (cI, 1024, .inl vl6))]) [0, 1, 2, 3] rfl
          have hDc := hD.sub (ws' := [(h0, .inr (1, [.ref vt])), (vt, .inr (2, [.ref vf, .ref vv])), (vf, .inl (cJ, 1024, .inr (.inl fm6))), (vv, .inl (cI, 1024, .inl vl6))]) [0, 1, 2, 3] (by decide) rfl
          have hFc := va_free (wc := [(h0, .inr (1, [.ref vt])), (vt, .inr (2, [.ref vf, .ref vv])), (vf, .inl (cJ, 1024, .inr (.inl fm6))), (vv, .inl (cI, 1024, .inl vl6))]) hD hS hA [0, 1, 2, 3] rfl
          refine va_calli (va_runV (As := [.long a, .long b, .int (nI i6), .int 2]) (rest := [.int (vturn (vput 2) a b i6)]) ⟨hx, hb, hml, hown, hts⟩ (c_X3_valueBehindTurn_f2 l D cI cJ H.size  h0 vt vf vv fm6 vl6 hT6 a b i6 (by omega) hB) (cwV 4 hts gX3_valueToTurn_X3_valueBehindTurn rfl rfl rfl (by decide +kernel) ⟨Nat.le_of_ble_eq_true rfl, Nat.le_of_ble_eq_true rfl⟩) ⟨(px_blindE pv_blind), va_recv hK hPc (ci := 1) (q0 := 0) rfl rfl, fun U hU hW => ⟨rfl, hEN.warm hW, by rw [hU], by rw [hU]; exact hPc, va_K.moved hW.alike hK, hDc.weaken (fun _ _ _ _ => trivial)⟩⟩ rfl rfl hl.1 rfl (lv_room (Nat.le_of_ble_eq_true rfl)) dX3_valueToTurn_28 ⟨(Nat.le_of_ble_eq_true rfl), (Nat.le_of_ble_eq_true rfl)⟩) hS (fun q _ h => hFc q h) hFc (fun r28 u t9 H1 locs hth hvm hw28 hB hz1 hk1 hS => ?_)
          obtain ⟨fm28, vl28⟩ := u
          try dsimp only at hw28
          obtain ⟨hP1, hK1, hD1⟩ := hB
          rw [hth] at hP1
          obtain ⟨hP, hD⟩ := va_join (wr := []) (w1 := [(h0, .inr (1, [.ref vt])), (vt, .inr (2, [.ref vf, .ref vv])), (vf, .inl (cJ, 1024, .inr (.inl fm28))), (vv, .inl (cI, 1024, .inl vl28))]) hP hD [0, 1, 2, 3] [] rfl rfl (by decide) (by decide) hk1 hFc hP1 hD1
          generalize H1 = H at hP hS ⊢
          have hP : va_P D vwCl [(h0, .inr (1, [.ref vt])), (vt, .inr (2, [.ref vf, .ref vv])), (vf, .inl (cJ, 1024, .inr (.inl fm28))), (vv, .inl (cI, 1024, .inl vl28))] H := hP.sub (ws' := [(h0, .inr (1, [.ref vt])), (vt, .inr (2, [.ref vf, .ref vv])), (vf, .inl (cJ, 1024, .inr (.inl fm28))), (vv, .inl (cI, 1024, .inl vl28))]) [0, 1, 2, 3] rfl
          have hD : va_D A [(h0, .inr (1, [.ref vt])), (vt, .inr (2, [.ref vf, .ref vv])), (vf, .inl (cJ, 1024, .inr (.inl fm28))), (vv, .inl (cI, 1024, .inl vl28))] := hD.sub (ws' := [(h0, .inr (1, [.ref vt])), (vt, .inr (2, [.ref vf, .ref vv])), (vf, .inl (cJ, 1024, .inr (.inl fm28))), (vv, .inl (cI, 1024, .inl vl28))]) [0, 1, 2, 3] (by decide) rfl
          obtain ⟨hv9, hT28⟩ := hw28
          obtain rfl := hv9.symm
          refine va_mmax hx hb (by rw [hml]; exact hl.1.symm) hown hmx0 hmx1 hmx2 hmx3 (by decide) (Nat.le_of_ble_eq_true rfl) (Nat.le_of_ble_eq_true rfl) (Nat.le_of_ble_eq_true rfl) dX3_valueToTurn_31 ?_
          refine lv_topi (fun x31 ex31 => ?_)
          refine lv_istore (lv' := [(6, .int x31), (7, .int (nI i6)), (0, .ref h0), (1, .long a), (3, .long b), (5, .int 2)]) hx hb dX3_valueToTurn_34 hl (by decide) rfl (fun ls hl => ?_)
          refine lv_iinc (v := nI (i6 + 1)) (lv' := [(7, .int (nI (i6 + 1))), (6, .int x31), (0, .ref h0), (1, .long a), (3, .long b), (5, .int 2)]) hx hb dX3_valueToTurn_36 hl (k := 1) rfl (nI_add i6 1) (by decide) rfl (fun ls hl => ?_)
          refine lv_goto (tgt := 6) hx hb dX3_valueToTurn_39 (by decide) ?_
          exact ih6 (i6 + 1) (by omega) _ _ hT28 _ _ hP hD hS ls (by { have e9 : (x31 : Int32) = (vturn (vput 2) a b (i6 + 1)) := by { obtain rfl := ex31.symm; exact vturn_s c16 }; rw [← e9]; exact lv_sub hl [0, 1, 2, 3, 4, 5] rfl })
  exact loop6 8 0 (by omega) _ _ hT _ _ hP hD hS ls (lv_sub hl [0, 1, 2, 3, 4, 5] rfl)

set_option maxHeartbeats 400000 in
set_option maxRecDepth 100000 in
theorem c_X3_lowestBestTurn_f2 (l : Launch) (D : va_G) (cI cJ : ClassId) (sz : Nat) (h0 vt vf vv : Nat) (fm : Nat → Int64) (vl : Nat → Int32) (hT : TI fm vl) (a b : Int64)  (hB : BH 2 a b) : Met l yX3_lowestBestTurn wsX3_lowestBestTurn ({ frames := 11, cells := 0, slots := 0, locals := 319 } : Room) (va_Pc [.ref h0, .long a, .long b, .int 2] (px_E (pv_C D cI cJ [(h0, .inr (1, [.ref vt])), (vt, .inr (2, [.ref vf, .ref vv])), (vf, .inl (cJ, 1024, .inr (.inl fm))), (vv, .inl (cI, 1024, .inl vl))] sz))) (va_Qi (fun (r : Int32) (u : (Nat → Int64) × (Nat → Int32)) => r = nI (tlow (vput 2) a b 8).2 ∧ TI u.1 u.2) (fun (u : (Nat → Int64) × (Nat → Int32)) => pv_B D cI cJ (va_A [(h0, .inr (1, [.ref vt])), (vt, .inr (2, [.ref vf, .ref vv])), (vf, .inl (cJ, 1024, .inr (.inl fm))), (vv, .inl (cI, 1024, .inl vl))] sz) [(h0, .inr (1, [.ref vt])), (vt, .inr (2, [.ref vf, .ref vv])), (vf, .inl (cJ, 1024, .inr (.inl u.1))), (vv, .inl (cI, 1024, .inl u.2))]) (va_A [(h0, .inr (1, [.ref vt])), (vt, .inr (2, [.ref vf, .ref vv])), (vf, .inl (cJ, 1024, .inr (.inl fm))), (vv, .inl (cI, 1024, .inl vl))] sz)) 0 0 (va_A [(h0, .inr (1, [.ref vt])), (vt, .inr (2, [.ref vf, .ref vv])), (vf, .inl (cJ, 1024, .inr (.inl fm))), (vv, .inl (cI, 1024, .inl vl))] sz) := by
  refine Met.ofW (cc := cX3_lowestBestTurn) (maxL := 10) (ret := (some .int)) (by decide) rfl ?_
  intro p e s m args below meth c s₁ B hml hv
  obtain ⟨rfl, hEN, rfl, hP, hK, hD0⟩ := hv
  have hx := B.exec
  have hb := B.bytes
  have hr := B.returns
  have hts := atoms_spec (ws := wsX3_lowestBestTurn) B.pre
  have hown : s.vm.findClass RX3 = some m.cls := findClass_of_methodNamed B.named
  have hlocks := B.notSynchronized
  have hD := hD0.self (sz := s.heap.size)
  generalize hAe : va_A [(h0, .inr (1, [.ref vt])), (vt, .inr (2, [.ref vf, .ref vv])), (vf, .inl (cJ, 1024, .inr (.inl fm))), (vv, .inl (cI, 1024, .inl vl))] s.heap.size = A at hD ⊢
  have hA : ∀ q : Nat, s.heap.size ≤ q → A q := fun q h => by rw [← hAe]; exact Or.inr h
  have hS : va_S A s.heap s.heap [] := va_S.rf
  have hl := lv_entry ([.ref h0, .long a, .long b, .int 2]) (n := 10) (Nat.le_of_ble_eq_true rfl)
  rw [lg_entry_eq]
  generalize (lg_sl ([.ref h0, .long a, .long b, .int 2]) ++ List.replicate (10 - (lg_sl ([.ref h0, .long a, .long b, .int 2])).length) Slot.unset).toArray = ls at hl ⊢
  have hl : lv_has ls 10 [(0, .ref h0), (1, .long a), (3, .long b), (5, .int 2)] := hl
  refine lv_bipush (v := (-2)) hx hb dX3_lowestBestTurn_0 (by decide) ?_
  refine lv_istore (lv' := [(6, .int (-2)), (0, .ref h0), (1, .long a), (3, .long b), (5, .int 2)]) hx hb dX3_lowestBestTurn_2 hl (by decide) rfl (fun ls hl => ?_)
  refine lv_iconst (v := 0) hx hb dX3_lowestBestTurn_4 (by decide) ?_
  refine lv_istore (lv' := [(7, .int 0), (6, .int (-2)), (0, .ref h0), (1, .long a), (3, .long b), (5, .int 2)]) hx hb dX3_lowestBestTurn_5 hl (by decide) rfl (fun ls hl => ?_)
  refine lv_iconst (v := 0) hx hb dX3_lowestBestTurn_7 (by decide) ?_
  refine lv_istore (lv' := [(8, .int 0), (7, .int 0), (6, .int (-2)), (0, .ref h0), (1, .long a), (3, .long b), (5, .int 2)]) hx hb dX3_lowestBestTurn_8 hl (by decide) rfl (fun ls hl => ?_)
  have loop10 : ∀ (nn i10 : Nat), i10 + nn = 8 → ∀ (fm10 : Nat → Int64) (vl10 : Nat → Int32) (hT10 : TI fm10 vl10) (H : Heap) (locs : List Loc), va_P D vwCl [(h0, .inr (1, [.ref vt])), (vt, .inr (2, [.ref vf, .ref vv])), (vf, .inl (cJ, 1024, .inr (.inl fm10))), (vv, .inl (cI, 1024, .inl vl10))] H → va_D A [(h0, .inr (1, [.ref vt])), (vt, .inr (2, [.ref vf, .ref vv])), (vf, .inl (cJ, 1024, .inr (.inl fm10))), (vv, .inl (cI, 1024, .inl vl10))] → va_S A s.heap H locs → ∀ ls, lv_has ls 10 [(8, .int (nI i10)), (6, .int (tlow (vput 2) a b i10).1), (7, .int (nI (tlow (vput 2) a b i10).2)), (0, .ref h0), (1, .long a), (3, .long b), (5, .int 2)] → W p l e (headSpec wsX3_lowestBestTurn ({ frames := 11, cells := 0, slots := 0, locals := 319 } : Room)).room s m ([.ref h0, .long a, .long b, .int 2] : List Value).toArray below meth c H locs 0 0 (MQ below (va_Qi (fun (r : Int32) (u : (Nat → Int64) × (Nat → Int32)) => r = nI (tlow (vput 2) a b 8).2 ∧ TI u.1 u.2) (fun (u : (Nat → Int64) × (Nat → Int32)) => pv_B D cI cJ (A) [(h0, .inr (1, [.ref vt])), (vt, .inr (2, [.ref vf, .ref vv])), (vf, .inl (cJ, 1024, .inr (.inl u.1))), (vv, .inl (cI, 1024, .inl u.2))]) (A)) ([.ref h0, .long a, .long b, .int 2] : List Value).toArray s 0 0 A) (F0 m 10 ls []) := by
    intro nn
    induction nn with
    | zero =>
      intro i10 hi10 fm10 vl10 hT10 H locs hP hD hS ls hl
      obtain rfl : i10 = 8 := by omega
      refine lv_iload hx hb dX3_lowestBestTurn_10 (lv_at hl 0 rfl) ?_
      refine lv_bipush (v := 8) hx hb dX3_lowestBestTurn_12 (by decide) ?_
      refine lv_icmp_ge (tgt := 56) hx hb dX3_lowestBestTurn_14 (by decide) (fun c14 => ?_) (fun c14 => ?_)
      · have c14 : 8 ≤ 8 := (nq_le (a := 8) (b := 8) (by omega) (by omega)).mp c14
        refine lv_iload hx hb dX3_lowestBestTurn_56 (lv_at hl 2 rfl) ?_
        refine W.iret (v := (nI (tlow (vput 2) a b 8).2)) hx hb hr (fun tt ht hW => ⟨⟨(nI (tlow (vput 2) a b 8).2), (fm10, vl10), rfl, ?_, by rw [ht]; exact hP, va_K.moved hW.alike hK, hD⟩, hS.F ht⟩) hS.2.2 dX3_lowestBestTurn_58
        exact ⟨by { exact rfl }, hT10⟩
      · have c14 : ¬ 8 ≤ 8 := _root_.mt (nq_le (a := 8) (b := 8) (by omega) (by omega)).mpr c14
        omega
    | succ nn ih10 =>
      intro i10 hi10 fm10 vl10 hT10 H locs hP hD hS ls hl
      refine lv_iload hx hb dX3_lowestBestTurn_10 (lv_at hl 0 rfl) ?_
      refine lv_bipush (v := 8) hx hb dX3_lowestBestTurn_12 (by decide) ?_
      refine lv_icmp_ge (tgt := 56) hx hb dX3_lowestBestTurn_14 (by decide) (fun c14 => ?_) (fun c14 => ?_)
      · have c14 : 8 ≤ i10 := (nq_le (a := 8) (b := i10) (by omega) (by omega)).mp c14
        omega
      · have c14 : ¬ 8 ≤ i10 := _root_.mt (nq_le (a := 8) (b := i10) (by omega) (by omega)).mpr c14
        refine lv_iload hx hb dX3_lowestBestTurn_17 (lv_at hl 1 rfl) ?_
        refine lv_iconst (v := 1) hx hb dX3_lowestBestTurn_19 (by decide) ?_
        refine lv_icmp_ge (tgt := 56) hx hb dX3_lowestBestTurn_20 (by decide) (fun c20 => ?_) (fun c20 => ?_)
        · refine lv_iload hx hb dX3_lowestBestTurn_56 (lv_at hl 2 rfl) ?_
          refine W.iret (v := (nI (tlow (vput 2) a b i10).2)) hx hb hr (fun tt ht hW => ⟨⟨(nI (tlow (vput 2) a b i10).2), (fm10, vl10), rfl, ?_, by rw [ht]; exact hP, va_K.moved hW.alike hK, hD⟩, hS.F ht⟩) hS.2.2 dX3_lowestBestTurn_58
          exact ⟨by { rw [stopT c20 (by omega)] }, hT10⟩
        · refine lv_aload_n hx hb dX3_lowestBestTurn_23 rfl (lv_at hl 3 rfl) ?_
          refine lv_lload_n hx hb dX3_lowestBestTurn_24 rfl (lv_at hl 4 rfl) ?_
          refine lv_lload_n hx hb dX3_lowestBestTurn_25 rfl (lv_at hl 5 rfl) ?_
          refine lv_iload hx hb dX3_lowestBestTurn_26 (lv_at hl 0 rfl) ?_
          refine lv_iload hx hb dX3_lowestBestTurn_28 (lv_at hl 6 rfl) ?_
          have hPc := hP.sub (ws' := [(h0, .inr (1, [.ref vt])), (vt, .inr (2, [.ref vf, .ref vv])), (vf, .inl (cJ, 1024, .inr (.inl fm10))), (vv, .inl (cI, 1024, .inl vl10))]) [0, 1, 2, 3] rfl
          have hDc := hD.sub (ws' := [(h0, .inr (1, [.ref vt])), (vt, .inr (2, [.ref vf, .ref vv])), (vf, .inl (cJ, 1024, .inr (.inl fm10))), (vv, .inl (cI, 1024, .inl vl10))]) [0, 1, 2, 3] (by decide) rfl
          have hFc := va_free (wc := [(h0, .inr (1, [.ref vt])), (vt, .inr (2, [.ref vf, .ref vv])), (vf, .inl (cJ, 1024, .inr (.inl fm10))), (vv, .inl (cI, 1024, .inl vl10))]) hD hS hA [0, 1, 2, 3] rfl
          refine va_calli (va_runV (As := [.long a, .long b, .int (nI i10), .int 2]) (rest := []) ⟨hx, hb, hml, hown, hts⟩ (c_X3_valueBehindTurn_f2 l D cI cJ H.size  h0 vt vf vv fm10 vl10 hT10 a b i10 (by omega) hB) (cwV 4 hts gX3_lowestBestTurn_X3_valueBehindTurn rfl rfl rfl (by decide +kernel) ⟨Nat.le_of_ble_eq_true rfl, Nat.le_of_ble_eq_true rfl⟩) ⟨(px_blindE pv_blind), va_recv hK hPc (ci := 1) (q0 := 0) rfl rfl, fun U hU hW => ⟨rfl, hEN.warm hW, by rw [hU], by rw [hU]; exact hPc, va_K.moved hW.alike hK, hDc.weaken (fun _ _ _ _ => trivial)⟩⟩ rfl rfl hl.1 rfl (lv_room (Nat.le_of_ble_eq_true rfl)) dX3_lowestBestTurn_30 ⟨(Nat.le_of_ble_eq_true rfl), (Nat.le_of_ble_eq_true rfl)⟩) hS (fun q _ h => hFc q h) hFc (fun r30 u t9 H1 locs hth hvm hw30 hB hz1 hk1 hS => ?_)
          obtain ⟨fm30, vl30⟩ := u
          try dsimp only at hw30
          obtain ⟨hP1, hK1, hD1⟩ := hB
          rw [hth] at hP1
          obtain ⟨hP, hD⟩ := va_join (wr := []) (w1 := [(h0, .inr (1, [.ref vt])), (vt, .inr (2, [.ref vf, .ref vv])), (vf, .inl (cJ, 1024, .inr (.inl fm30))), (vv, .inl (cI, 1024, .inl vl30))]) hP hD [0, 1, 2, 3] [] rfl rfl (by decide) (by decide) hk1 hFc hP1 hD1
          generalize H1 = H at hP hS ⊢
          have hP : va_P D vwCl [(h0, .inr (1, [.ref vt])), (vt, .inr (2, [.ref vf, .ref vv])), (vf, .inl (cJ, 1024, .inr (.inl fm30))), (vv, .inl (cI, 1024, .inl vl30))] H := hP.sub (ws' := [(h0, .inr (1, [.ref vt])), (vt, .inr (2, [.ref vf, .ref vv])), (vf, .inl (cJ, 1024, .inr (.inl fm30))), (vv, .inl (cI, 1024, .inl vl30))]) [0, 1, 2, 3] rfl
          have hD : va_D A [(h0, .inr (1, [.ref vt])), (vt, .inr (2, [.ref vf, .ref vv])), (vf, .inl (cJ, 1024, .inr (.inl fm30))), (vv, .inl (cI, 1024, .inl vl30))] := hD.sub (ws' := [(h0, .inr (1, [.ref vt])), (vt, .inr (2, [.ref vf, .ref vv])), (vf, .inl (cJ, 1024, .inr (.inl fm30))), (vv, .inl (cI, 1024, .inl vl30))]) [0, 1, 2, 3] (by decide) rfl
          obtain ⟨hv9, hT30⟩ := hw30
          obtain rfl := hv9.symm
          refine lv_istore (lv' := [(9, .int (vbehind (vput 2) a b i10)), (8, .int (nI i10)), (6, .int (tlow (vput 2) a b i10).1), (7, .int (nI (tlow (vput 2) a b i10).2)), (0, .ref h0), (1, .long a), (3, .long b), (5, .int 2)]) hx hb dX3_lowestBestTurn_33 hl (by decide) rfl (fun ls hl => ?_)
          refine lv_iload hx hb dX3_lowestBestTurn_35 (lv_at hl 0 rfl) ?_
          refine lv_iload hx hb dX3_lowestBestTurn_37 (lv_at hl 2 rfl) ?_
          refine lv_icmp_le (tgt := 50) hx hb dX3_lowestBestTurn_39 (by decide) (fun c39 => ?_) (fun c39 => ?_)
          · refine lv_iinc (v := nI (i10 + 1)) (lv' := [(8, .int (nI (i10 + 1))), (9, .int (vbehind (vput 2) a b i10)), (6, .int (tlow (vput 2) a b i10).1), (7, .int (nI (tlow (vput 2) a b i10).2)), (0, .ref h0), (1, .long a), (3, .long b), (5, .int 2)]) hx hb dX3_lowestBestTurn_50 hl (k := 1) rfl (nI_add i10 1) (by decide) rfl (fun ls hl => ?_)
            refine lv_goto (tgt := 10) hx hb dX3_lowestBestTurn_53 (by decide) ?_
            exact ih10 (i10 + 1) (by omega) _ _ hT30 _ _ hP hD hS ls (by { have e9 : ((tlow (vput 2) a b i10).1 : Int32) = (tlow (vput 2) a b (i10 + 1)).1 := by { skip; exact (congrArg Prod.fst (tlow_b c20 c39)).symm }; rw [← e9]; have e9 : ((nI (tlow (vput 2) a b i10).2) : Int32) = (nI (tlow (vput 2) a b (i10 + 1)).2) := by { skip; exact (congrArg (fun q => nI q.2) (tlow_b c20 c39)).symm }; rw [← e9]; exact lv_sub hl [0, 2, 3, 4, 5, 6, 7] rfl })
          · refine lv_iload hx hb dX3_lowestBestTurn_42 (lv_at hl 0 rfl) ?_
            refine lv_istore (lv' := [(6, .int (vbehind (vput 2) a b i10)), (9, .int (vbehind (vput 2) a b i10)), (8, .int (nI i10)), (7, .int (nI (tlow (vput 2) a b i10).2)), (0, .ref h0), (1, .long a), (3, .long b), (5, .int 2)]) hx hb dX3_lowestBestTurn_44 hl (by decide) rfl (fun ls hl => ?_)
            refine lv_iload hx hb dX3_lowestBestTurn_46 (lv_at hl 2 rfl) ?_
            refine lv_istore (lv' := [(7, .int (nI i10)), (6, .int (vbehind (vput 2) a b i10)), (9, .int (vbehind (vput 2) a b i10)), (8, .int (nI i10)), (0, .ref h0), (1, .long a), (3, .long b), (5, .int 2)]) hx hb dX3_lowestBestTurn_48 hl (by decide) rfl (fun ls hl => ?_)
            refine lv_iinc (v := nI (i10 + 1)) (lv' := [(8, .int (nI (i10 + 1))), (7, .int (nI i10)), (6, .int (vbehind (vput 2) a b i10)), (9, .int (vbehind (vput 2) a b i10)), (0, .ref h0), (1, .long a), (3, .long b), (5, .int 2)]) hx hb dX3_lowestBestTurn_50 hl (k := 3) rfl (nI_add i10 1) (by decide) rfl (fun ls hl => ?_)
            refine lv_goto (tgt := 10) hx hb dX3_lowestBestTurn_53 (by decide) ?_
            exact ih10 (i10 + 1) (by omega) _ _ hT30 _ _ hP hD hS ls (by { have e9 : ((vbehind (vput 2) a b i10) : Int32) = (tlow (vput 2) a b (i10 + 1)).1 := by { skip; exact (congrArg Prod.fst (tlow_a c20 c39)).symm }; rw [← e9]; have e9 : ((nI i10) : Int32) = (nI (tlow (vput 2) a b (i10 + 1)).2) := by { skip; exact (congrArg (fun q => nI q.2) (tlow_a c20 c39)).symm }; rw [← e9]; exact lv_sub hl [0, 2, 1, 4, 5, 6, 7] rfl })
  exact loop10 8 0 (by omega) _ _ hT _ _ hP hD hS ls (lv_sub hl [0, 2, 1, 3, 4, 5, 6] rfl)

set_option maxHeartbeats 400000 in
set_option maxRecDepth 100000 in
theorem c_X3_playMarbles_f3 (l : Launch) (D : va_G) (cI cJ : ClassId) (sz : Nat) (h0 vt vf vv : Nat) (fm : Nat → Int64) (vl : Nat → Int32) (hT : TI fm vl) (a b : Int64)  (hB : BV 3 a b) : Met l yX3_playMarbles wsX3_playMarbles ({ frames := 12, cells := 0, slots := 0, locals := 346 } : Room) (va_Pc [.ref h0, .long a, .long b, .int 3] (px_E (pv_C D cI cJ [(h0, .inr (1, [.ref vt])), (vt, .inr (2, [.ref vf, .ref vv])), (vf, .inl (cJ, 1024, .inr (.inl fm))), (vv, .inl (cI, 1024, .inl vl))] sz))) (va_Qi (fun (r : Int32) (u : (Nat → Int64) × (Nat → Int32)) => r = vput 3 a b ∧ TI u.1 u.2) (fun (u : (Nat → Int64) × (Nat → Int32)) => pv_B D cI cJ (va_A [(h0, .inr (1, [.ref vt])), (vt, .inr (2, [.ref vf, .ref vv])), (vf, .inl (cJ, 1024, .inr (.inl fm))), (vv, .inl (cI, 1024, .inl vl))] sz) [(h0, .inr (1, [.ref vt])), (vt, .inr (2, [.ref vf, .ref vv])), (vf, .inl (cJ, 1024, .inr (.inl u.1))), (vv, .inl (cI, 1024, .inl u.2))]) (va_A [(h0, .inr (1, [.ref vt])), (vt, .inr (2, [.ref vf, .ref vv])), (vf, .inl (cJ, 1024, .inr (.inl fm))), (vv, .inl (cI, 1024, .inl vl))] sz)) 0 0 (va_A [(h0, .inr (1, [.ref vt])), (vt, .inr (2, [.ref vf, .ref vv])), (vf, .inl (cJ, 1024, .inr (.inl fm))), (vv, .inl (cI, 1024, .inl vl))] sz) := by
  refine Met.ofW (cc := cX3_playMarbles) (maxL := 11) (ret := (some .int)) (by decide) rfl ?_
  intro p e s m args below meth c s₁ B hml hv
  obtain ⟨rfl, hEN, rfl, hP, hK, hD0⟩ := hv
  have hx := B.exec
  have hb := B.bytes
  have hr := B.returns
  have hts := atoms_spec (ws := wsX3_playMarbles) B.pre
  have hown : s.vm.findClass RX3 = some m.cls := findClass_of_methodNamed B.named
  have hlocks := B.notSynchronized
  have hD := hD0.self (sz := s.heap.size)
  generalize hAe : va_A [(h0, .inr (1, [.ref vt])), (vt, .inr (2, [.ref vf, .ref vv])), (vf, .inl (cJ, 1024, .inr (.inl fm))), (vv, .inl (cI, 1024, .inl vl))] s.heap.size = A at hD ⊢
  have hA : ∀ q : Nat, s.heap.size ≤ q → A q := fun q h => by rw [← hAe]; exact Or.inr h
  have hS : va_S A s.heap s.heap [] := va_S.rf
  have hnest54 : va_Nw (.methodLinkNest RX3 54 yX6_bitOf RX6) s := hEN.1
  have hiniX6 : (Cond.initialized (yX6_bitOf).cls).before ([.ref h0, .long a, .long b, .int 3] : List Value).toArray s = true := hts (.initialized RX6) (by decide +kernel)
  have hmx0 : (Cond.methodLink RX3 48 Lib.Math.max.name).before ([.ref h0, .long a, .long b, .int 3] : List Value).toArray s = true := hts _ (by decide +kernel)
  have hmx1 : (Cond.static Lib.Math.max.name).before ([.ref h0, .long a, .long b, .int 3] : List Value).toArray s = true := hts _ (by decide +kernel)
  have hmx2 : (Cond.initialized "java/lang/Math").before ([.ref h0, .long a, .long b, .int 3] : List Value).toArray s = true := hts _ (by decide +kernel)
  have hmx3 : (Cond.code Lib.Math.max.name Lib.Math.max.code 2 (some .int)).before ([.ref h0, .long a, .long b, .int 3] : List Value).toArray s = true := hts _ (by decide +kernel)
  have hl := lv_entry ([.ref h0, .long a, .long b, .int 3]) (n := 11) (Nat.le_of_ble_eq_true rfl)
  rw [lg_entry_eq]
  generalize (lg_sl ([.ref h0, .long a, .long b, .int 3]) ++ List.replicate (11 - (lg_sl ([.ref h0, .long a, .long b, .int 3])).length) Slot.unset).toArray = ls at hl ⊢
  have hl : lv_has ls 11 [(0, .ref h0), (1, .long a), (3, .long b), (5, .int 3)] := hl
  refine lv_iconst (v := (-1)) hx hb dX3_playMarbles_0 (by decide) ?_
  refine lv_istore (lv' := [(6, .int (-1)), (0, .ref h0), (1, .long a), (3, .long b), (5, .int 3)]) hx hb dX3_playMarbles_1 hl (by decide) rfl (fun ls hl => ?_)
  refine lv_iconst (v := 0) hx hb dX3_playMarbles_3 (by decide) ?_
  refine lv_istore (lv' := [(7, .int 0), (6, .int (-1)), (0, .ref h0), (1, .long a), (3, .long b), (5, .int 3)]) hx hb dX3_playMarbles_4 hl (by decide) rfl (fun ls hl => ?_)
  have loop6 : ∀ (nn i6 : Nat), i6 + nn = 36 → ∀ (fm6 : Nat → Int64) (vl6 : Nat → Int32) (hT6 : TI fm6 vl6) (H : Heap) (locs : List Loc), va_P D vwCl [(h0, .inr (1, [.ref vt])), (vt, .inr (2, [.ref vf, .ref vv])), (vf, .inl (cJ, 1024, .inr (.inl fm6))), (vv, .inl (cI, 1024, .inl vl6))] H → va_D A [(h0, .inr (1, [.ref vt])), (vt, .inr (2, [.ref vf, .ref vv])), (vf, .inl (cJ, 1024, .inr (.inl fm6))), (vv, .inl (cI, 1024, .inl vl6))] → va_S A s.heap H locs → ∀ ls, lv_has ls 11 [(7, .int (nI i6)), (6, .int (vplay (vput 2) a b i6)), (0, .ref h0), (1, .long a), (3, .long b), (5, .int 3)] → W p l e (headSpec wsX3_playMarbles ({ frames := 12, cells := 0, slots := 0, locals := 346 } : Room)).room s m ([.ref h0, .long a, .long b, .int 3] : List Value).toArray below meth c H locs 0 0 (MQ below (va_Qi (fun (r : Int32) (u : (Nat → Int64) × (Nat → Int32)) => r = vput 3 a b ∧ TI u.1 u.2) (fun (u : (Nat → Int64) × (Nat → Int32)) => pv_B D cI cJ (A) [(h0, .inr (1, [.ref vt])), (vt, .inr (2, [.ref vf, .ref vv])), (vf, .inl (cJ, 1024, .inr (.inl u.1))), (vv, .inl (cI, 1024, .inl u.2))]) (A)) ([.ref h0, .long a, .long b, .int 3] : List Value).toArray s 0 0 A) (F0 m 6 ls []) := by
    intro nn
    induction nn with
    | zero =>
      intro i6 hi6 fm6 vl6 hT6 H locs hP hD hS ls hl
      obtain rfl : i6 = 36 := by omega
      refine lv_iload hx hb dX3_playMarbles_6 (lv_at hl 0 rfl) ?_
      refine lv_bipush (v := 36) hx hb dX3_playMarbles_8 (by decide) ?_
      refine lv_icmp_ge (tgt := 81) hx hb dX3_playMarbles_10 (by decide) (fun c10 => ?_) (fun c10 => ?_)
      · have c10 : 36 ≤ 36 := (nq_le (a := 36) (b := 36) (by omega) (by omega)).mp c10
        refine lv_iload hx hb dX3_playMarbles_81 (lv_at hl 1 rfl) ?_
        refine W.iret (v := (vplay (vput 2) a b 36)) hx hb hr (fun tt ht hW => ⟨⟨(vplay (vput 2) a b 36), (fm6, vl6), rfl, ?_, by rw [ht]; exact hP, va_K.moved hW.alike hK, hD⟩, hS.F ht⟩) hS.2.2 dX3_playMarbles_83
        exact ⟨by { exact rfl }, hT6⟩
      · have c10 : ¬ 36 ≤ 36 := _root_.mt (nq_le (a := 36) (b := 36) (by omega) (by omega)).mpr c10
        omega
    | succ nn ih6 =>
      intro i6 hi6 fm6 vl6 hT6 H locs hP hD hS ls hl
      refine lv_iload hx hb dX3_playMarbles_6 (lv_at hl 0 rfl) ?_
      refine lv_bipush (v := 36) hx hb dX3_playMarbles_8 (by decide) ?_
      refine lv_icmp_ge (tgt := 81) hx hb dX3_playMarbles_10 (by decide) (fun c10 => ?_) (fun c10 => ?_)
      · have c10 : 36 ≤ i6 := (nq_le (a := 36) (b := i6) (by omega) (by omega)).mp c10
        omega
      · have c10 : ¬ 36 ≤ i6 := _root_.mt (nq_le (a := 36) (b := i6) (by omega) (by omega)).mpr c10
        refine lv_iload hx hb dX3_playMarbles_13 (lv_at hl 1 rfl) ?_
        refine lv_iconst (v := 1) hx hb dX3_playMarbles_15 (by decide) ?_
        refine lv_icmp_ge (tgt := 81) hx hb dX3_playMarbles_16 (by decide) (fun c16 => ?_) (fun c16 => ?_)
        · refine lv_iload hx hb dX3_playMarbles_81 (lv_at hl 1 rfl) ?_
          refine W.iret (v := (vplay (vput 2) a b i6)) hx hb hr (fun tt ht hW => ⟨⟨(vplay (vput 2) a b i6), (fm6, vl6), rfl, ?_, by rw [ht]; exact hP, va_K.moved hW.alike hK, hD⟩, hS.F ht⟩) hS.2.2 dX3_playMarbles_83
          exact ⟨by { exact stop36 c16 (by omega) }, hT6⟩
        · refine lv_iload hx hb dX3_playMarbles_19 (lv_at hl 0 rfl) ?_
          refine vp_callSl (va_Run.run (va_runSN (As := [.int (nI i6)]) (rest := []) ⟨hx, hb, hml, hown, hts⟩ (c_X6_bitOf l (nI i6)) ⟨va_cnB 1 hts gX3_playMarbles_X6_bitOf_n54 rfl rfl rfl hnest54 hiniX6 (by decide +kernel) ⟨Nat.le_of_ble_eq_true rfl, Nat.le_of_ble_eq_true rfl⟩, hts _ (by decide +kernel), trivial⟩ ⟨px_blind0, fun U hU hW => ⟨rfl, trivial⟩⟩ rfl rfl hl.1 rfl (lv_room (Nat.le_of_ble_eq_true rfl)) dX3_playMarbles_21 ⟨(Nat.le_of_ble_eq_true rfl), (Nat.le_of_ble_eq_true rfl)⟩)) (fun r21 er21 => ?_)
          obtain rfl := er21.symm
          refine lv_lstore (lv' := [(8, .long (jshl 1 (nI i6))), (7, .int (nI i6)), (6, .int (vplay (vput 2) a b i6)), (0, .ref h0), (1, .long a), (3, .long b), (5, .int 3)]) hx hb dX3_playMarbles_24 hl (by decide) rfl (fun ls hl => ?_)
          refine lv_lload_n hx hb dX3_playMarbles_26 rfl (lv_at hl 4 rfl) ?_
          refine lv_lload_n hx hb dX3_playMarbles_27 rfl (lv_at hl 5 rfl) ?_
          refine lv_lor hx hb dX3_playMarbles_28 ?_
          refine lv_topl (fun x28 ex28 => ?_)
          refine lv_lload hx hb dX3_playMarbles_29 (lv_at hl 0 rfl) ?_
          refine lv_land hx hb dX3_playMarbles_31 ?_
          refine lv_topl (fun x31 ex31 => ?_)
          refine lv_lconst (v := 0) hx hb dX3_playMarbles_32 (by decide) ?_
          refine W.lcmp hx hb dX3_playMarbles_33 ?_
          refine lv_if_ne (tgt := 75) hx hb dX3_playMarbles_34 (by decide) (fun c34 => ?_) (fun c34 => ?_)
          · rw [lg_cmp_eq] at c34
            refine lv_iinc (v := nI (i6 + 1)) (lv' := [(7, .int (nI (i6 + 1))), (8, .long (jshl 1 (nI i6))), (6, .int (vplay (vput 2) a b i6)), (0, .ref h0), (1, .long a), (3, .long b), (5, .int 3)]) hx hb dX3_playMarbles_75 hl (k := 1) rfl (nI_add i6 1) (by decide) rfl (fun ls hl => ?_)
            refine lv_goto (tgt := 6) hx hb dX3_playMarbles_78 (by decide) ?_
            exact ih6 (i6 + 1) (by omega) _ _ hT6 _ _ hP hD hS ls (by { have e9 : ((vplay (vput 2) a b i6) : Int32) = (vplay (vput 2) a b (i6 + 1)) := by { obtain rfl := ex28.symm; obtain rfl := ex31.symm; exact vplay_a c16 c34 }; rw [← e9]; exact lv_sub hl [0, 2, 3, 4, 5, 6] rfl })
          · rw [lg_cmp_eq] at c34
            refine lv_lload_n hx hb dX3_playMarbles_37 rfl (lv_at hl 4 rfl) ?_
            refine lv_lload hx hb dX3_playMarbles_38 (lv_at hl 0 rfl) ?_
            refine lv_lor hx hb dX3_playMarbles_40 ?_
            refine lv_topl (fun x40 ex40 => ?_)
            refine vp_callSi (W.runS (As := [.long x40]) (rest := []) ⟨hx, hb, hml, hown, hts⟩ (c_X1_hasLine l x40) (va_cwS 1 hts gX3_playMarbles_X1_hasLine rfl rfl rfl (by decide +kernel) ⟨Nat.le_of_ble_eq_true rfl, Nat.le_of_ble_eq_true rfl⟩) ⟨px_blind0, fun U hU hW => ⟨rfl, trivial⟩⟩ rfl rfl hl.1 rfl (lv_room (Nat.le_of_ble_eq_true rfl)) dX3_playMarbles_41 ⟨(Nat.le_of_ble_eq_true rfl), (Nat.le_of_ble_eq_true rfl)⟩) (fun r41 er41 => ?_)
            obtain rfl := er41.symm
            refine pk_b (P := cline x40 = true) (fun b41 => ?_) (fun b41 => ?_)
            · refine lv_if_eq (tgt := 51) hx hb dX3_playMarbles_44 (by decide) (fun c44 => ?_) (fun c44 => ?_)
              · exact absurd c44 (by decide)
              · refine lv_iconst (v := 1) hx hb dX3_playMarbles_47 (by decide) ?_
                refine lv_goto (tgt := 64) hx hb dX3_playMarbles_48 (by decide) ?_
                refine lv_istore (lv' := [(10, .int 1), (8, .long (jshl 1 (nI i6))), (7, .int (nI i6)), (6, .int (vplay (vput 2) a b i6)), (0, .ref h0), (1, .long a), (3, .long b), (5, .int 3)]) hx hb dX3_playMarbles_64 hl (by decide) rfl (fun ls hl => ?_)
                refine lv_iload hx hb dX3_playMarbles_66 (lv_at hl 3 rfl) ?_
                refine lv_iload hx hb dX3_playMarbles_68 (lv_at hl 0 rfl) ?_
                refine va_mmax hx hb (by rw [hml]; exact hl.1.symm) hown hmx0 hmx1 hmx2 hmx3 (by decide) (Nat.le_of_ble_eq_true rfl) (Nat.le_of_ble_eq_true rfl) (Nat.le_of_ble_eq_true rfl) dX3_playMarbles_70 ?_
                refine lv_topi (fun x70 ex70 => ?_)
                refine lv_istore (lv' := [(6, .int x70), (10, .int 1), (8, .long (jshl 1 (nI i6))), (7, .int (nI i6)), (0, .ref h0), (1, .long a), (3, .long b), (5, .int 3)]) hx hb dX3_playMarbles_73 hl (by decide) rfl (fun ls hl => ?_)
                refine lv_iinc (v := nI (i6 + 1)) (lv' := [(7, .int (nI (i6 + 1))), (6, .int x70), (10, .int 1), (8, .long (jshl 1 (nI i6))), (0, .ref h0), (1, .long a), (3, .long b), (5, .int 3)]) hx hb dX3_playMarbles_75 hl (k := 3) rfl (nI_add i6 1) (by decide) rfl (fun ls hl => ?_)
                refine lv_goto (tgt := 6) hx hb dX3_playMarbles_78 (by decide) ?_
                exact ih6 (i6 + 1) (by omega) _ _ hT6 _ _ hP hD hS ls (by { have e9 : (x70 : Int32) = (vplay (vput 2) a b (i6 + 1)) := by { obtain rfl := ex28.symm; obtain rfl := ex31.symm; obtain rfl := ex40.symm; obtain rfl := ex70.symm; exact vplay_c c16 c34 (vcell_1 b41) }; rw [← e9]; exact lv_sub hl [0, 1, 4, 5, 6, 7] rfl })
            · refine lv_if_eq (tgt := 51) hx hb dX3_playMarbles_44 (by decide) (fun c44 => ?_) (fun c44 => ?_)
              · refine lv_aload_n hx hb dX3_playMarbles_51 rfl (lv_at hl 3 rfl) ?_
                refine lv_lload_n hx hb dX3_playMarbles_52 rfl (lv_at hl 4 rfl) ?_
                refine lv_lload hx hb dX3_playMarbles_53 (lv_at hl 0 rfl) ?_
                refine lv_lor hx hb dX3_playMarbles_55 ?_
                refine lv_topl (fun x55 ex55 => ?_)
                refine lv_lload_n hx hb dX3_playMarbles_56 rfl (lv_at hl 5 rfl) ?_
                refine lv_iload hx hb dX3_playMarbles_57 (lv_at hl 6 rfl) ?_
                refine lv_iconst (v := 1) hx hb dX3_playMarbles_59 (by decide) ?_
                refine lv_isub hx hb dX3_playMarbles_60 ?_
                refine pk_ti (y := nI 2) (by decide) ?_
                have hPc := hP.sub (ws' := [(h0, .inr (1, [.ref vt])), (vt, .inr (2, [.ref vf, .ref vv])), (vf, .inl (cJ, 1024, .inr (.inl fm6))), (vv, .inl (cI, 1024, .inl vl6))]) [0, 1, 2, 3] rfl
                have hDc := hD.sub (ws' := [(h0, .inr (1, [.ref vt])), (vt, .inr (2, [.ref vf, .ref vv])), (vf, .inl (cJ, 1024, .inr (.inl fm6))), (vv, .inl (cI, 1024, .inl vl6))]) [0, 1, 2, 3] (by decide) rfl
                have hFc := va_free (wc := [(h0, .inr (1, [.ref vt])), (vt, .inr (2, [.ref vf, .ref vv])), (vf, .inl (cJ, 1024, .inr (.inl fm6))), (vv, .inl (cI, 1024, .inl vl6))]) hD hS hA [0, 1, 2, 3] rfl
                refine va_calli (va_runV (As := [.long x55, .long b, .int (nI 2)]) (rest := []) ⟨hx, hb, hml, hown, hts⟩ (c_X3_valueToTurn_f2 l D cI cJ H.size  h0 vt vf vv fm6 vl6 hT6 x55 b (by obtain rfl := ex28.symm; obtain rfl := ex31.symm; obtain rfl := ex40.symm; obtain rfl := ex55.symm; exact bv_put hB (by omega) c34)) (cwV 3 hts gX3_playMarbles_X3_valueToTurn rfl rfl rfl (by decide +kernel) ⟨Nat.le_of_ble_eq_true rfl, Nat.le_of_ble_eq_true rfl⟩) ⟨(px_blindE pv_blind), va_recv hK hPc (ci := 1) (q0 := 0) rfl rfl, fun U hU hW => ⟨rfl, hEN.warm hW, by rw [hU], by rw [hU]; exact hPc, va_K.moved hW.alike hK, hDc.weaken (fun _ _ _ _ => trivial)⟩⟩ rfl rfl hl.1 rfl (lv_room (Nat.le_of_ble_eq_true rfl)) dX3_playMarbles_61 ⟨(Nat.le_of_ble_eq_true rfl), (Nat.le_of_ble_eq_true rfl)⟩) hS (fun q _ h => hFc q h) hFc (fun r61 u t9 H1 locs hth hvm hw61 hB hz1 hk1 hS => ?_)
                obtain ⟨fm61, vl61⟩ := u
                try dsimp only at hw61
                obtain ⟨hP1, hK1, hD1⟩ := hB
                rw [hth] at hP1
                obtain ⟨hP, hD⟩ := va_join (wr := []) (w1 := [(h0, .inr (1, [.ref vt])), (vt, .inr (2, [.ref vf, .ref vv])), (vf, .inl (cJ, 1024, .inr (.inl fm61))), (vv, .inl (cI, 1024, .inl vl61))]) hP hD [0, 1, 2, 3] [] rfl rfl (by decide) (by decide) hk1 hFc hP1 hD1
                generalize H1 = H at hP hS ⊢
                have hP : va_P D vwCl [(h0, .inr (1, [.ref vt])), (vt, .inr (2, [.ref vf, .ref vv])), (vf, .inl (cJ, 1024, .inr (.inl fm61))), (vv, .inl (cI, 1024, .inl vl61))] H := hP.sub (ws' := [(h0, .inr (1, [.ref vt])), (vt, .inr (2, [.ref vf, .ref vv])), (vf, .inl (cJ, 1024, .inr (.inl fm61))), (vv, .inl (cI, 1024, .inl vl61))]) [0, 1, 2, 3] rfl
                have hD : va_D A [(h0, .inr (1, [.ref vt])), (vt, .inr (2, [.ref vf, .ref vv])), (vf, .inl (cJ, 1024, .inr (.inl fm61))), (vv, .inl (cI, 1024, .inl vl61))] := hD.sub (ws' := [(h0, .inr (1, [.ref vt])), (vt, .inr (2, [.ref vf, .ref vv])), (vf, .inl (cJ, 1024, .inr (.inl fm61))), (vv, .inl (cI, 1024, .inl vl61))]) [0, 1, 2, 3] (by decide) rfl
                obtain ⟨hv9, hT61⟩ := hw61
                obtain rfl := hv9.symm
                refine lv_istore (lv' := [(10, .int (vturn (vput 2) x55 b 8)), (8, .long (jshl 1 (nI i6))), (7, .int (nI i6)), (6, .int (vplay (vput 2) a b i6)), (0, .ref h0), (1, .long a), (3, .long b), (5, .int 3)]) hx hb dX3_playMarbles_64 hl (by decide) rfl (fun ls hl => ?_)
                refine lv_iload hx hb dX3_playMarbles_66 (lv_at hl 3 rfl) ?_
                refine lv_iload hx hb dX3_playMarbles_68 (lv_at hl 0 rfl) ?_
                refine va_mmax hx hb (by rw [hml]; exact hl.1.symm) hown hmx0 hmx1 hmx2 hmx3 (by decide) (Nat.le_of_ble_eq_true rfl) (Nat.le_of_ble_eq_true rfl) (Nat.le_of_ble_eq_true rfl) dX3_playMarbles_70 ?_
                refine lv_topi (fun x70 ex70 => ?_)
                refine lv_istore (lv' := [(6, .int x70), (10, .int (vturn (vput 2) x55 b 8)), (8, .long (jshl 1 (nI i6))), (7, .int (nI i6)), (0, .ref h0), (1, .long a), (3, .long b), (5, .int 3)]) hx hb dX3_playMarbles_73 hl (by decide) rfl (fun ls hl => ?_)
                refine lv_iinc (v := nI (i6 + 1)) (lv' := [(7, .int (nI (i6 + 1))), (6, .int x70), (10, .int (vturn (vput 2) x55 b 8)), (8, .long (jshl 1 (nI i6))), (0, .ref h0), (1, .long a), (3, .long b), (5, .int 3)]) hx hb dX3_playMarbles_75 hl (k := 3) rfl (nI_add i6 1) (by decide) rfl (fun ls hl => ?_)
                refine lv_goto (tgt := 6) hx hb dX3_playMarbles_78 (by decide) ?_
                exact ih6 (i6 + 1) (by omega) _ _ hT61 _ _ hP hD hS ls (by { have e9 : (x70 : Int32) = (vplay (vput 2) a b (i6 + 1)) := by { obtain rfl := ex28.symm; obtain rfl := ex31.symm; obtain rfl := ex40.symm; obtain rfl := ex55.symm; obtain rfl := ex70.symm; exact vplay_c c16 c34 (vcell_t b41) }; rw [← e9]; exact lv_sub hl [0, 1, 4, 5, 6, 7] rfl })
              · exact absurd c44 (by decide)
  exact loop6 36 0 (by omega) _ _ hT _ _ hP hD hS ls (lv_sub hl [0, 1, 2, 3, 4, 5] rfl)

set_option maxHeartbeats 400000 in
set_option maxRecDepth 100000 in
theorem c_X3_lowestBestMove_f3 (l : Launch) (D : va_G) (cI cJ : ClassId) (sz : Nat) (h0 vt vf vv : Nat) (fm : Nat → Int64) (vl : Nat → Int32) (hT : TI fm vl) (a b : Int64)  (hB : BV 3 a b) : Met l yX3_lowestBestMove wsX3_lowestBestMove ({ frames := 11, cells := 0, slots := 0, locals := 319 } : Room) (va_Pc [.ref h0, .long a, .long b, .int 3] (px_E (pv_C D cI cJ [(h0, .inr (1, [.ref vt])), (vt, .inr (2, [.ref vf, .ref vv])), (vf, .inl (cJ, 1024, .inr (.inl fm))), (vv, .inl (cI, 1024, .inl vl))] sz))) (va_Qi (fun (r : Int32) (u : (Nat → Int64) × (Nat → Int32)) => r = nI (mlow (vput 2) a b 288).2 ∧ TI u.1 u.2) (fun (u : (Nat → Int64) × (Nat → Int32)) => pv_B D cI cJ (va_A [(h0, .inr (1, [.ref vt])), (vt, .inr (2, [.ref vf, .ref vv])), (vf, .inl (cJ, 1024, .inr (.inl fm))), (vv, .inl (cI, 1024, .inl vl))] sz) [(h0, .inr (1, [.ref vt])), (vt, .inr (2, [.ref vf, .ref vv])), (vf, .inl (cJ, 1024, .inr (.inl u.1))), (vv, .inl (cI, 1024, .inl u.2))]) (va_A [(h0, .inr (1, [.ref vt])), (vt, .inr (2, [.ref vf, .ref vv])), (vf, .inl (cJ, 1024, .inr (.inl fm))), (vv, .inl (cI, 1024, .inl vl))] sz)) 0 0 (va_A [(h0, .inr (1, [.ref vt])), (vt, .inr (2, [.ref vf, .ref vv])), (vf, .inl (cJ, 1024, .inr (.inl fm))), (vv, .inl (cI, 1024, .inl vl))] sz) := by
  refine Met.ofW (cc := cX3_lowestBestMove) (maxL := 12) (ret := (some .int)) (by decide) rfl ?_
  intro p e s m args below meth c s₁ B hml hv
  obtain ⟨rfl, hEN, rfl, hP, hK, hD0⟩ := hv
  have hx := B.exec
  have hb := B.bytes
  have hr := B.returns
  have hts := atoms_spec (ws := wsX3_lowestBestMove) B.pre
  have hown : s.vm.findClass RX3 = some m.cls := findClass_of_methodNamed B.named
  have hlocks := B.notSynchronized
  have hD := hD0.self (sz := s.heap.size)
  generalize hAe : va_A [(h0, .inr (1, [.ref vt])), (vt, .inr (2, [.ref vf, .ref vv])), (vf, .inl (cJ, 1024, .inr (.inl fm))), (vv, .inl (cI, 1024, .inl vl))] s.heap.size = A at hD ⊢
  have hA : ∀ q : Nat, s.heap.size ≤ q → A q := fun q h => by rw [← hAe]; exact Or.inr h
  have hS : va_S A s.heap s.heap [] := va_S.rf
  have hnest54 : va_Nw (.methodLinkNest RX3 54 yX6_bitOf RX6) s := hEN.1
  have hiniX6 : (Cond.initialized (yX6_bitOf).cls).before ([.ref h0, .long a, .long b, .int 3] : List Value).toArray s = true := hts (.initialized RX6) (by decide +kernel)
  have hl := lv_entry ([.ref h0, .long a, .long b, .int 3]) (n := 12) (Nat.le_of_ble_eq_true rfl)
  rw [lg_entry_eq]
  generalize (lg_sl ([.ref h0, .long a, .long b, .int 3]) ++ List.replicate (12 - (lg_sl ([.ref h0, .long a, .long b, .int 3])).length) Slot.unset).toArray = ls at hl ⊢
  have hl : lv_has ls 12 [(0, .ref h0), (1, .long a), (3, .long b), (5, .int 3)] := hl
  refine lv_bipush (v := (-2)) hx hb dX3_lowestBestMove_0 (by decide) ?_
  refine lv_istore (lv' := [(6, .int (-2)), (0, .ref h0), (1, .long a), (3, .long b), (5, .int 3)]) hx hb dX3_lowestBestMove_2 hl (by decide) rfl (fun ls hl => ?_)
  refine lv_iconst (v := 0) hx hb dX3_lowestBestMove_4 (by decide) ?_
  refine lv_istore (lv' := [(7, .int 0), (6, .int (-2)), (0, .ref h0), (1, .long a), (3, .long b), (5, .int 3)]) hx hb dX3_lowestBestMove_5 hl (by decide) rfl (fun ls hl => ?_)
  refine lv_iconst (v := 0) hx hb dX3_lowestBestMove_7 (by decide) ?_
  refine lv_istore (lv' := [(8, .int 0), (7, .int 0), (6, .int (-2)), (0, .ref h0), (1, .long a), (3, .long b), (5, .int 3)]) hx hb dX3_lowestBestMove_8 hl (by decide) rfl (fun ls hl => ?_)
  have loop10 : ∀ (nn i10 : Nat), i10 + nn = 288 → ∀ (fm10 : Nat → Int64) (vl10 : Nat → Int32) (hT10 : TI fm10 vl10) (H : Heap) (locs : List Loc), va_P D vwCl [(h0, .inr (1, [.ref vt])), (vt, .inr (2, [.ref vf, .ref vv])), (vf, .inl (cJ, 1024, .inr (.inl fm10))), (vv, .inl (cI, 1024, .inl vl10))] H → va_D A [(h0, .inr (1, [.ref vt])), (vt, .inr (2, [.ref vf, .ref vv])), (vf, .inl (cJ, 1024, .inr (.inl fm10))), (vv, .inl (cI, 1024, .inl vl10))] → va_S A s.heap H locs → ∀ ls, lv_has ls 12 [(8, .int (nI i10)), (6, .int (mlow (vput 2) a b i10).1), (7, .int (nI (mlow (vput 2) a b i10).2)), (0, .ref h0), (1, .long a), (3, .long b), (5, .int 3)] → W p l e (headSpec wsX3_lowestBestMove ({ frames := 11, cells := 0, slots := 0, locals := 319 } : Room)).room s m ([.ref h0, .long a, .long b, .int 3] : List Value).toArray below meth c H locs 0 0 (MQ below (va_Qi (fun (r : Int32) (u : (Nat → Int64) × (Nat → Int32)) => r = nI (mlow (vput 2) a b 288).2 ∧ TI u.1 u.2) (fun (u : (Nat → Int64) × (Nat → Int32)) => pv_B D cI cJ (A) [(h0, .inr (1, [.ref vt])), (vt, .inr (2, [.ref vf, .ref vv])), (vf, .inl (cJ, 1024, .inr (.inl u.1))), (vv, .inl (cI, 1024, .inl u.2))]) (A)) ([.ref h0, .long a, .long b, .int 3] : List Value).toArray s 0 0 A) (F0 m 10 ls []) := by
    intro nn
    induction nn with
    | zero =>
      intro i10 hi10 fm10 vl10 hT10 H locs hP hD hS ls hl
      obtain rfl : i10 = 288 := by omega
      refine lv_iload hx hb dX3_lowestBestMove_10 (lv_at hl 0 rfl) ?_
      refine lv_sipush (v := 288) hx hb dX3_lowestBestMove_12 (by decide) ?_
      refine lv_icmp_ge (tgt := 100) hx hb dX3_lowestBestMove_15 (by decide) (fun c15 => ?_) (fun c15 => ?_)
      · have c15 : 288 ≤ 288 := (nq_le (a := 288) (b := 288) (by omega) (by omega)).mp c15
        refine lv_iload hx hb dX3_lowestBestMove_100 (lv_at hl 2 rfl) ?_
        refine W.iret (v := (nI (mlow (vput 2) a b 288).2)) hx hb hr (fun tt ht hW => ⟨⟨(nI (mlow (vput 2) a b 288).2), (fm10, vl10), rfl, ?_, by rw [ht]; exact hP, va_K.moved hW.alike hK, hD⟩, hS.F ht⟩) hS.2.2 dX3_lowestBestMove_102
        exact ⟨by { exact rfl }, hT10⟩
      · have c15 : ¬ 288 ≤ 288 := _root_.mt (nq_le (a := 288) (b := 288) (by omega) (by omega)).mpr c15
        omega
    | succ nn ih10 =>
      intro i10 hi10 fm10 vl10 hT10 H locs hP hD hS ls hl
      refine lv_iload hx hb dX3_lowestBestMove_10 (lv_at hl 0 rfl) ?_
      refine lv_sipush (v := 288) hx hb dX3_lowestBestMove_12 (by decide) ?_
      refine lv_icmp_ge (tgt := 100) hx hb dX3_lowestBestMove_15 (by decide) (fun c15 => ?_) (fun c15 => ?_)
      · have c15 : 288 ≤ i10 := (nq_le (a := 288) (b := i10) (by omega) (by omega)).mp c15
        omega
      · have c15 : ¬ 288 ≤ i10 := _root_.mt (nq_le (a := 288) (b := i10) (by omega) (by omega)).mpr c15
        refine lv_iload hx hb dX3_lowestBestMove_18 (lv_at hl 1 rfl) ?_
        refine lv_iconst (v := 1) hx hb dX3_lowestBestMove_20 (by decide) ?_
        refine lv_icmp_ge (tgt := 100) hx hb dX3_lowestBestMove_21 (by decide) (fun c21 => ?_) (fun c21 => ?_)
        · refine lv_iload hx hb dX3_lowestBestMove_100 (lv_at hl 2 rfl) ?_
          refine W.iret (v := (nI (mlow (vput 2) a b i10).2)) hx hb hr (fun tt ht hW => ⟨⟨(nI (mlow (vput 2) a b i10).2), (fm10, vl10), rfl, ?_, by rw [ht]; exact hP, va_K.moved hW.alike hK, hD⟩, hS.F ht⟩) hS.2.2 dX3_lowestBestMove_102
          exact ⟨by { rw [stopM c21 (by omega)] }, hT10⟩
        · refine lv_iload hx hb dX3_lowestBestMove_24 (lv_at hl 0 rfl) ?_
          refine lv_bipush (v := 8) hx hb dX3_lowestBestMove_26 (by decide) ?_
          refine lv_idiv hx hb dX3_lowestBestMove_28 (by decide) ?_
          refine pk_ti (y := nI (i10 / 8)) (pk_div (a := i10) (d := 8) (by omega) (by omega) (by omega)) ?_
          refine vp_callSl (va_Run.run (va_runSN (As := [.int (nI (i10 / 8))]) (rest := []) ⟨hx, hb, hml, hown, hts⟩ (c_X6_bitOf l (nI (i10 / 8))) ⟨va_cnB 1 hts gX3_lowestBestMove_X6_bitOf_n54 rfl rfl rfl hnest54 hiniX6 (by decide +kernel) ⟨Nat.le_of_ble_eq_true rfl, Nat.le_of_ble_eq_true rfl⟩, hts _ (by decide +kernel), trivial⟩ ⟨px_blind0, fun U hU hW => ⟨rfl, trivial⟩⟩ rfl rfl hl.1 rfl (lv_room (Nat.le_of_ble_eq_true rfl)) dX3_lowestBestMove_29 ⟨(Nat.le_of_ble_eq_true rfl), (Nat.le_of_ble_eq_true rfl)⟩)) (fun r29 er29 => ?_)
          obtain rfl := er29.symm
          refine lv_lstore (lv' := [(9, .long (jshl 1 (nI (i10 / 8)))), (8, .int (nI i10)), (6, .int (mlow (vput 2) a b i10).1), (7, .int (nI (mlow (vput 2) a b i10).2)), (0, .ref h0), (1, .long a), (3, .long b), (5, .int 3)]) hx hb dX3_lowestBestMove_32 hl (by decide) rfl (fun ls hl => ?_)
          refine lv_lload_n hx hb dX3_lowestBestMove_34 rfl (lv_at hl 5 rfl) ?_
          refine lv_lload_n hx hb dX3_lowestBestMove_35 rfl (lv_at hl 6 rfl) ?_
          refine lv_lor hx hb dX3_lowestBestMove_36 ?_
          refine lv_topl (fun x36 ex36 => ?_)
          refine lv_lload hx hb dX3_lowestBestMove_37 (lv_at hl 0 rfl) ?_
          refine lv_land hx hb dX3_lowestBestMove_39 ?_
          refine lv_topl (fun x39 ex39 => ?_)
          refine lv_lconst (v := 0) hx hb dX3_lowestBestMove_40 (by decide) ?_
          refine W.lcmp hx hb dX3_lowestBestMove_41 ?_
          refine lv_if_ne (tgt := 94) hx hb dX3_lowestBestMove_42 (by decide) (fun c42 => ?_) (fun c42 => ?_)
          · rw [lg_cmp_eq] at c42
            refine lv_iinc (v := nI (i10 + 1)) (lv' := [(8, .int (nI (i10 + 1))), (9, .long (jshl 1 (nI (i10 / 8)))), (6, .int (mlow (vput 2) a b i10).1), (7, .int (nI (mlow (vput 2) a b i10).2)), (0, .ref h0), (1, .long a), (3, .long b), (5, .int 3)]) hx hb dX3_lowestBestMove_94 hl (k := 1) rfl (nI_add i10 1) (by decide) rfl (fun ls hl => ?_)
            refine lv_goto (tgt := 10) hx hb dX3_lowestBestMove_97 (by decide) ?_
            exact ih10 (i10 + 1) (by omega) _ _ hT10 _ _ hP hD hS ls (by { have e9 : ((mlow (vput 2) a b i10).1 : Int32) = (mlow (vput 2) a b (i10 + 1)).1 := by { obtain rfl := ex36.symm; obtain rfl := ex39.symm; exact (congrArg Prod.fst (mlow_n c21 c42)).symm }; rw [← e9]; have e9 : ((nI (mlow (vput 2) a b i10).2) : Int32) = (nI (mlow (vput 2) a b (i10 + 1)).2) := by { obtain rfl := ex36.symm; obtain rfl := ex39.symm; exact (congrArg (fun q => nI q.2) (mlow_n c21 c42)).symm }; rw [← e9]; exact lv_sub hl [0, 2, 3, 4, 5, 6, 7] rfl })
          · rw [lg_cmp_eq] at c42
            refine lv_lload_n hx hb dX3_lowestBestMove_45 rfl (lv_at hl 5 rfl) ?_
            refine lv_lload hx hb dX3_lowestBestMove_46 (lv_at hl 0 rfl) ?_
            refine lv_lor hx hb dX3_lowestBestMove_48 ?_
            refine lv_topl (fun x48 ex48 => ?_)
            refine vp_callSi (W.runS (As := [.long x48]) (rest := []) ⟨hx, hb, hml, hown, hts⟩ (c_X1_hasLine l x48) (va_cwS 1 hts gX3_lowestBestMove_X1_hasLine rfl rfl rfl (by decide +kernel) ⟨Nat.le_of_ble_eq_true rfl, Nat.le_of_ble_eq_true rfl⟩) ⟨px_blind0, fun U hU hW => ⟨rfl, trivial⟩⟩ rfl rfl hl.1 rfl (lv_room (Nat.le_of_ble_eq_true rfl)) dX3_lowestBestMove_49 ⟨(Nat.le_of_ble_eq_true rfl), (Nat.le_of_ble_eq_true rfl)⟩) (fun r49 er49 => ?_)
            obtain rfl := er49.symm
            refine pk_b (P := cline x48 = true) (fun b49 => ?_) (fun b49 => ?_)
            · refine lv_if_eq (tgt := 59) hx hb dX3_lowestBestMove_52 (by decide) (fun c52 => ?_) (fun c52 => ?_)
              · exact absurd c52 (by decide)
              · refine lv_iconst (v := 1) hx hb dX3_lowestBestMove_55 (by decide) ?_
                refine lv_goto (tgt := 77) hx hb dX3_lowestBestMove_56 (by decide) ?_
                refine lv_istore (lv' := [(11, .int 1), (9, .long (jshl 1 (nI (i10 / 8)))), (8, .int (nI i10)), (6, .int (mlow (vput 2) a b i10).1), (7, .int (nI (mlow (vput 2) a b i10).2)), (0, .ref h0), (1, .long a), (3, .long b), (5, .int 3)]) hx hb dX3_lowestBestMove_77 hl (by decide) rfl (fun ls hl => ?_)
                refine lv_iload hx hb dX3_lowestBestMove_79 (lv_at hl 0 rfl) ?_
                refine lv_iload hx hb dX3_lowestBestMove_81 (lv_at hl 3 rfl) ?_
                refine lv_icmp_le (tgt := 94) hx hb dX3_lowestBestMove_83 (by decide) (fun c83 => ?_) (fun c83 => ?_)
                · refine lv_iinc (v := nI (i10 + 1)) (lv' := [(8, .int (nI (i10 + 1))), (11, .int 1), (9, .long (jshl 1 (nI (i10 / 8)))), (6, .int (mlow (vput 2) a b i10).1), (7, .int (nI (mlow (vput 2) a b i10).2)), (0, .ref h0), (1, .long a), (3, .long b), (5, .int 3)]) hx hb dX3_lowestBestMove_94 hl (k := 2) rfl (nI_add i10 1) (by decide) rfl (fun ls hl => ?_)
                  refine lv_goto (tgt := 10) hx hb dX3_lowestBestMove_97 (by decide) ?_
                  exact ih10 (i10 + 1) (by omega) _ _ hT10 _ _ hP hD hS ls (by { have e9 : ((mlow (vput 2) a b i10).1 : Int32) = (mlow (vput 2) a b (i10 + 1)).1 := by { obtain rfl := ex36.symm; obtain rfl := ex39.symm; obtain rfl := ex48.symm; exact (congrArg Prod.fst (mlow_b c21 c42 (mval_1 b49) c83)).symm }; rw [← e9]; have e9 : ((nI (mlow (vput 2) a b i10).2) : Int32) = (nI (mlow (vput 2) a b (i10 + 1)).2) := by { obtain rfl := ex36.symm; obtain rfl := ex39.symm; obtain rfl := ex48.symm; exact (congrArg (fun q => nI q.2) (mlow_b c21 c42 (mval_1 b49) c83)).symm }; rw [← e9]; exact lv_sub hl [0, 3, 4, 5, 6, 7, 8] rfl })
                · refine lv_iload hx hb dX3_lowestBestMove_86 (lv_at hl 0 rfl) ?_
                  refine lv_istore (lv' := [(6, .int 1), (11, .int 1), (9, .long (jshl 1 (nI (i10 / 8)))), (8, .int (nI i10)), (7, .int (nI (mlow (vput 2) a b i10).2)), (0, .ref h0), (1, .long a), (3, .long b), (5, .int 3)]) hx hb dX3_lowestBestMove_88 hl (by decide) rfl (fun ls hl => ?_)
                  refine lv_iload hx hb dX3_lowestBestMove_90 (lv_at hl 3 rfl) ?_
                  refine lv_istore (lv' := [(7, .int (nI i10)), (6, .int 1), (11, .int 1), (9, .long (jshl 1 (nI (i10 / 8)))), (8, .int (nI i10)), (0, .ref h0), (1, .long a), (3, .long b), (5, .int 3)]) hx hb dX3_lowestBestMove_92 hl (by decide) rfl (fun ls hl => ?_)
                  refine lv_iinc (v := nI (i10 + 1)) (lv' := [(8, .int (nI (i10 + 1))), (7, .int (nI i10)), (6, .int 1), (11, .int 1), (9, .long (jshl 1 (nI (i10 / 8)))), (0, .ref h0), (1, .long a), (3, .long b), (5, .int 3)]) hx hb dX3_lowestBestMove_94 hl (k := 4) rfl (nI_add i10 1) (by decide) rfl (fun ls hl => ?_)
                  refine lv_goto (tgt := 10) hx hb dX3_lowestBestMove_97 (by decide) ?_
                  exact ih10 (i10 + 1) (by omega) _ _ hT10 _ _ hP hD hS ls (by { have e9 : (1 : Int32) = (mlow (vput 2) a b (i10 + 1)).1 := by { obtain rfl := ex36.symm; obtain rfl := ex39.symm; obtain rfl := ex48.symm; exact (congrArg Prod.fst (mlow_a c21 c42 (mval_1 b49) c83)).symm }; rw [← e9]; have e9 : ((nI i10) : Int32) = (nI (mlow (vput 2) a b (i10 + 1)).2) := by { obtain rfl := ex36.symm; obtain rfl := ex39.symm; obtain rfl := ex48.symm; exact (congrArg (fun q => nI q.2) (mlow_a c21 c42 (mval_1 b49) c83)).symm }; rw [← e9]; exact lv_sub hl [0, 2, 1, 5, 6, 7, 8] rfl })
            · refine lv_if_eq (tgt := 59) hx hb dX3_lowestBestMove_52 (by decide) (fun c52 => ?_) (fun c52 => ?_)
              · refine lv_aload_n hx hb dX3_lowestBestMove_59 rfl (lv_at hl 4 rfl) ?_
                refine lv_lload_n hx hb dX3_lowestBestMove_60 rfl (lv_at hl 5 rfl) ?_
                refine lv_lload hx hb dX3_lowestBestMove_61 (lv_at hl 0 rfl) ?_
                refine lv_lor hx hb dX3_lowestBestMove_63 ?_
                refine lv_topl (fun x63 ex63 => ?_)
                refine lv_lload_n hx hb dX3_lowestBestMove_64 rfl (lv_at hl 6 rfl) ?_
                refine lv_iload hx hb dX3_lowestBestMove_65 (lv_at hl 1 rfl) ?_
                refine lv_bipush (v := 8) hx hb dX3_lowestBestMove_67 (by decide) ?_
                refine lv_irem hx hb dX3_lowestBestMove_69 (by decide) ?_
                refine pk_ti (y := nI (i10 % 8)) (pk_rem (a := i10) (d := 8) (by omega) (by omega) (by omega)) ?_
                refine lv_iload hx hb dX3_lowestBestMove_70 (lv_at hl 7 rfl) ?_
                refine lv_iconst (v := 1) hx hb dX3_lowestBestMove_72 (by decide) ?_
                refine lv_isub hx hb dX3_lowestBestMove_73 ?_
                refine pk_ti (y := nI 2) (by decide) ?_
                have hPc := hP.sub (ws' := [(h0, .inr (1, [.ref vt])), (vt, .inr (2, [.ref vf, .ref vv])), (vf, .inl (cJ, 1024, .inr (.inl fm10))), (vv, .inl (cI, 1024, .inl vl10))]) [0, 1, 2, 3] rfl
                have hDc := hD.sub (ws' := [(h0, .inr (1, [.ref vt])), (vt, .inr (2, [.ref vf, .ref vv])), (vf, .inl (cJ, 1024, .inr (.inl fm10))), (vv, .inl (cI, 1024, .inl vl10))]) [0, 1, 2, 3] (by decide) rfl
                have hFc := va_free (wc := [(h0, .inr (1, [.ref vt])), (vt, .inr (2, [.ref vf, .ref vv])), (vf, .inl (cJ, 1024, .inr (.inl fm10))), (vv, .inl (cI, 1024, .inl vl10))]) hD hS hA [0, 1, 2, 3] rfl
                refine va_calli (va_runV (As := [.long x63, .long b, .int (nI (i10 % 8)), .int (nI 2)]) (rest := []) ⟨hx, hb, hml, hown, hts⟩ (c_X3_valueBehindTurn_f2 l D cI cJ H.size  h0 vt vf vv fm10 vl10 hT10 x63 b (i10 % 8) (by omega) (by obtain rfl := ex36.symm; obtain rfl := ex39.symm; obtain rfl := ex48.symm; obtain rfl := ex63.symm; exact bv_put hB (by omega) c42)) (cwV 4 hts gX3_lowestBestMove_X3_valueBehindTurn rfl rfl rfl (by decide +kernel) ⟨Nat.le_of_ble_eq_true rfl, Nat.le_of_ble_eq_true rfl⟩) ⟨(px_blindE pv_blind), va_recv hK hPc (ci := 1) (q0 := 0) rfl rfl, fun U hU hW => ⟨rfl, hEN.warm hW, by rw [hU], by rw [hU]; exact hPc, va_K.moved hW.alike hK, hDc.weaken (fun _ _ _ _ => trivial)⟩⟩ rfl rfl hl.1 rfl (lv_room (Nat.le_of_ble_eq_true rfl)) dX3_lowestBestMove_74 ⟨(Nat.le_of_ble_eq_true rfl), (Nat.le_of_ble_eq_true rfl)⟩) hS (fun q _ h => hFc q h) hFc (fun r74 u t9 H1 locs hth hvm hw74 hB hz1 hk1 hS => ?_)
                obtain ⟨fm74, vl74⟩ := u
                try dsimp only at hw74
                obtain ⟨hP1, hK1, hD1⟩ := hB
                rw [hth] at hP1
                obtain ⟨hP, hD⟩ := va_join (wr := []) (w1 := [(h0, .inr (1, [.ref vt])), (vt, .inr (2, [.ref vf, .ref vv])), (vf, .inl (cJ, 1024, .inr (.inl fm74))), (vv, .inl (cI, 1024, .inl vl74))]) hP hD [0, 1, 2, 3] [] rfl rfl (by decide) (by decide) hk1 hFc hP1 hD1
                generalize H1 = H at hP hS ⊢
                have hP : va_P D vwCl [(h0, .inr (1, [.ref vt])), (vt, .inr (2, [.ref vf, .ref vv])), (vf, .inl (cJ, 1024, .inr (.inl fm74))), (vv, .inl (cI, 1024, .inl vl74))] H := hP.sub (ws' := [(h0, .inr (1, [.ref vt])), (vt, .inr (2, [.ref vf, .ref vv])), (vf, .inl (cJ, 1024, .inr (.inl fm74))), (vv, .inl (cI, 1024, .inl vl74))]) [0, 1, 2, 3] rfl
                have hD : va_D A [(h0, .inr (1, [.ref vt])), (vt, .inr (2, [.ref vf, .ref vv])), (vf, .inl (cJ, 1024, .inr (.inl fm74))), (vv, .inl (cI, 1024, .inl vl74))] := hD.sub (ws' := [(h0, .inr (1, [.ref vt])), (vt, .inr (2, [.ref vf, .ref vv])), (vf, .inl (cJ, 1024, .inr (.inl fm74))), (vv, .inl (cI, 1024, .inl vl74))]) [0, 1, 2, 3] (by decide) rfl
                obtain ⟨hv9, hT74⟩ := hw74
                obtain rfl := hv9.symm
                refine lv_istore (lv' := [(11, .int (vbehind (vput 2) x63 b (i10 % 8))), (9, .long (jshl 1 (nI (i10 / 8)))), (8, .int (nI i10)), (6, .int (mlow (vput 2) a b i10).1), (7, .int (nI (mlow (vput 2) a b i10).2)), (0, .ref h0), (1, .long a), (3, .long b), (5, .int 3)]) hx hb dX3_lowestBestMove_77 hl (by decide) rfl (fun ls hl => ?_)
                refine lv_iload hx hb dX3_lowestBestMove_79 (lv_at hl 0 rfl) ?_
                refine lv_iload hx hb dX3_lowestBestMove_81 (lv_at hl 3 rfl) ?_
                refine lv_icmp_le (tgt := 94) hx hb dX3_lowestBestMove_83 (by decide) (fun c83 => ?_) (fun c83 => ?_)
                · refine lv_iinc (v := nI (i10 + 1)) (lv' := [(8, .int (nI (i10 + 1))), (11, .int (vbehind (vput 2) x63 b (i10 % 8))), (9, .long (jshl 1 (nI (i10 / 8)))), (6, .int (mlow (vput 2) a b i10).1), (7, .int (nI (mlow (vput 2) a b i10).2)), (0, .ref h0), (1, .long a), (3, .long b), (5, .int 3)]) hx hb dX3_lowestBestMove_94 hl (k := 2) rfl (nI_add i10 1) (by decide) rfl (fun ls hl => ?_)
                  refine lv_goto (tgt := 10) hx hb dX3_lowestBestMove_97 (by decide) ?_
                  exact ih10 (i10 + 1) (by omega) _ _ hT74 _ _ hP hD hS ls (by { have e9 : ((mlow (vput 2) a b i10).1 : Int32) = (mlow (vput 2) a b (i10 + 1)).1 := by { obtain rfl := ex36.symm; obtain rfl := ex39.symm; obtain rfl := ex48.symm; obtain rfl := ex63.symm; exact (congrArg Prod.fst (mlow_b c21 c42 (mval_t b49) c83)).symm }; rw [← e9]; have e9 : ((nI (mlow (vput 2) a b i10).2) : Int32) = (nI (mlow (vput 2) a b (i10 + 1)).2) := by { obtain rfl := ex36.symm; obtain rfl := ex39.symm; obtain rfl := ex48.symm; obtain rfl := ex63.symm; exact (congrArg (fun q => nI q.2) (mlow_b c21 c42 (mval_t b49) c83)).symm }; rw [← e9]; exact lv_sub hl [0, 3, 4, 5, 6, 7, 8] rfl })
                · refine lv_iload hx hb dX3_lowestBestMove_86 (lv_at hl 0 rfl) ?_
                  refine lv_istore (lv' := [(6, .int (vbehind (vput 2) x63 b (i10 % 8))), (11, .int (vbehind (vput 2) x63 b (i10 % 8))), (9, .long (jshl 1 (nI (i10 / 8)))), (8, .int (nI i10)), (7, .int (nI (mlow (vput 2) a b i10).2)), (0, .ref h0), (1, .long a), (3, .long b), (5, .int 3)]) hx hb dX3_lowestBestMove_88 hl (by decide) rfl (fun ls hl => ?_)
                  refine lv_iload hx hb dX3_lowestBestMove_90 (lv_at hl 3 rfl) ?_
                  refine lv_istore (lv' := [(7, .int (nI i10)), (6, .int (vbehind (vput 2) x63 b (i10 % 8))), (11, .int (vbehind (vput 2) x63 b (i10 % 8))), (9, .long (jshl 1 (nI (i10 / 8)))), (8, .int (nI i10)), (0, .ref h0), (1, .long a), (3, .long b), (5, .int 3)]) hx hb dX3_lowestBestMove_92 hl (by decide) rfl (fun ls hl => ?_)
                  refine lv_iinc (v := nI (i10 + 1)) (lv' := [(8, .int (nI (i10 + 1))), (7, .int (nI i10)), (6, .int (vbehind (vput 2) x63 b (i10 % 8))), (11, .int (vbehind (vput 2) x63 b (i10 % 8))), (9, .long (jshl 1 (nI (i10 / 8)))), (0, .ref h0), (1, .long a), (3, .long b), (5, .int 3)]) hx hb dX3_lowestBestMove_94 hl (k := 4) rfl (nI_add i10 1) (by decide) rfl (fun ls hl => ?_)
                  refine lv_goto (tgt := 10) hx hb dX3_lowestBestMove_97 (by decide) ?_
                  exact ih10 (i10 + 1) (by omega) _ _ hT74 _ _ hP hD hS ls (by { have e9 : ((vbehind (vput 2) x63 b (i10 % 8)) : Int32) = (mlow (vput 2) a b (i10 + 1)).1 := by { obtain rfl := ex36.symm; obtain rfl := ex39.symm; obtain rfl := ex48.symm; obtain rfl := ex63.symm; exact (congrArg Prod.fst (mlow_a c21 c42 (mval_t b49) c83)).symm }; rw [← e9]; have e9 : ((nI i10) : Int32) = (nI (mlow (vput 2) a b (i10 + 1)).2) := by { obtain rfl := ex36.symm; obtain rfl := ex39.symm; obtain rfl := ex48.symm; obtain rfl := ex63.symm; exact (congrArg (fun q => nI q.2) (mlow_a c21 c42 (mval_t b49) c83)).symm }; rw [← e9]; exact lv_sub hl [0, 2, 1, 5, 6, 7, 8] rfl })
              · exact absurd c52 (by decide)
  exact loop10 288 0 (by omega) _ _ hT _ _ hP hD hS ls (lv_sub hl [0, 2, 1, 3, 4, 5, 6] rfl)

set_option maxHeartbeats 400000 in
set_option maxRecDepth 100000 in
theorem c_X3_valueToPut_f3 (l : Launch) (D : va_G) (cI cJ : ClassId) (sz : Nat) (h0 vt vf vv : Nat) (fm : Nat → Int64) (vl : Nat → Int32) (hT : TI fm vl) (a b : Int64)  (hB : BV 3 a b) : Met l yX3_valueToPut wsX3_valueToPut ({ frames := 13, cells := 0, slots := 0, locals := 376 } : Room) (va_Pc [.ref h0, .long a, .long b, .int 3] (px_E (pv_C D cI cJ [(h0, .inr (1, [.ref vt])), (vt, .inr (2, [.ref vf, .ref vv])), (vf, .inl (cJ, 1024, .inr (.inl fm))), (vv, .inl (cI, 1024, .inl vl))] sz))) (va_Qi (fun (r : Int32) (u : (Nat → Int64) × (Nat → Int32)) => r = vput 3 a b ∧ TI u.1 u.2) (fun (u : (Nat → Int64) × (Nat → Int32)) => pv_B D cI cJ (va_A [(h0, .inr (1, [.ref vt])), (vt, .inr (2, [.ref vf, .ref vv])), (vf, .inl (cJ, 1024, .inr (.inl fm))), (vv, .inl (cI, 1024, .inl vl))] sz) [(h0, .inr (1, [.ref vt])), (vt, .inr (2, [.ref vf, .ref vv])), (vf, .inl (cJ, 1024, .inr (.inl u.1))), (vv, .inl (cI, 1024, .inl u.2))]) (va_A [(h0, .inr (1, [.ref vt])), (vt, .inr (2, [.ref vf, .ref vv])), (vf, .inl (cJ, 1024, .inr (.inl fm))), (vv, .inl (cI, 1024, .inl vl))] sz)) 0 0 (va_A [(h0, .inr (1, [.ref vt])), (vt, .inr (2, [.ref vf, .ref vv])), (vf, .inl (cJ, 1024, .inr (.inl fm))), (vv, .inl (cI, 1024, .inl vl))] sz) := by
  refine Met.ofW (cc := cX3_valueToPut) (maxL := 9) (ret := (some .int)) (by decide) rfl ?_
  intro p e s m args below meth c s₁ B hml hv
  obtain ⟨rfl, hEN, rfl, hP, hK, hD0⟩ := hv
  have hx := B.exec
  have hb := B.bytes
  have hr := B.returns
  have hts := atoms_spec (ws := wsX3_valueToPut) B.pre
  have hown : s.vm.findClass RX3 = some m.cls := findClass_of_methodNamed B.named
  have hlocks := B.notSynchronized
  have hD := hD0.self (sz := s.heap.size)
  generalize hAe : va_A [(h0, .inr (1, [.ref vt])), (vt, .inr (2, [.ref vf, .ref vv])), (vf, .inl (cJ, 1024, .inr (.inl fm))), (vv, .inl (cI, 1024, .inl vl))] s.heap.size = A at hD ⊢
  have hA : ∀ q : Nat, s.heap.size ≤ q → A q := fun q h => by rw [← hAe]; exact Or.inr h
  have hS : va_S A s.heap s.heap [] := va_S.rf
  have hinX3 : ∀ w ∈ wsX30, w ∈ wsX3_valueToPut := by decide +kernel
  have hfl9 : (Cond.fieldLink RX3 9 "Twistquad$Solver" "table" "LTwistquad$ValueTable;").before ([.ref h0, .long a, .long b, .int 3] : List Value).toArray s = true := hts _ (by decide +kernel)
  have hl := lv_entry ([.ref h0, .long a, .long b, .int 3]) (n := 9) (Nat.le_of_ble_eq_true rfl)
  rw [lg_entry_eq]
  generalize (lg_sl ([.ref h0, .long a, .long b, .int 3]) ++ List.replicate (9 - (lg_sl ([.ref h0, .long a, .long b, .int 3])).length) Slot.unset).toArray = ls at hl ⊢
  have hl : lv_has ls 9 [(0, .ref h0), (1, .long a), (3, .long b), (5, .int 3)] := hl
  refine lv_iload hx hb dX3_valueToPut_0 (lv_at hl 3 rfl) ?_
  refine lv_if_le (tgt := 11) hx hb dX3_valueToPut_2 (by decide) (fun c2 => ?_) (fun c2 => ?_)
  · exact absurd c2 (by decide)
  · refine lv_iload hx hb dX3_valueToPut_5 (lv_at hl 3 rfl) ?_
    refine lv_iconst (v := 3) hx hb dX3_valueToPut_7 (by decide) ?_
    refine lv_icmp_le (tgt := 13) hx hb dX3_valueToPut_8 (by decide) (fun c8 => ?_) (fun c8 => ?_)
    · refine lv_aload_n hx hb dX3_valueToPut_13 rfl (lv_at hl 0 rfl) ?_
      refine va_get (D := D) (ci := 1) (v := .ref vt) (C := RX3) (T := TX3) (N := 1) hx hb hts hinX3 hown hK hP 0 rfl rfl 0 (by decide) hfl9 (fun _ h9 => h9) rfl dX3_valueToPut_14 ?_
      refine lv_ifnull hx hb dX3_valueToPut_17 ?_
      refine lv_iload hx hb dX3_valueToPut_20 (lv_at hl 3 rfl) ?_
      refine lv_iconst (v := 2) hx hb dX3_valueToPut_22 (by decide) ?_
      refine lv_icmp_ge (tgt := 35) hx hb dX3_valueToPut_23 (by decide) (fun c23 => ?_) (fun c23 => ?_)
      · refine lv_lload_n hx hb dX3_valueToPut_35 rfl (lv_at hl 1 rfl) ?_
        refine vp_callSi (W.runS (As := [.long a]) (rest := []) ⟨hx, hb, hml, hown, hts⟩ (c_J13_bitCount_95d88 l a) (va_cwS 1 hts gX3_valueToPut_J13_bitCount_95d88 rfl rfl rfl (by decide +kernel) ⟨Nat.le_of_ble_eq_true rfl, Nat.le_of_ble_eq_true rfl⟩) ⟨px_blind0, fun U hU hW => ⟨rfl, trivial⟩⟩ rfl rfl hl.1 rfl (lv_room (Nat.le_of_ble_eq_true rfl)) dX3_valueToPut_36 ⟨(Nat.le_of_ble_eq_true rfl), (Nat.le_of_ble_eq_true rfl)⟩) (fun r36 er36 => ?_)
        obtain rfl := er36.symm
        refine lv_lload_n hx hb dX3_valueToPut_39 rfl (lv_at hl 2 rfl) ?_
        refine vp_callSi (W.runS (As := [.long b]) (rest := [.int (nI (pop a))]) ⟨hx, hb, hml, hown, hts⟩ (c_J13_bitCount_95d88 l b) (va_cwS 1 hts gX3_valueToPut_J13_bitCount_95d88 rfl rfl rfl (by decide +kernel) ⟨Nat.le_of_ble_eq_true rfl, Nat.le_of_ble_eq_true rfl⟩) ⟨px_blind0, fun U hU hW => ⟨rfl, trivial⟩⟩ rfl rfl hl.1 rfl (lv_room (Nat.le_of_ble_eq_true rfl)) dX3_valueToPut_40 ⟨(Nat.le_of_ble_eq_true rfl), (Nat.le_of_ble_eq_true rfl)⟩) (fun r40 er40 => ?_)
        obtain rfl := er40.symm
        have hpa := pop_le a
        have hpb := pop_le b
        refine lv_icmp_ne (tgt := 54) hx hb dX3_valueToPut_43 (by decide) (fun c43 => ?_) (fun c43 => ?_)
        · have c43 : ¬ (pop a) = (pop b) := _root_.mt (nq_eq (a := (pop a)) (b := (pop b)) (by omega) (by omega)).mpr c43
          refine lv_lload_n hx hb dX3_valueToPut_54 rfl (lv_at hl 2 rfl) ?_
          refine lv_lload_n hx hb dX3_valueToPut_55 rfl (lv_at hl 1 rfl) ?_
          refine vp_callSl (W.runS (As := [.long b, .long a]) (rest := []) ⟨hx, hb, hml, hown, hts⟩ (c_X0_leastCode l b a) (va_cwS 2 hts gX3_valueToPut_X0_leastCode rfl rfl rfl (by decide +kernel) ⟨Nat.le_of_ble_eq_true rfl, Nat.le_of_ble_eq_true rfl⟩) ⟨px_blind0, fun U hU hW => ⟨rfl, trivial⟩⟩ rfl rfl hl.1 rfl (lv_room (Nat.le_of_ble_eq_true rfl)) dX3_valueToPut_56 ⟨(Nat.le_of_ble_eq_true rfl), (Nat.le_of_ble_eq_true rfl)⟩) (fun r56 er56 => ?_)
          obtain rfl := er56.symm
          refine pk_tl (y := fkey a b) (by unfold fkey; first | exact (if_pos c43).symm | exact (if_neg c43).symm) ?_
          refine lv_lstore (lv' := [(6, .long (fkey a b)), (0, .ref h0), (1, .long a), (3, .long b), (5, .int 3)]) hx hb dX3_valueToPut_59 hl (by decide) rfl (fun ls hl => ?_)
          refine lv_aload_n hx hb dX3_valueToPut_61 rfl (lv_at hl 1 rfl) ?_
          refine va_get (D := D) (ci := 1) (v := .ref vt) (C := RX3) (T := TX3) (N := 1) hx hb hts hinX3 hown hK hP 0 rfl rfl 0 (by decide) hfl9 (fun _ h9 => h9) rfl dX3_valueToPut_62 ?_
          refine lv_lload hx hb dX3_valueToPut_65 (lv_at hl 0 rfl) ?_
          refine vp_callSi (W.runV (As := [.long (fkey a b)]) (rest := []) ⟨hx, hb, hml, hown, hts⟩ (c_X5_holds l D cI cJ vt vf vv fm vl (fkey a b)) (cwV 1 hts gX3_valueToPut_X5_holds rfl rfl rfl (by decide +kernel) ⟨Nat.le_of_ble_eq_true rfl, Nat.le_of_ble_eq_true rfl⟩) ⟨px_blindW, va_recv hK hP (ci := 2) (q0 := 1) rfl rfl, fun U hU hW => ⟨rfl, by rw [hU]; exact hP.sub (ws' := [(vt, .inr (2, [.ref vf, .ref vv])), (vf, .inl (cJ, 1024, .inr (.inl fm))), (vv, .inl (cI, 1024, .inl vl))]) [1, 2, 3] rfl, va_K.moved hW.alike hK⟩⟩ rfl rfl hl.1 rfl (lv_room (Nat.le_of_ble_eq_true rfl)) dX3_valueToPut_67 ⟨(Nat.le_of_ble_eq_true rfl), (Nat.le_of_ble_eq_true rfl)⟩) (fun r67 er67 => ?_)
          obtain rfl := er67.symm
          refine pk_b (P := fm (slotN (fkey a b)) = (fkey a b)) (fun b67 => ?_) (fun b67 => ?_)
          · refine lv_if_eq (tgt := 83) hx hb dX3_valueToPut_70 (by decide) (fun c70 => ?_) (fun c70 => ?_)
            · exact absurd c70 (by decide)
            · refine lv_aload_n hx hb dX3_valueToPut_73 rfl (lv_at hl 1 rfl) ?_
              refine va_get (D := D) (ci := 1) (v := .ref vt) (C := RX3) (T := TX3) (N := 1) hx hb hts hinX3 hown hK hP 0 rfl rfl 0 (by decide) hfl9 (fun _ h9 => h9) rfl dX3_valueToPut_74 ?_
              refine lv_lload hx hb dX3_valueToPut_77 (lv_at hl 0 rfl) ?_
              refine vp_callSi (W.runV (As := [.long (fkey a b)]) (rest := []) ⟨hx, hb, hml, hown, hts⟩ (c_X5_valueOf l D cI cJ vt vf vv fm vl (fkey a b)) (cwV 1 hts gX3_valueToPut_X5_valueOf rfl rfl rfl (by decide +kernel) ⟨Nat.le_of_ble_eq_true rfl, Nat.le_of_ble_eq_true rfl⟩) ⟨px_blindW, va_recv hK hP (ci := 2) (q0 := 1) rfl rfl, fun U hU hW => ⟨rfl, by rw [hU]; exact hP.sub (ws' := [(vt, .inr (2, [.ref vf, .ref vv])), (vf, .inl (cJ, 1024, .inr (.inl fm))), (vv, .inl (cI, 1024, .inl vl))]) [1, 2, 3] rfl, va_K.moved hW.alike hK⟩⟩ rfl rfl hl.1 rfl (lv_room (Nat.le_of_ble_eq_true rfl)) dX3_valueToPut_79 ⟨(Nat.le_of_ble_eq_true rfl), (Nat.le_of_ble_eq_true rfl)⟩) (fun r79 er79 => ?_)
              obtain rfl := er79.symm
              refine W.iret (v := (vl (slotN (fkey a b)))) hx hb hr (fun tt ht hW => ⟨⟨(vl (slotN (fkey a b))), (fm, vl), rfl, ?_, by rw [ht]; exact hP, va_K.moved hW.alike hK, hD⟩, hS.F ht⟩) hS.2.2 dX3_valueToPut_82
              exact ⟨by { exact (hT _ (slot_in _) 3 a b hB (by omega) b67.symm).symm }, hT⟩
          · refine lv_if_eq (tgt := 83) hx hb dX3_valueToPut_70 (by decide) (fun c70 => ?_) (fun c70 => ?_)
            · refine lv_aload_n hx hb dX3_valueToPut_83 rfl (lv_at hl 1 rfl) ?_
              refine lv_lload_n hx hb dX3_valueToPut_84 rfl (lv_at hl 2 rfl) ?_
              refine lv_lload_n hx hb dX3_valueToPut_85 rfl (lv_at hl 3 rfl) ?_
              refine lv_iload hx hb dX3_valueToPut_86 (lv_at hl 4 rfl) ?_
              have hPc := hP.sub (ws' := [(h0, .inr (1, [.ref vt])), (vt, .inr (2, [.ref vf, .ref vv])), (vf, .inl (cJ, 1024, .inr (.inl fm))), (vv, .inl (cI, 1024, .inl vl))]) [0, 1, 2, 3] rfl
              have hDc := hD.sub (ws' := [(h0, .inr (1, [.ref vt])), (vt, .inr (2, [.ref vf, .ref vv])), (vf, .inl (cJ, 1024, .inr (.inl fm))), (vv, .inl (cI, 1024, .inl vl))]) [0, 1, 2, 3] (by decide) rfl
              have hFc := va_free (wc := [(h0, .inr (1, [.ref vt])), (vt, .inr (2, [.ref vf, .ref vv])), (vf, .inl (cJ, 1024, .inr (.inl fm))), (vv, .inl (cI, 1024, .inl vl))]) hD hS hA [0, 1, 2, 3] rfl
              refine va_calli (va_runV (As := [.long a, .long b, .int 3]) (rest := []) ⟨hx, hb, hml, hown, hts⟩ (c_X3_playMarbles_f3 l D cI cJ s.heap.size  h0 vt vf vv fm vl hT a b hB) (cwV 3 hts gX3_valueToPut_X3_playMarbles rfl rfl rfl (by decide +kernel) ⟨Nat.le_of_ble_eq_true rfl, Nat.le_of_ble_eq_true rfl⟩) ⟨(px_blindE pv_blind), va_recv hK hPc (ci := 1) (q0 := 0) rfl rfl, fun U hU hW => ⟨rfl, hEN.warm hW, by rw [hU], by rw [hU]; exact hPc, va_K.moved hW.alike hK, hDc.weaken (fun _ _ _ _ => trivial)⟩⟩ rfl rfl hl.1 rfl (lv_room (Nat.le_of_ble_eq_true rfl)) dX3_valueToPut_88 ⟨(Nat.le_of_ble_eq_true rfl), (Nat.le_of_ble_eq_true rfl)⟩) hS (fun q _ h => hFc q h) hFc (fun r88 u t9 H1 locs hth hvm hw88 hB hz1 hk1 hS => ?_)
              obtain ⟨fm88, vl88⟩ := u
              try dsimp only at hw88
              obtain ⟨hP1, hK1, hD1⟩ := hB
              rw [hth] at hP1
              obtain ⟨hP, hD⟩ := va_join (wr := []) (w1 := [(h0, .inr (1, [.ref vt])), (vt, .inr (2, [.ref vf, .ref vv])), (vf, .inl (cJ, 1024, .inr (.inl fm88))), (vv, .inl (cI, 1024, .inl vl88))]) hP hD [0, 1, 2, 3] [] rfl rfl (by decide) (by decide) hk1 hFc hP1 hD1
              generalize H1 = H at hP hS ⊢
              have hP : va_P D vwCl [(h0, .inr (1, [.ref vt])), (vt, .inr (2, [.ref vf, .ref vv])), (vf, .inl (cJ, 1024, .inr (.inl fm88))), (vv, .inl (cI, 1024, .inl vl88))] H := hP.sub (ws' := [(h0, .inr (1, [.ref vt])), (vt, .inr (2, [.ref vf, .ref vv])), (vf, .inl (cJ, 1024, .inr (.inl fm88))), (vv, .inl (cI, 1024, .inl vl88))]) [0, 1, 2, 3] rfl
              have hD : va_D A [(h0, .inr (1, [.ref vt])), (vt, .inr (2, [.ref vf, .ref vv])), (vf, .inl (cJ, 1024, .inr (.inl fm88))), (vv, .inl (cI, 1024, .inl vl88))] := hD.sub (ws' := [(h0, .inr (1, [.ref vt])), (vt, .inr (2, [.ref vf, .ref vv])), (vf, .inl (cJ, 1024, .inr (.inl fm88))), (vv, .inl (cI, 1024, .inl vl88))]) [0, 1, 2, 3] (by decide) rfl
              obtain ⟨hv9, hT88⟩ := hw88
              obtain rfl := hv9.symm
              refine lv_istore (lv' := [(8, .int (vput 3 a b)), (6, .long (fkey a b)), (0, .ref h0), (1, .long a), (3, .long b), (5, .int 3)]) hx hb dX3_valueToPut_91 hl (by decide) rfl (fun ls hl => ?_)
              refine lv_aload_n hx hb dX3_valueToPut_93 rfl (lv_at hl 2 rfl) ?_
              refine va_get (D := D) (ci := 1) (v := .ref vt) (C := RX3) (T := TX3) (N := 1) hx hb hts hinX3 hown hK hP 0 rfl rfl 0 (by decide) hfl9 (fun _ h9 => h9) rfl dX3_valueToPut_94 ?_
              refine lv_lload hx hb dX3_valueToPut_97 (lv_at hl 1 rfl) ?_
              refine lv_iload hx hb dX3_valueToPut_99 (lv_at hl 0 rfl) ?_
              have hPc := hP.sub (ws' := [(vt, .inr (2, [.ref vf, .ref vv])), (vf, .inl (cJ, 1024, .inr (.inl fm88))), (vv, .inl (cI, 1024, .inl vl88))]) [1, 2, 3] rfl
              have hDc := hD.sub (ws' := [(vt, .inr (2, [.ref vf, .ref vv])), (vf, .inl (cJ, 1024, .inr (.inl fm88))), (vv, .inl (cI, 1024, .inl vl88))]) [1, 2, 3] (by decide) rfl
              have hFc := va_free (wc := [(vt, .inr (2, [.ref vf, .ref vv])), (vf, .inl (cJ, 1024, .inr (.inl fm88))), (vv, .inl (cI, 1024, .inl vl88))]) hD hS hA [1, 2, 3] rfl
              refine va_callv (va_runV (As := [.long (fkey a b), .int (vput 3 a b)]) (rest := []) ⟨hx, hb, hml, hown, hts⟩ (c_X5_keep l D cI cJ H.size  vt vf vv fm88 vl88 (fkey a b) (vput 3 a b)) (cwV 2 hts gX3_valueToPut_X5_keep rfl rfl rfl (by decide +kernel) ⟨Nat.le_of_ble_eq_true rfl, Nat.le_of_ble_eq_true rfl⟩) ⟨pv_blind, va_recv hK hPc (ci := 2) (q0 := 0) rfl rfl, fun U hU hW => ⟨rfl, by rw [hU], by rw [hU]; exact hPc, va_K.moved hW.alike hK, hDc.weaken (fun _ _ _ _ => trivial)⟩⟩ rfl rfl hl.1 rfl (lv_room (Nat.le_of_ble_eq_true rfl)) dX3_valueToPut_101 ⟨(Nat.le_of_ble_eq_true rfl), (Nat.le_of_ble_eq_true rfl)⟩) hS (fun q _ h => hFc q h) hFc (fun u t9 H1 locs hth hvm hw101 hB hz1 hk1 hS => ?_)
              try dsimp only at hw101
              obtain ⟨hP1, hK1, hD1⟩ := hB
              rw [hth] at hP1
              obtain ⟨hP, hD⟩ := va_join (wr := [(h0, .inr (1, [.ref vt]))]) (w1 := [(vt, .inr (2, [.ref vf, .ref vv])), (vf, .inl (cJ, 1024, .inr (.inl (vp_updL fm88 (slotN (fkey a b)) (fkey a b))))), (vv, .inl (cI, 1024, .inl (upd vl88 (slotN (fkey a b)) (vput 3 a b))))]) hP hD [1, 2, 3] [0] rfl rfl (by decide) (by decide) hk1 hFc hP1 hD1
              generalize H1 = H at hP hS ⊢
              have hP : va_P D vwCl [(h0, .inr (1, [.ref vt])), (vt, .inr (2, [.ref vf, .ref vv])), (vf, .inl (cJ, 1024, .inr (.inl (vp_updL fm88 (slotN (fkey a b)) (fkey a b))))), (vv, .inl (cI, 1024, .inl (upd vl88 (slotN (fkey a b)) (vput 3 a b))))] H := hP.sub (ws' := [(h0, .inr (1, [.ref vt])), (vt, .inr (2, [.ref vf, .ref vv])), (vf, .inl (cJ, 1024, .inr (.inl (vp_updL fm88 (slotN (fkey a b)) (fkey a b))))), (vv, .inl (cI, 1024, .inl (upd vl88 (slotN (fkey a b)) (vput 3 a b))))]) [0, 1, 2, 3] rfl
              have hD : va_D A [(h0, .inr (1, [.ref vt])), (vt, .inr (2, [.ref vf, .ref vv])), (vf, .inl (cJ, 1024, .inr (.inl (vp_updL fm88 (slotN (fkey a b)) (fkey a b))))), (vv, .inl (cI, 1024, .inl (upd vl88 (slotN (fkey a b)) (vput 3 a b))))] := hD.sub (ws' := [(h0, .inr (1, [.ref vt])), (vt, .inr (2, [.ref vf, .ref vv])), (vf, .inl (cJ, 1024, .inr (.inl (vp_updL fm88 (slotN (fkey a b)) (fkey a b))))), (vv, .inl (cI, 1024, .inl (upd vl88 (slotN (fkey a b)) (vput 3 a b))))]) [0, 1, 2, 3] (by decide) rfl
              have hT101 := ti_keep hT88 (n := 3) (by omega) hB
              refine lv_iload hx hb dX3_valueToPut_104 (lv_at hl 0 rfl) ?_
              refine W.iret (v := (vput 3 a b)) hx hb hr (fun tt ht hW => ⟨⟨(vput 3 a b), ((vp_updL fm88 (slotN (fkey a b)) (fkey a b)), (upd vl88 (slotN (fkey a b)) (vput 3 a b))), rfl, ?_, by rw [ht]; exact hP, va_K.moved hW.alike hK, hD⟩, hS.F ht⟩) hS.2.2 dX3_valueToPut_106
              exact ⟨by { exact rfl }, hT101⟩
            · exact absurd c70 (by decide)
        · have c43 : (pop a) = (pop b) := (nq_eq (a := (pop a)) (b := (pop b)) (by omega) (by omega)).mp c43
          refine lv_lload_n hx hb dX3_valueToPut_46 rfl (lv_at hl 1 rfl) ?_
          refine lv_lload_n hx hb dX3_valueToPut_47 rfl (lv_at hl 2 rfl) ?_
          refine vp_callSl (W.runS (As := [.long a, .long b]) (rest := []) ⟨hx, hb, hml, hown, hts⟩ (c_X0_leastCode l a b) (va_cwS 2 hts gX3_valueToPut_X0_leastCode rfl rfl rfl (by decide +kernel) ⟨Nat.le_of_ble_eq_true rfl, Nat.le_of_ble_eq_true rfl⟩) ⟨px_blind0, fun U hU hW => ⟨rfl, trivial⟩⟩ rfl rfl hl.1 rfl (lv_room (Nat.le_of_ble_eq_true rfl)) dX3_valueToPut_48 ⟨(Nat.le_of_ble_eq_true rfl), (Nat.le_of_ble_eq_true rfl)⟩) (fun r48 er48 => ?_)
          obtain rfl := er48.symm
          refine lv_goto (tgt := 59) hx hb dX3_valueToPut_51 (by decide) ?_
          refine pk_tl (y := fkey a b) (by unfold fkey; first | exact (if_pos c43).symm | exact (if_neg c43).symm) ?_
          refine lv_lstore (lv' := [(6, .long (fkey a b)), (0, .ref h0), (1, .long a), (3, .long b), (5, .int 3)]) hx hb dX3_valueToPut_59 hl (by decide) rfl (fun ls hl => ?_)
          refine lv_aload_n hx hb dX3_valueToPut_61 rfl (lv_at hl 1 rfl) ?_
          refine va_get (D := D) (ci := 1) (v := .ref vt) (C := RX3) (T := TX3) (N := 1) hx hb hts hinX3 hown hK hP 0 rfl rfl 0 (by decide) hfl9 (fun _ h9 => h9) rfl dX3_valueToPut_62 ?_
          refine lv_lload hx hb dX3_valueToPut_65 (lv_at hl 0 rfl) ?_
          refine vp_callSi (W.runV (As := [.long (fkey a b)]) (rest := []) ⟨hx, hb, hml, hown, hts⟩ (c_X5_holds l D cI cJ vt vf vv fm vl (fkey a b)) (cwV 1 hts gX3_valueToPut_X5_holds rfl rfl rfl (by decide +kernel) ⟨Nat.le_of_ble_eq_true rfl, Nat.le_of_ble_eq_true rfl⟩) ⟨px_blindW, va_recv hK hP (ci := 2) (q0 := 1) rfl rfl, fun U hU hW => ⟨rfl, by rw [hU]; exact hP.sub (ws' := [(vt, .inr (2, [.ref vf, .ref vv])), (vf, .inl (cJ, 1024, .inr (.inl fm))), (vv, .inl (cI, 1024, .inl vl))]) [1, 2, 3] rfl, va_K.moved hW.alike hK⟩⟩ rfl rfl hl.1 rfl (lv_room (Nat.le_of_ble_eq_true rfl)) dX3_valueToPut_67 ⟨(Nat.le_of_ble_eq_true rfl), (Nat.le_of_ble_eq_true rfl)⟩) (fun r67 er67 => ?_)
          obtain rfl := er67.symm
          refine pk_b (P := fm (slotN (fkey a b)) = (fkey a b)) (fun b67 => ?_) (fun b67 => ?_)
          · refine lv_if_eq (tgt := 83) hx hb dX3_valueToPut_70 (by decide) (fun c70 => ?_) (fun c70 => ?_)
            · exact absurd c70 (by decide)
            · refine lv_aload_n hx hb dX3_valueToPut_73 rfl (lv_at hl 1 rfl) ?_
              refine va_get (D := D) (ci := 1) (v := .ref vt) (C := RX3) (T := TX3) (N := 1) hx hb hts hinX3 hown hK hP 0 rfl rfl 0 (by decide) hfl9 (fun _ h9 => h9) rfl dX3_valueToPut_74 ?_
              refine lv_lload hx hb dX3_valueToPut_77 (lv_at hl 0 rfl) ?_
              refine vp_callSi (W.runV (As := [.long (fkey a b)]) (rest := []) ⟨hx, hb, hml, hown, hts⟩ (c_X5_valueOf l D cI cJ vt vf vv fm vl (fkey a b)) (cwV 1 hts gX3_valueToPut_X5_valueOf rfl rfl rfl (by decide +kernel) ⟨Nat.le_of_ble_eq_true rfl, Nat.le_of_ble_eq_true rfl⟩) ⟨px_blindW, va_recv hK hP (ci := 2) (q0 := 1) rfl rfl, fun U hU hW => ⟨rfl, by rw [hU]; exact hP.sub (ws' := [(vt, .inr (2, [.ref vf, .ref vv])), (vf, .inl (cJ, 1024, .inr (.inl fm))), (vv, .inl (cI, 1024, .inl vl))]) [1, 2, 3] rfl, va_K.moved hW.alike hK⟩⟩ rfl rfl hl.1 rfl (lv_room (Nat.le_of_ble_eq_true rfl)) dX3_valueToPut_79 ⟨(Nat.le_of_ble_eq_true rfl), (Nat.le_of_ble_eq_true rfl)⟩) (fun r79 er79 => ?_)
              obtain rfl := er79.symm
              refine W.iret (v := (vl (slotN (fkey a b)))) hx hb hr (fun tt ht hW => ⟨⟨(vl (slotN (fkey a b))), (fm, vl), rfl, ?_, by rw [ht]; exact hP, va_K.moved hW.alike hK, hD⟩, hS.F ht⟩) hS.2.2 dX3_valueToPut_82
              exact ⟨by { exact (hT _ (slot_in _) 3 a b hB (by omega) b67.symm).symm }, hT⟩
          · refine lv_if_eq (tgt := 83) hx hb dX3_valueToPut_70 (by decide) (fun c70 => ?_) (fun c70 => ?_)
            · refine lv_aload_n hx hb dX3_valueToPut_83 rfl (lv_at hl 1 rfl) ?_
              refine lv_lload_n hx hb dX3_valueToPut_84 rfl (lv_at hl 2 rfl) ?_
              refine lv_lload_n hx hb dX3_valueToPut_85 rfl (lv_at hl 3 rfl) ?_
              refine lv_iload hx hb dX3_valueToPut_86 (lv_at hl 4 rfl) ?_
              have hPc := hP.sub (ws' := [(h0, .inr (1, [.ref vt])), (vt, .inr (2, [.ref vf, .ref vv])), (vf, .inl (cJ, 1024, .inr (.inl fm))), (vv, .inl (cI, 1024, .inl vl))]) [0, 1, 2, 3] rfl
              have hDc := hD.sub (ws' := [(h0, .inr (1, [.ref vt])), (vt, .inr (2, [.ref vf, .ref vv])), (vf, .inl (cJ, 1024, .inr (.inl fm))), (vv, .inl (cI, 1024, .inl vl))]) [0, 1, 2, 3] (by decide) rfl
              have hFc := va_free (wc := [(h0, .inr (1, [.ref vt])), (vt, .inr (2, [.ref vf, .ref vv])), (vf, .inl (cJ, 1024, .inr (.inl fm))), (vv, .inl (cI, 1024, .inl vl))]) hD hS hA [0, 1, 2, 3] rfl
              refine va_calli (va_runV (As := [.long a, .long b, .int 3]) (rest := []) ⟨hx, hb, hml, hown, hts⟩ (c_X3_playMarbles_f3 l D cI cJ s.heap.size  h0 vt vf vv fm vl hT a b hB) (cwV 3 hts gX3_valueToPut_X3_playMarbles rfl rfl rfl (by decide +kernel) ⟨Nat.le_of_ble_eq_true rfl, Nat.le_of_ble_eq_true rfl⟩) ⟨(px_blindE pv_blind), va_recv hK hPc (ci := 1) (q0 := 0) rfl rfl, fun U hU hW => ⟨rfl, hEN.warm hW, by rw [hU], by rw [hU]; exact hPc, va_K.moved hW.alike hK, hDc.weaken (fun _ _ _ _ => trivial)⟩⟩ rfl rfl hl.1 rfl (lv_room (Nat.le_of_ble_eq_true rfl)) dX3_valueToPut_88 ⟨(Nat.le_of_ble_eq_true rfl), (Nat.le_of_ble_eq_true rfl)⟩) hS (fun q _ h => hFc q h) hFc (fun r88 u t9 H1 locs hth hvm hw88 hB hz1 hk1 hS => ?_)
              obtain ⟨fm88, vl88⟩ := u
              try dsimp only at hw88
              obtain ⟨hP1, hK1, hD1⟩ := hB
              rw [hth] at hP1
              obtain ⟨hP, hD⟩ := va_join (wr := []) (w1 := [(h0, .inr (1, [.ref vt])), (vt, .inr (2, [.ref vf, .ref vv])), (vf, .inl (cJ, 1024, .inr (.inl fm88))), (vv, .inl (cI, 1024, .inl vl88))]) hP hD [0, 1, 2, 3] [] rfl rfl (by decide) (by decide) hk1 hFc hP1 hD1
              generalize H1 = H at hP hS ⊢
              have hP : va_P D vwCl [(h0, .inr (1, [.ref vt])), (vt, .inr (2, [.ref vf, .ref vv])), (vf, .inl (cJ, 1024, .inr (.inl fm88))), (vv, .inl (cI, 1024, .inl vl88))] H := hP.sub (ws' := [(h0, .inr (1, [.ref vt])), (vt, .inr (2, [.ref vf, .ref vv])), (vf, .inl (cJ, 1024, .inr (.inl fm88))), (vv, .inl (cI, 1024, .inl vl88))]) [0, 1, 2, 3] rfl
              have hD : va_D A [(h0, .inr (1, [.ref vt])), (vt, .inr (2, [.ref vf, .ref vv])), (vf, .inl (cJ, 1024, .inr (.inl fm88))), (vv, .inl (cI, 1024, .inl vl88))] := hD.sub (ws' := [(h0, .inr (1, [.ref vt])), (vt, .inr (2, [.ref vf, .ref vv])), (vf, .inl (cJ, 1024, .inr (.inl fm88))), (vv, .inl (cI, 1024, .inl vl88))]) [0, 1, 2, 3] (by decide) rfl
              obtain ⟨hv9, hT88⟩ := hw88
              obtain rfl := hv9.symm
              refine lv_istore (lv' := [(8, .int (vput 3 a b)), (6, .long (fkey a b)), (0, .ref h0), (1, .long a), (3, .long b), (5, .int 3)]) hx hb dX3_valueToPut_91 hl (by decide) rfl (fun ls hl => ?_)
              refine lv_aload_n hx hb dX3_valueToPut_93 rfl (lv_at hl 2 rfl) ?_
              refine va_get (D := D) (ci := 1) (v := .ref vt) (C := RX3) (T := TX3) (N := 1) hx hb hts hinX3 hown hK hP 0 rfl rfl 0 (by decide) hfl9 (fun _ h9 => h9) rfl dX3_valueToPut_94 ?_
              refine lv_lload hx hb dX3_valueToPut_97 (lv_at hl 1 rfl) ?_
              refine lv_iload hx hb dX3_valueToPut_99 (lv_at hl 0 rfl) ?_
              have hPc := hP.sub (ws' := [(vt, .inr (2, [.ref vf, .ref vv])), (vf, .inl (cJ, 1024, .inr (.inl fm88))), (vv, .inl (cI, 1024, .inl vl88))]) [1, 2, 3] rfl
              have hDc := hD.sub (ws' := [(vt, .inr (2, [.ref vf, .ref vv])), (vf, .inl (cJ, 1024, .inr (.inl fm88))), (vv, .inl (cI, 1024, .inl vl88))]) [1, 2, 3] (by decide) rfl
              have hFc := va_free (wc := [(vt, .inr (2, [.ref vf, .ref vv])), (vf, .inl (cJ, 1024, .inr (.inl fm88))), (vv, .inl (cI, 1024, .inl vl88))]) hD hS hA [1, 2, 3] rfl
              refine va_callv (va_runV (As := [.long (fkey a b), .int (vput 3 a b)]) (rest := []) ⟨hx, hb, hml, hown, hts⟩ (c_X5_keep l D cI cJ H.size  vt vf vv fm88 vl88 (fkey a b) (vput 3 a b)) (cwV 2 hts gX3_valueToPut_X5_keep rfl rfl rfl (by decide +kernel) ⟨Nat.le_of_ble_eq_true rfl, Nat.le_of_ble_eq_true rfl⟩) ⟨pv_blind, va_recv hK hPc (ci := 2) (q0 := 0) rfl rfl, fun U hU hW => ⟨rfl, by rw [hU], by rw [hU]; exact hPc, va_K.moved hW.alike hK, hDc.weaken (fun _ _ _ _ => trivial)⟩⟩ rfl rfl hl.1 rfl (lv_room (Nat.le_of_ble_eq_true rfl)) dX3_valueToPut_101 ⟨(Nat.le_of_ble_eq_true rfl), (Nat.le_of_ble_eq_true rfl)⟩) hS (fun q _ h => hFc q h) hFc (fun u t9 H1 locs hth hvm hw101 hB hz1 hk1 hS => ?_)
              try dsimp only at hw101
              obtain ⟨hP1, hK1, hD1⟩ := hB
              rw [hth] at hP1
              obtain ⟨hP, hD⟩ := va_join (wr := [(h0, .inr (1, [.ref vt]))]) (w1 := [(vt, .inr (2, [.ref vf, .ref vv])), (vf, .inl (cJ, 1024, .inr (.inl (vp_updL fm88 (slotN (fkey a b)) (fkey a b))))), (vv, .inl (cI, 1024, .inl (upd vl88 (slotN (fkey a b)) (vput 3 a b))))]) hP hD [1, 2, 3] [0] rfl rfl (by decide) (by decide) hk1 hFc hP1 hD1
              generalize H1 = H at hP hS ⊢
              have hP : va_P D vwCl [(h0, .inr (1, [.ref vt])), (vt, .inr (2, [.ref vf, .ref vv])), (vf, .inl (cJ, 1024, .inr (.inl (vp_updL fm88 (slotN (fkey a b)) (fkey a b))))), (vv, .inl (cI, 1024, .inl (upd vl88 (slotN (fkey a b)) (vput 3 a b))))] H := hP.sub (ws' := [(h0, .inr (1, [.ref vt])), (vt, .inr (2, [.ref vf, .ref vv])), (vf, .inl (cJ, 1024, .inr (.inl (vp_updL fm88 (slotN (fkey a b)) (fkey a b))))), (vv, .inl (cI, 1024, .inl (upd vl88 (slotN (fkey a b)) (vput 3 a b))))]) [0, 1, 2, 3] rfl
              have hD : va_D A [(h0, .inr (1, [.ref vt])), (vt, .inr (2, [.ref vf, .ref vv])), (vf, .inl (cJ, 1024, .inr (.inl (vp_updL fm88 (slotN (fkey a b)) (fkey a b))))), (vv, .inl (cI, 1024, .inl (upd vl88 (slotN (fkey a b)) (vput 3 a b))))] := hD.sub (ws' := [(h0, .inr (1, [.ref vt])), (vt, .inr (2, [.ref vf, .ref vv])), (vf, .inl (cJ, 1024, .inr (.inl (vp_updL fm88 (slotN (fkey a b)) (fkey a b))))), (vv, .inl (cI, 1024, .inl (upd vl88 (slotN (fkey a b)) (vput 3 a b))))]) [0, 1, 2, 3] (by decide) rfl
              have hT101 := ti_keep hT88 (n := 3) (by omega) hB
              refine lv_iload hx hb dX3_valueToPut_104 (lv_at hl 0 rfl) ?_
              refine W.iret (v := (vput 3 a b)) hx hb hr (fun tt ht hW => ⟨⟨(vput 3 a b), ((vp_updL fm88 (slotN (fkey a b)) (fkey a b)), (upd vl88 (slotN (fkey a b)) (vput 3 a b))), rfl, ?_, by rw [ht]; exact hP, va_K.moved hW.alike hK, hD⟩, hS.F ht⟩) hS.2.2 dX3_valueToPut_106
              exact ⟨by { exact rfl }, hT101⟩
            · exact absurd c70 (by decide)
      · exact absurd c23 (by decide)
    · exact absurd c8 (by decide)

set_option maxHeartbeats 400000 in
set_option maxRecDepth 100000 in
theorem c_X3_valueBehindTurn_f3 (l : Launch) (D : va_G) (cI cJ : ClassId) (sz : Nat) (h0 vt vf vv : Nat) (fm : Nat → Int64) (vl : Nat → Int32) (hT : TI fm vl) (a b : Int64) (tn : Nat) (htn : tn < 8) (hB : BH 3 a b) : Met l yX3_valueBehindTurn wsX3_valueBehindTurn ({ frames := 14, cells := 0, slots := 0, locals := 404 } : Room) (va_Pc [.ref h0, .long a, .long b, .int (nI tn), .int 3] (px_E (pv_C D cI cJ [(h0, .inr (1, [.ref vt])), (vt, .inr (2, [.ref vf, .ref vv])), (vf, .inl (cJ, 1024, .inr (.inl fm))), (vv, .inl (cI, 1024, .inl vl))] sz))) (va_Qi (fun (r : Int32) (u : (Nat → Int64) × (Nat → Int32)) => r = vbehind (vput 3) a b tn ∧ TI u.1 u.2) (fun (u : (Nat → Int64) × (Nat → Int32)) => pv_B D cI cJ (va_A [(h0, .inr (1, [.ref vt])), (vt, .inr (2, [.ref vf, .ref vv])), (vf, .inl (cJ, 1024, .inr (.inl fm))), (vv, .inl (cI, 1024, .inl vl))] sz) [(h0, .inr (1, [.ref vt])), (vt, .inr (2, [.ref vf, .ref vv])), (vf, .inl (cJ, 1024, .inr (.inl u.1))), (vv, .inl (cI, 1024, .inl u.2))]) (va_A [(h0, .inr (1, [.ref vt])), (vt, .inr (2, [.ref vf, .ref vv])), (vf, .inl (cJ, 1024, .inr (.inl fm))), (vv, .inl (cI, 1024, .inl vl))] sz)) 0 0 (va_A [(h0, .inr (1, [.ref vt])), (vt, .inr (2, [.ref vf, .ref vv])), (vf, .inl (cJ, 1024, .inr (.inl fm))), (vv, .inl (cI, 1024, .inl vl))] sz) := by
  refine Met.ofW (cc := cX3_valueBehindTurn) (maxL := 13) (ret := (some .int)) (by decide) rfl ?_
  intro p e s m args below meth c s₁ B hml hv
  obtain ⟨rfl, hEN, rfl, hP, hK, hD0⟩ := hv
  have hx := B.exec
  have hb := B.bytes
  have hr := B.returns
  have hts := atoms_spec (ws := wsX3_valueBehindTurn) B.pre
  have hown : s.vm.findClass RX3 = some m.cls := findClass_of_methodNamed B.named
  have hlocks := B.notSynchronized
  have hD := hD0.self (sz := s.heap.size)
  generalize hAe : va_A [(h0, .inr (1, [.ref vt])), (vt, .inr (2, [.ref vf, .ref vv])), (vf, .inl (cJ, 1024, .inr (.inl fm))), (vv, .inl (cI, 1024, .inl vl))] s.heap.size = A at hD ⊢
  have hA : ∀ q : Nat, s.heap.size ≤ q → A q := fun q h => by rw [← hAe]; exact Or.inr h
  have hS : va_S A s.heap s.heap [] := va_S.rf
  have hl := lv_entry ([.ref h0, .long a, .long b, .int (nI tn), .int 3]) (n := 13) (Nat.le_of_ble_eq_true rfl)
  rw [lg_entry_eq]
  generalize (lg_sl ([.ref h0, .long a, .long b, .int (nI tn), .int 3]) ++ List.replicate (13 - (lg_sl ([.ref h0, .long a, .long b, .int (nI tn), .int 3])).length) Slot.unset).toArray = ls at hl ⊢
  have hl : lv_has ls 13 [(0, .ref h0), (1, .long a), (3, .long b), (5, .int (nI tn)), (6, .int 3)] := hl
  refine lv_lload_n hx hb dX3_valueBehindTurn_0 rfl (lv_at hl 1 rfl) ?_
  refine lv_iload hx hb dX3_valueBehindTurn_1 (lv_at hl 3 rfl) ?_
  refine vp_callSl (W.runS (As := [.long a, .int (nI tn)]) (rest := []) ⟨hx, hb, hml, hown, hts⟩ (c_X4_turned l a tn (by omega)) (va_cwS 2 hts gX3_valueBehindTurn_X4_turned rfl rfl rfl (by decide +kernel) ⟨Nat.le_of_ble_eq_true rfl, Nat.le_of_ble_eq_true rfl⟩) ⟨px_blind0, fun U hU hW => ⟨rfl, trivial⟩⟩ rfl rfl hl.1 rfl (lv_room (Nat.le_of_ble_eq_true rfl)) dX3_valueBehindTurn_3 ⟨(Nat.le_of_ble_eq_true rfl), (Nat.le_of_ble_eq_true rfl)⟩) (fun r3 er3 => ?_)
  obtain rfl := er3.symm
  refine lv_lstore (lv' := [(7, .long (cturned a tn)), (0, .ref h0), (1, .long a), (3, .long b), (5, .int (nI tn)), (6, .int 3)]) hx hb dX3_valueBehindTurn_6 hl (by decide) rfl (fun ls hl => ?_)
  refine lv_lload_n hx hb dX3_valueBehindTurn_8 rfl (lv_at hl 3 rfl) ?_
  refine lv_iload hx hb dX3_valueBehindTurn_9 (lv_at hl 4 rfl) ?_
  refine vp_callSl (W.runS (As := [.long b, .int (nI tn)]) (rest := []) ⟨hx, hb, hml, hown, hts⟩ (c_X4_turned l b tn (by omega)) (va_cwS 2 hts gX3_valueBehindTurn_X4_turned rfl rfl rfl (by decide +kernel) ⟨Nat.le_of_ble_eq_true rfl, Nat.le_of_ble_eq_true rfl⟩) ⟨px_blind0, fun U hU hW => ⟨rfl, trivial⟩⟩ rfl rfl hl.1 rfl (lv_room (Nat.le_of_ble_eq_true rfl)) dX3_valueBehindTurn_11 ⟨(Nat.le_of_ble_eq_true rfl), (Nat.le_of_ble_eq_true rfl)⟩) (fun r11 er11 => ?_)
  obtain rfl := er11.symm
  refine lv_lstore (lv' := [(9, .long (cturned b tn)), (7, .long (cturned a tn)), (0, .ref h0), (1, .long a), (3, .long b), (5, .int (nI tn)), (6, .int 3)]) hx hb dX3_valueBehindTurn_14 hl (by decide) rfl (fun ls hl => ?_)
  refine lv_lload hx hb dX3_valueBehindTurn_16 (lv_at hl 1 rfl) ?_
  refine vp_callSi (W.runS (As := [.long (cturned a tn)]) (rest := []) ⟨hx, hb, hml, hown, hts⟩ (c_X1_hasLine l (cturned a tn)) (va_cwS 1 hts gX3_valueBehindTurn_X1_hasLine rfl rfl rfl (by decide +kernel) ⟨Nat.le_of_ble_eq_true rfl, Nat.le_of_ble_eq_true rfl⟩) ⟨px_blind0, fun U hU hW => ⟨rfl, trivial⟩⟩ rfl rfl hl.1 rfl (lv_room (Nat.le_of_ble_eq_true rfl)) dX3_valueBehindTurn_18 ⟨(Nat.le_of_ble_eq_true rfl), (Nat.le_of_ble_eq_true rfl)⟩) (fun r18 er18 => ?_)
  obtain rfl := er18.symm
  refine pk_b (P := cline (cturned a tn) = true) (fun b18 => ?_) (fun b18 => ?_)
  · refine lv_istore (lv' := [(11, .int 1), (9, .long (cturned b tn)), (7, .long (cturned a tn)), (0, .ref h0), (1, .long a), (3, .long b), (5, .int (nI tn)), (6, .int 3)]) hx hb dX3_valueBehindTurn_21 hl (by decide) rfl (fun ls hl => ?_)
    refine lv_lload hx hb dX3_valueBehindTurn_23 (lv_at hl 1 rfl) ?_
    refine vp_callSi (W.runS (As := [.long (cturned b tn)]) (rest := []) ⟨hx, hb, hml, hown, hts⟩ (c_X1_hasLine l (cturned b tn)) (va_cwS 1 hts gX3_valueBehindTurn_X1_hasLine rfl rfl rfl (by decide +kernel) ⟨Nat.le_of_ble_eq_true rfl, Nat.le_of_ble_eq_true rfl⟩) ⟨px_blind0, fun U hU hW => ⟨rfl, trivial⟩⟩ rfl rfl hl.1 rfl (lv_room (Nat.le_of_ble_eq_true rfl)) dX3_valueBehindTurn_25 ⟨(Nat.le_of_ble_eq_true rfl), (Nat.le_of_ble_eq_true rfl)⟩) (fun r25 er25 => ?_)
    obtain rfl := er25.symm
    refine pk_b (P := cline (cturned b tn) = true) (fun b25 => ?_) (fun b25 => ?_)
    · refine lv_istore (lv' := [(12, .int 1), (11, .int 1), (9, .long (cturned b tn)), (7, .long (cturned a tn)), (0, .ref h0), (1, .long a), (3, .long b), (5, .int (nI tn)), (6, .int 3)]) hx hb dX3_valueBehindTurn_28 hl (by decide) rfl (fun ls hl => ?_)
      refine lv_iload hx hb dX3_valueBehindTurn_30 (lv_at hl 1 rfl) ?_
      refine lv_iload hx hb dX3_valueBehindTurn_32 (lv_at hl 0 rfl) ?_
      refine lv_icmp_eq (tgt := 48) hx hb dX3_valueBehindTurn_34 (by decide) (fun c34 => ?_) (fun c34 => ?_)
      · refine lv_iload hx hb dX3_valueBehindTurn_48 (lv_at hl 1 rfl) ?_
        refine lv_if_eq (tgt := 57) hx hb dX3_valueBehindTurn_50 (by decide) (fun c50 => ?_) (fun c50 => ?_)
        · exact absurd c50 (by decide)
        · refine lv_iconst (v := 0) hx hb dX3_valueBehindTurn_53 (by decide) ?_
          refine lv_goto (tgt := 68) hx hb dX3_valueBehindTurn_54 (by decide) ?_
          refine W.iret (v := 0) hx hb hr (fun tt ht hW => ⟨⟨0, (fm, vl), rfl, ?_, by rw [ht]; exact hP, va_K.moved hW.alike hK, hD⟩, hS.F ht⟩) hS.2.2 dX3_valueBehindTurn_68
          exact ⟨by { skip; unfold vbehind; first | (rw [if_pos b18, if_pos b25]; done) | (rw [if_pos b18, if_neg b25]; done) | (rw [if_neg b18, if_pos b25]; done) | (rw [if_neg b18, if_neg b25]; done) }, hT⟩
      · exact absurd c34 (by decide)
    · refine lv_istore (lv' := [(12, .int 0), (11, .int 1), (9, .long (cturned b tn)), (7, .long (cturned a tn)), (0, .ref h0), (1, .long a), (3, .long b), (5, .int (nI tn)), (6, .int 3)]) hx hb dX3_valueBehindTurn_28 hl (by decide) rfl (fun ls hl => ?_)
      refine lv_iload hx hb dX3_valueBehindTurn_30 (lv_at hl 1 rfl) ?_
      refine lv_iload hx hb dX3_valueBehindTurn_32 (lv_at hl 0 rfl) ?_
      refine lv_icmp_eq (tgt := 48) hx hb dX3_valueBehindTurn_34 (by decide) (fun c34 => ?_) (fun c34 => ?_)
      · exact absurd c34 (by decide)
      · refine lv_iload hx hb dX3_valueBehindTurn_37 (lv_at hl 1 rfl) ?_
        refine lv_if_eq (tgt := 46) hx hb dX3_valueBehindTurn_39 (by decide) (fun c39 => ?_) (fun c39 => ?_)
        · exact absurd c39 (by decide)
        · refine lv_iconst (v := 1) hx hb dX3_valueBehindTurn_42 (by decide) ?_
          refine lv_goto (tgt := 47) hx hb dX3_valueBehindTurn_43 (by decide) ?_
          refine W.iret (v := 1) hx hb hr (fun tt ht hW => ⟨⟨1, (fm, vl), rfl, ?_, by rw [ht]; exact hP, va_K.moved hW.alike hK, hD⟩, hS.F ht⟩) hS.2.2 dX3_valueBehindTurn_47
          exact ⟨by { skip; unfold vbehind; first | (rw [if_pos b18, if_pos b25]; done) | (rw [if_pos b18, if_neg b25]; done) | (rw [if_neg b18, if_pos b25]; done) | (rw [if_neg b18, if_neg b25]; done) }, hT⟩
  · refine lv_istore (lv' := [(11, .int 0), (9, .long (cturned b tn)), (7, .long (cturned a tn)), (0, .ref h0), (1, .long a), (3, .long b), (5, .int (nI tn)), (6, .int 3)]) hx hb dX3_valueBehindTurn_21 hl (by decide) rfl (fun ls hl => ?_)
    refine lv_lload hx hb dX3_valueBehindTurn_23 (lv_at hl 1 rfl) ?_
    refine vp_callSi (W.runS (As := [.long (cturned b tn)]) (rest := []) ⟨hx, hb, hml, hown, hts⟩ (c_X1_hasLine l (cturned b tn)) (va_cwS 1 hts gX3_valueBehindTurn_X1_hasLine rfl rfl rfl (by decide +kernel) ⟨Nat.le_of_ble_eq_true rfl, Nat.le_of_ble_eq_true rfl⟩) ⟨px_blind0, fun U hU hW => ⟨rfl, trivial⟩⟩ rfl rfl hl.1 rfl (lv_room (Nat.le_of_ble_eq_true rfl)) dX3_valueBehindTurn_25 ⟨(Nat.le_of_ble_eq_true rfl), (Nat.le_of_ble_eq_true rfl)⟩) (fun r25 er25 => ?_)
    obtain rfl := er25.symm
    refine pk_b (P := cline (cturned b tn) = true) (fun b25 => ?_) (fun b25 => ?_)
    · refine lv_istore (lv' := [(12, .int 1), (11, .int 0), (9, .long (cturned b tn)), (7, .long (cturned a tn)), (0, .ref h0), (1, .long a), (3, .long b), (5, .int (nI tn)), (6, .int 3)]) hx hb dX3_valueBehindTurn_28 hl (by decide) rfl (fun ls hl => ?_)
      refine lv_iload hx hb dX3_valueBehindTurn_30 (lv_at hl 1 rfl) ?_
      refine lv_iload hx hb dX3_valueBehindTurn_32 (lv_at hl 0 rfl) ?_
      refine lv_icmp_eq (tgt := 48) hx hb dX3_valueBehindTurn_34 (by decide) (fun c34 => ?_) (fun c34 => ?_)
      · exact absurd c34 (by decide)
      · refine lv_iload hx hb dX3_valueBehindTurn_37 (lv_at hl 1 rfl) ?_
        refine lv_if_eq (tgt := 46) hx hb dX3_valueBehindTurn_39 (by decide) (fun c39 => ?_) (fun c39 => ?_)
        · refine lv_iconst (v := (-1)) hx hb dX3_valueBehindTurn_46 (by decide) ?_
          refine W.iret (v := (-1)) hx hb hr (fun tt ht hW => ⟨⟨(-1), (fm, vl), rfl, ?_, by rw [ht]; exact hP, va_K.moved hW.alike hK, hD⟩, hS.F ht⟩) hS.2.2 dX3_valueBehindTurn_47
          exact ⟨by { skip; unfold vbehind; first | (rw [if_pos b18, if_pos b25]; done) | (rw [if_pos b18, if_neg b25]; done) | (rw [if_neg b18, if_pos b25]; done) | (rw [if_neg b18, if_neg b25]; done) }, hT⟩
        · exact absurd c39 (by decide)
    · refine lv_istore (lv' := [(12, .int 0), (11, .int 0), (9, .long (cturned b tn)), (7, .long (cturned a tn)), (0, .ref h0), (1, .long a), (3, .long b), (5, .int (nI tn)), (6, .int 3)]) hx hb dX3_valueBehindTurn_28 hl (by decide) rfl (fun ls hl => ?_)
      refine lv_iload hx hb dX3_valueBehindTurn_30 (lv_at hl 1 rfl) ?_
      refine lv_iload hx hb dX3_valueBehindTurn_32 (lv_at hl 0 rfl) ?_
      refine lv_icmp_eq (tgt := 48) hx hb dX3_valueBehindTurn_34 (by decide) (fun c34 => ?_) (fun c34 => ?_)
      · refine lv_iload hx hb dX3_valueBehindTurn_48 (lv_at hl 1 rfl) ?_
        refine lv_if_eq (tgt := 57) hx hb dX3_valueBehindTurn_50 (by decide) (fun c50 => ?_) (fun c50 => ?_)
        · refine lv_aload_n hx hb dX3_valueBehindTurn_57 rfl (lv_at hl 4 rfl) ?_
          refine lv_lload hx hb dX3_valueBehindTurn_58 (lv_at hl 2 rfl) ?_
          refine lv_lload hx hb dX3_valueBehindTurn_60 (lv_at hl 3 rfl) ?_
          refine lv_iload hx hb dX3_valueBehindTurn_62 (lv_at hl 8 rfl) ?_
          have hPc := hP.sub (ws' := [(h0, .inr (1, [.ref vt])), (vt, .inr (2, [.ref vf, .ref vv])), (vf, .inl (cJ, 1024, .inr (.inl fm))), (vv, .inl (cI, 1024, .inl vl))]) [0, 1, 2, 3] rfl
          have hDc := hD.sub (ws' := [(h0, .inr (1, [.ref vt])), (vt, .inr (2, [.ref vf, .ref vv])), (vf, .inl (cJ, 1024, .inr (.inl fm))), (vv, .inl (cI, 1024, .inl vl))]) [0, 1, 2, 3] (by decide) rfl
          have hFc := va_free (wc := [(h0, .inr (1, [.ref vt])), (vt, .inr (2, [.ref vf, .ref vv])), (vf, .inl (cJ, 1024, .inr (.inl fm))), (vv, .inl (cI, 1024, .inl vl))]) hD hS hA [0, 1, 2, 3] rfl
          refine va_calli (va_runV (As := [.long (cturned b tn), .long (cturned a tn), .int 3]) (rest := []) ⟨hx, hb, hml, hown, hts⟩ (c_X3_valueToPut_f3 l D cI cJ s.heap.size  h0 vt vf vv fm vl hT (cturned b tn) (cturned a tn) (bh_turn hB htn)) (cwV 3 hts gX3_valueBehindTurn_X3_valueToPut rfl rfl rfl (by decide +kernel) ⟨Nat.le_of_ble_eq_true rfl, Nat.le_of_ble_eq_true rfl⟩) ⟨(px_blindE pv_blind), va_recv hK hPc (ci := 1) (q0 := 0) rfl rfl, fun U hU hW => ⟨rfl, hEN.warm hW, by rw [hU], by rw [hU]; exact hPc, va_K.moved hW.alike hK, hDc.weaken (fun _ _ _ _ => trivial)⟩⟩ rfl rfl hl.1 rfl (lv_room (Nat.le_of_ble_eq_true rfl)) dX3_valueBehindTurn_64 ⟨(Nat.le_of_ble_eq_true rfl), (Nat.le_of_ble_eq_true rfl)⟩) hS (fun q _ h => hFc q h) hFc (fun r64 u t9 H1 locs hth hvm hw64 hB hz1 hk1 hS => ?_)
          obtain ⟨fm64, vl64⟩ := u
          try dsimp only at hw64
          obtain ⟨hP1, hK1, hD1⟩ := hB
          rw [hth] at hP1
          obtain ⟨hP, hD⟩ := va_join (wr := []) (w1 := [(h0, .inr (1, [.ref vt])), (vt, .inr (2, [.ref vf, .ref vv])), (vf, .inl (cJ, 1024, .inr (.inl fm64))), (vv, .inl (cI, 1024, .inl vl64))]) hP hD [0, 1, 2, 3] [] rfl rfl (by decide) (by decide) hk1 hFc hP1 hD1
          generalize H1 = H at hP hS ⊢
          have hP : va_P D vwCl [(h0, .inr (1, [.ref vt])), (vt, .inr (2, [.ref vf, .ref vv])), (vf, .inl (cJ, 1024, .inr (.inl fm64))), (vv, .inl (cI, 1024, .inl vl64))] H := hP.sub (ws' := [(h0, .inr (1, [.ref vt])), (vt, .inr (2, [.ref vf, .ref vv])), (vf, .inl (cJ, 1024, .inr (.inl fm64))), (vv, .inl (cI, 1024, .inl vl64))]) [0, 1, 2, 3] rfl
          have hD : va_D A [(h0, .inr (1, [.ref vt])), (vt, .inr (2, [.ref vf, .ref vv])), (vf, .inl (cJ, 1024, .inr (.inl fm64))), (vv, .inl (cI, 1024, .inl vl64))] := hD.sub (ws' := [(h0, .inr (1, [.ref vt])), (vt, .inr (2, [.ref vf, .ref vv])), (vf, .inl (cJ, 1024, .inr (.inl fm64))), (vv, .inl (cI, 1024, .inl vl64))]) [0, 1, 2, 3] (by decide) rfl
          obtain ⟨hv9, hT64⟩ := hw64
          obtain rfl := hv9.symm
          refine lv_ineg hx hb dX3_valueBehindTurn_67 ?_
          refine lv_topi (fun x67 ex67 => ?_)
          refine W.iret (v := x67) hx hb hr (fun tt ht hW => ⟨⟨x67, (fm64, vl64), rfl, ?_, by rw [ht]; exact hP, va_K.moved hW.alike hK, hD⟩, hS.F ht⟩) hS.2.2 dX3_valueBehindTurn_68
          exact ⟨by { obtain rfl := ex67.symm; unfold vbehind; first | (rw [if_pos b18, if_pos b25]; done) | (rw [if_pos b18, if_neg b25]; done) | (rw [if_neg b18, if_pos b25]; done) | (rw [if_neg b18, if_neg b25]; done) }, hT64⟩
        · exact absurd c50 (by decide)
      · exact absurd c34 (by decide)

set_option maxHeartbeats 400000 in
set_option maxRecDepth 100000 in
theorem c_X3_valueToTurn_f3 (l : Launch) (D : va_G) (cI cJ : ClassId) (sz : Nat) (h0 vt vf vv : Nat) (fm : Nat → Int64) (vl : Nat → Int32) (hT : TI fm vl) (a b : Int64)  (hB : BH 3 a b) : Met l yX3_valueToTurn wsX3_valueToTurn ({ frames := 15, cells := 0, slots := 0, locals := 436 } : Room) (va_Pc [.ref h0, .long a, .long b, .int 3] (px_E (pv_C D cI cJ [(h0, .inr (1, [.ref vt])), (vt, .inr (2, [.ref vf, .ref vv])), (vf, .inl (cJ, 1024, .inr (.inl fm))), (vv, .inl (cI, 1024, .inl vl))] sz))) (va_Qi (fun (r : Int32) (u : (Nat → Int64) × (Nat → Int32)) => r = vturn (vput 3) a b 8 ∧ TI u.1 u.2) (fun (u : (Nat → Int64) × (Nat → Int32)) => pv_B D cI cJ (va_A [(h0, .inr (1, [.ref vt])), (vt, .inr (2, [.ref vf, .ref vv])), (vf, .inl (cJ, 1024, .inr (.inl fm))), (vv, .inl (cI, 1024, .inl vl))] sz) [(h0, .inr (1, [.ref vt])), (vt, .inr (2, [.ref vf, .ref vv])), (vf, .inl (cJ, 1024, .inr (.inl u.1))), (vv, .inl (cI, 1024, .inl u.2))]) (va_A [(h0, .inr (1, [.ref vt])), (vt, .inr (2, [.ref vf, .ref vv])), (vf, .inl (cJ, 1024, .inr (.inl fm))), (vv, .inl (cI, 1024, .inl vl))] sz)) 0 0 (va_A [(h0, .inr (1, [.ref vt])), (vt, .inr (2, [.ref vf, .ref vv])), (vf, .inl (cJ, 1024, .inr (.inl fm))), (vv, .inl (cI, 1024, .inl vl))] sz) := by
  refine Met.ofW (cc := cX3_valueToTurn) (maxL := 8) (ret := (some .int)) (by decide) rfl ?_
  intro p e s m args below meth c s₁ B hml hv
  obtain ⟨rfl, hEN, rfl, hP, hK, hD0⟩ := hv
  have hx := B.exec
  have hb := B.bytes
  have hr := B.returns
  have hts := atoms_spec (ws := wsX3_valueToTurn) B.pre
  have hown : s.vm.findClass RX3 = some m.cls := findClass_of_methodNamed B.named
  have hlocks := B.notSynchronized
  have hD := hD0.self (sz := s.heap.size)
  generalize hAe : va_A [(h0, .inr (1, [.ref vt])), (vt, .inr (2, [.ref vf, .ref vv])), (vf, .inl (cJ, 1024, .inr (.inl fm))), (vv, .inl (cI, 1024, .inl vl))] s.heap.size = A at hD ⊢
  have hA : ∀ q : Nat, s.heap.size ≤ q → A q := fun q h => by rw [← hAe]; exact Or.inr h
  have hS : va_S A s.heap s.heap [] := va_S.rf
  have hmx0 : (Cond.methodLink RX3 48 Lib.Math.max.name).before ([.ref h0, .long a, .long b, .int 3] : List Value).toArray s = true := hts _ (by decide +kernel)
  have hmx1 : (Cond.static Lib.Math.max.name).before ([.ref h0, .long a, .long b, .int 3] : List Value).toArray s = true := hts _ (by decide +kernel)
  have hmx2 : (Cond.initialized "java/lang/Math").before ([.ref h0, .long a, .long b, .int 3] : List Value).toArray s = true := hts _ (by decide +kernel)
  have hmx3 : (Cond.code Lib.Math.max.name Lib.Math.max.code 2 (some .int)).before ([.ref h0, .long a, .long b, .int 3] : List Value).toArray s = true := hts _ (by decide +kernel)
  have hl := lv_entry ([.ref h0, .long a, .long b, .int 3]) (n := 8) (Nat.le_of_ble_eq_true rfl)
  rw [lg_entry_eq]
  generalize (lg_sl ([.ref h0, .long a, .long b, .int 3]) ++ List.replicate (8 - (lg_sl ([.ref h0, .long a, .long b, .int 3])).length) Slot.unset).toArray = ls at hl ⊢
  have hl : lv_has ls 8 [(0, .ref h0), (1, .long a), (3, .long b), (5, .int 3)] := hl
  refine lv_iconst (v := (-1)) hx hb dX3_valueToTurn_0 (by decide) ?_
  refine lv_istore (lv' := [(6, .int (-1)), (0, .ref h0), (1, .long a), (3, .long b), (5, .int 3)]) hx hb dX3_valueToTurn_1 hl (by decide) rfl (fun ls hl => ?_)
  refine lv_iconst (v := 0) hx hb dX3_valueToTurn_3 (by decide) ?_
  refine lv_istore (lv' := [(7, .int 0), (6, .int (-1)), (0, .ref h0), (1, .long a), (3, .long b), (5, .int 3)]) hx hb dX3_valueToTurn_4 hl (by decide) rfl (fun ls hl => ?_)
  have loop6 : ∀ (nn i6 : Nat), i6 + nn = 8 → ∀ (fm6 : Nat → Int64) (vl6 : Nat → Int32) (hT6 : TI fm6 vl6) (H : Heap) (locs : List Loc), va_P D vwCl [(h0, .inr (1, [.ref vt])), (vt, .inr (2, [.ref vf, .ref vv])), (vf, .inl (cJ, 1024, .inr (.inl fm6))), (vv, .inl (cI, 1024, .inl vl6))] H → va_D A [(h0, .inr (1, [.ref vt])), (vt, .inr (2, [.ref vf, .ref vv])), (vf, .inl (cJ, 1024, .inr (.inl fm6))), (vv, .inl (cI, 1024, .inl vl6))] → va_S A s.heap H locs → ∀ ls, lv_has ls 8 [(7, .int (nI i6)), (6, .int (vturn (vput 3) a b i6)), (0, .ref h0), (1, .long a), (3, .long b), (5, .int 3)] → W p l e (headSpec wsX3_valueToTurn ({ frames := 15, cells := 0, slots := 0, locals := 436 } : Room)).room s m ([.ref h0, .long a, .long b, .int 3] : List Value).toArray below meth c H locs 0 0 (MQ below (va_Qi (fun (r : Int32) (u : (Nat → Int64) × (Nat → Int32)) => r = vturn (vput 3) a b 8 ∧ TI u.1 u.2) (fun (u : (Nat → Int64) × (Nat → Int32)) => pv_B D cI cJ (A) [(h0, .inr (1, [.ref vt])), (vt, .inr (2, [.ref vf, .ref vv])), (vf, .inl (cJ, 1024, .inr (.inl u.1))), (vv, .inl (cI, 1024, .inl u.2))]) (A)) ([.ref h0, .long a, .long b, .int 3] : List Value).toArray s 0 0 A) (F0 m 6 ls []) := by
    intro nn
    induction nn with
    | zero =>
      intro i6 hi6 fm6 vl6 hT6 H locs hP hD hS ls hl
      obtain rfl : i6 = 8 := by omega
      refine lv_iload hx hb dX3_valueToTurn_6 (lv_at hl 0 rfl) ?_
      refine lv_bipush (v := 8) hx hb dX3_valueToTurn_8 (by decide) ?_
      refine lv_icmp_ge (tgt := 42) hx hb dX3_valueToTurn_10 (by decide) (fun c10 => ?_) (fun c10 => ?_)
      · have c10 : 8 ≤ 8 := (nq_le (a := 8) (b := 8) (by omega) (by omega)).mp c10
        refine lv_iload hx hb dX3_valueToTurn_42 (lv_at hl 1 rfl) ?_
        refine W.iret (v := (vturn (vput 3) a b 8)) hx hb hr (fun tt ht hW => ⟨⟨(vturn (vput 3) a b 8), (fm6, vl6), rfl, ?_, by rw [ht]; exact hP, va_K.moved hW.alike hK, hD⟩, hS.F ht⟩) hS.2.2 dX3_valueToTurn_44
        exact ⟨by { exact rfl }, hT6⟩
      · have c10 : ¬ 8 ≤ 8 := _root_.mt (nq_le (a := 8) (b := 8) (by omega) (by omega)).mpr c10
        omega
    | succ nn ih6 =>
      intro i6 hi6 fm6 vl6 hT6 H locs hP hD hS ls hl
      refine lv_iload hx hb dX3_valueToTurn_6 (lv_at hl 0 rfl) ?_
      refine lv_bipush (v := 8) hx hb dX3_valueToTurn_8 (by decide) ?_
      refine lv_icmp_ge (tgt := 42) hx hb dX3_valueToTurn_10 (by decide) (fun c10 => ?_) (fun c10 => ?_)
      · have c10 : 8 ≤ i6 := (nq_le (a := 8) (b := i6) (by omega) (by omega)).mp c10
        omega
      · have c10 : ¬ 8 ≤ i6 := _root_.mt (nq_le (a := 8) (b := i6) (by omega) (by omega)).mpr c10
        refine lv_iload hx hb dX3_valueToTurn_13 (lv_at hl 1 rfl) ?_
        refine lv_iconst (v := 1) hx hb dX3_valueToTurn_15 (by decide) ?_
        refine lv_icmp_ge (tgt := 42) hx hb dX3_valueToTurn_16 (by decide) (fun c16 => ?_) (fun c16 => ?_)
        · refine lv_iload hx hb dX3_valueToTurn_42 (lv_at hl 1 rfl) ?_
          refine W.iret (v := (vturn (vput 3) a b i6)) hx hb hr (fun tt ht hW => ⟨⟨(vturn (vput 3) a b i6), (fm6, vl6), rfl, ?_, by rw [ht]; exact hP, va_K.moved hW.alike hK, hD⟩, hS.F ht⟩) hS.2.2 dX3_valueToTurn_44
          exact ⟨by { exact stop8 c16 (by omega) }, hT6⟩
        · refine lv_iload hx hb dX3_valueToTurn_19 (lv_at hl 1 rfl) ?_
          refine lv_aload_n hx hb dX3_valueToTurn_21 rfl (lv_at hl 2 rfl) ?_
          refine lv_lload_n hx hb dX3_valueToTurn_22 rfl (lv_at hl 3 rfl) ?_
          refine lv_lload_n hx hb dX3_valueToTurn_23 rfl (lv_at hl 4 rfl) ?_
          refine lv_iload hx hb dX3_valueToTurn_24 (lv_at hl 0 rfl) ?_
          refine lv_iload hx hb dX3_valueToTurn_26 (lv_at hl 5 rfl) ?_
          have hPc := hP.sub (ws' := [(h0, .inr (1, [.ref vt])), (vt, .inr (2, [.ref vf, .ref vv])), (vf, .inl (cJ, 1024, .inr (.inl fm6))), (vv, .inl (cI, 1024, .inl vl6))]) [0, 1, 2, 3] rfl
          have hDc := hD.sub (ws' := [(h0, .inr (1, [.ref vt])), (vt, .inr (2, [.ref vf, .ref vv])), (vf, .inl (cJ, 1024, .inr (.inl fm6))), (vv, .inl (cI, 1024, .inl vl6))]) [0, 1, 2, 3] (by decide) rfl
          have hFc := va_free (wc := [(h0, .inr (1, [.ref vt])), (vt, .inr (2, [.ref vf, .ref vv])), (vf, .inl (cJ, 1024, .inr (.inl fm6))), (vv, .inl (cI, 1024, .inl vl6))]) hD hS hA [0, 1, 2, 3] rfl
          refine va_calli (va_runV (As := [.long a, .long b, .int (nI i6), .int 3]) (rest := [.int (vturn (vput 3) a b i6)]) ⟨hx, hb, hml, hown, hts⟩ (c_X3_valueBehindTurn_f3 l D cI cJ H.size  h0 vt vf vv fm6 vl6 hT6 a b i6 (by omega) hB) (cwV 4 hts gX3_valueToTurn_X3_valueBehindTurn rfl rfl rfl (by decide +kernel) ⟨Nat.le_of_ble_eq_true rfl, Nat.le_of_ble_eq_true rfl⟩) ⟨(px_blindE pv_blind), va_recv hK hPc (ci := 1) (q0 := 0) rfl rfl, fun U hU hW => ⟨rfl, hEN.warm hW, by rw [hU], by rw [hU]; exact hPc, va_K.moved hW.alike hK, hDc.weaken (fun _ _ _ _ => trivial)⟩⟩ rfl rfl hl.1 rfl (lv_room (Nat.le_of_ble_eq_true rfl)) dX3_valueToTurn_28 ⟨(Nat.le_of_ble_eq_true rfl), (Nat.le_of_ble_eq_true rfl)⟩) hS (fun q _ h => hFc q h) hFc (fun r28 u t9 H1 locs hth hvm hw28 hB hz1 hk1 hS => ?_)
          obtain ⟨fm28, vl28⟩ := u
          try dsimp only at hw28
          obtain ⟨hP1, hK1, hD1⟩ := hB
          rw [hth] at hP1
          obtain ⟨hP, hD⟩ := va_join (wr := []) (w1 := [(h0, .inr (1, [.ref vt])), (vt, .inr (2, [.ref vf, .ref vv])), (vf, .inl (cJ, 1024, .inr (.inl fm28))), (vv, .inl (cI, 1024, .inl vl28))]) hP hD [0, 1, 2, 3] [] rfl rfl (by decide) (by decide) hk1 hFc hP1 hD1
          generalize H1 = H at hP hS ⊢
          have hP : va_P D vwCl [(h0, .inr (1, [.ref vt])), (vt, .inr (2, [.ref vf, .ref vv])), (vf, .inl (cJ, 1024, .inr (.inl fm28))), (vv, .inl (cI, 1024, .inl vl28))] H := hP.sub (ws' := [(h0, .inr (1, [.ref vt])), (vt, .inr (2, [.ref vf, .ref vv])), (vf, .inl (cJ, 1024, .inr (.inl fm28))), (vv, .inl (cI, 1024, .inl vl28))]) [0, 1, 2, 3] rfl
          have hD : va_D A [(h0, .inr (1, [.ref vt])), (vt, .inr (2, [.ref vf, .ref vv])), (vf, .inl (cJ, 1024, .inr (.inl fm28))), (vv, .inl (cI, 1024, .inl vl28))] := hD.sub (ws' := [(h0, .inr (1, [.ref vt])), (vt, .inr (2, [.ref vf, .ref vv])), (vf, .inl (cJ, 1024, .inr (.inl fm28))), (vv, .inl (cI, 1024, .inl vl28))]) [0, 1, 2, 3] (by decide) rfl
          obtain ⟨hv9, hT28⟩ := hw28
          obtain rfl := hv9.symm
          refine va_mmax hx hb (by rw [hml]; exact hl.1.symm) hown hmx0 hmx1 hmx2 hmx3 (by decide) (Nat.le_of_ble_eq_true rfl) (Nat.le_of_ble_eq_true rfl) (Nat.le_of_ble_eq_true rfl) dX3_valueToTurn_31 ?_
          refine lv_topi (fun x31 ex31 => ?_)
          refine lv_istore (lv' := [(6, .int x31), (7, .int (nI i6)), (0, .ref h0), (1, .long a), (3, .long b), (5, .int 3)]) hx hb dX3_valueToTurn_34 hl (by decide) rfl (fun ls hl => ?_)
          refine lv_iinc (v := nI (i6 + 1)) (lv' := [(7, .int (nI (i6 + 1))), (6, .int x31), (0, .ref h0), (1, .long a), (3, .long b), (5, .int 3)]) hx hb dX3_valueToTurn_36 hl (k := 1) rfl (nI_add i6 1) (by decide) rfl (fun ls hl => ?_)
          refine lv_goto (tgt := 6) hx hb dX3_valueToTurn_39 (by decide) ?_
          exact ih6 (i6 + 1) (by omega) _ _ hT28 _ _ hP hD hS ls (by { have e9 : (x31 : Int32) = (vturn (vput 3) a b (i6 + 1)) := by { obtain rfl := ex31.symm; exact vturn_s c16 }; rw [← e9]; exact lv_sub hl [0, 1, 2, 3, 4, 5] rfl })
  exact loop6 8 0 (by omega) _ _ hT _ _ hP hD hS ls (lv_sub hl [0, 1, 2, 3, 4, 5] rfl)

set_option maxHeartbeats 400000 in
set_option maxRecDepth 100000 in
theorem c_X3_lowestBestTurn_f3 (l : Launch) (D : va_G) (cI cJ : ClassId) (sz : Nat) (h0 vt vf vv : Nat) (fm : Nat → Int64) (vl : Nat → Int32) (hT : TI fm vl) (a b : Int64)  (hB : BH 3 a b) : Met l yX3_lowestBestTurn wsX3_lowestBestTurn ({ frames := 15, cells := 0, slots := 0, locals := 436 } : Room) (va_Pc [.ref h0, .long a, .long b, .int 3] (px_E (pv_C D cI cJ [(h0, .inr (1, [.ref vt])), (vt, .inr (2, [.ref vf, .ref vv])), (vf, .inl (cJ, 1024, .inr (.inl fm))), (vv, .inl (cI, 1024, .inl vl))] sz))) (va_Qi (fun (r : Int32) (u : (Nat → Int64) × (Nat → Int32)) => r = nI (tlow (vput 3) a b 8).2 ∧ TI u.1 u.2) (fun (u : (Nat → Int64) × (Nat → Int32)) => pv_B D cI cJ (va_A [(h0, .inr (1, [.ref vt])), (vt, .inr (2, [.ref vf, .ref vv])), (vf, .inl (cJ, 1024, .inr (.inl fm))), (vv, .inl (cI, 1024, .inl vl))] sz) [(h0, .inr (1, [.ref vt])), (vt, .inr (2, [.ref vf, .ref vv])), (vf, .inl (cJ, 1024, .inr (.inl u.1))), (vv, .inl (cI, 1024, .inl u.2))]) (va_A [(h0, .inr (1, [.ref vt])), (vt, .inr (2, [.ref vf, .ref vv])), (vf, .inl (cJ, 1024, .inr (.inl fm))), (vv, .inl (cI, 1024, .inl vl))] sz)) 0 0 (va_A [(h0, .inr (1, [.ref vt])), (vt, .inr (2, [.ref vf, .ref vv])), (vf, .inl (cJ, 1024, .inr (.inl fm))), (vv, .inl (cI, 1024, .inl vl))] sz) := by
  refine Met.ofW (cc := cX3_lowestBestTurn) (maxL := 10) (ret := (some .int)) (by decide) rfl ?_
  intro p e s m args below meth c s₁ B hml hv
  obtain ⟨rfl, hEN, rfl, hP, hK, hD0⟩ := hv
  have hx := B.exec
  have hb := B.bytes
  have hr := B.returns
  have hts := atoms_spec (ws := wsX3_lowestBestTurn) B.pre
  have hown : s.vm.findClass RX3 = some m.cls := findClass_of_methodNamed B.named
  have hlocks := B.notSynchronized
  have hD := hD0.self (sz := s.heap.size)
  generalize hAe : va_A [(h0, .inr (1, [.ref vt])), (vt, .inr (2, [.ref vf, .ref vv])), (vf, .inl (cJ, 1024, .inr (.inl fm))), (vv, .inl (cI, 1024, .inl vl))] s.heap.size = A at hD ⊢
  have hA : ∀ q : Nat, s.heap.size ≤ q → A q := fun q h => by rw [← hAe]; exact Or.inr h
  have hS : va_S A s.heap s.heap [] := va_S.rf
  have hl := lv_entry ([.ref h0, .long a, .long b, .int 3]) (n := 10) (Nat.le_of_ble_eq_true rfl)
  rw [lg_entry_eq]
  generalize (lg_sl ([.ref h0, .long a, .long b, .int 3]) ++ List.replicate (10 - (lg_sl ([.ref h0, .long a, .long b, .int 3])).length) Slot.unset).toArray = ls at hl ⊢
  have hl : lv_has ls 10 [(0, .ref h0), (1, .long a), (3, .long b), (5, .int 3)] := hl
  refine lv_bipush (v := (-2)) hx hb dX3_lowestBestTurn_0 (by decide) ?_
  refine lv_istore (lv' := [(6, .int (-2)), (0, .ref h0), (1, .long a), (3, .long b), (5, .int 3)]) hx hb dX3_lowestBestTurn_2 hl (by decide) rfl (fun ls hl => ?_)
  refine lv_iconst (v := 0) hx hb dX3_lowestBestTurn_4 (by decide) ?_
  refine lv_istore (lv' := [(7, .int 0), (6, .int (-2)), (0, .ref h0), (1, .long a), (3, .long b), (5, .int 3)]) hx hb dX3_lowestBestTurn_5 hl (by decide) rfl (fun ls hl => ?_)
  refine lv_iconst (v := 0) hx hb dX3_lowestBestTurn_7 (by decide) ?_
  refine lv_istore (lv' := [(8, .int 0), (7, .int 0), (6, .int (-2)), (0, .ref h0), (1, .long a), (3, .long b), (5, .int 3)]) hx hb dX3_lowestBestTurn_8 hl (by decide) rfl (fun ls hl => ?_)
  have loop10 : ∀ (nn i10 : Nat), i10 + nn = 8 → ∀ (fm10 : Nat → Int64) (vl10 : Nat → Int32) (hT10 : TI fm10 vl10) (H : Heap) (locs : List Loc), va_P D vwCl [(h0, .inr (1, [.ref vt])), (vt, .inr (2, [.ref vf, .ref vv])), (vf, .inl (cJ, 1024, .inr (.inl fm10))), (vv, .inl (cI, 1024, .inl vl10))] H → va_D A [(h0, .inr (1, [.ref vt])), (vt, .inr (2, [.ref vf, .ref vv])), (vf, .inl (cJ, 1024, .inr (.inl fm10))), (vv, .inl (cI, 1024, .inl vl10))] → va_S A s.heap H locs → ∀ ls, lv_has ls 10 [(8, .int (nI i10)), (6, .int (tlow (vput 3) a b i10).1), (7, .int (nI (tlow (vput 3) a b i10).2)), (0, .ref h0), (1, .long a), (3, .long b), (5, .int 3)] → W p l e (headSpec wsX3_lowestBestTurn ({ frames := 15, cells := 0, slots := 0, locals := 436 } : Room)).room s m ([.ref h0, .long a, .long b, .int 3] : List Value).toArray below meth c H locs 0 0 (MQ below (va_Qi (fun (r : Int32) (u : (Nat → Int64) × (Nat → Int32)) => r = nI (tlow (vput 3) a b 8).2 ∧ TI u.1 u.2) (fun (u : (Nat → Int64) × (Nat → Int32)) => pv_B D cI cJ (A) [(h0, .inr (1, [.ref vt])), (vt, .inr (2, [.ref vf, .ref vv])), (vf, .inl (cJ, 1024, .inr (.inl u.1))), (vv, .inl (cI, 1024, .inl u.2))]) (A)) ([.ref h0, .long a, .long b, .int 3] : List Value).toArray s 0 0 A) (F0 m 10 ls []) := by
    intro nn
    induction nn with
    | zero =>
      intro i10 hi10 fm10 vl10 hT10 H locs hP hD hS ls hl
      obtain rfl : i10 = 8 := by omega
      refine lv_iload hx hb dX3_lowestBestTurn_10 (lv_at hl 0 rfl) ?_
      refine lv_bipush (v := 8) hx hb dX3_lowestBestTurn_12 (by decide) ?_
      refine lv_icmp_ge (tgt := 56) hx hb dX3_lowestBestTurn_14 (by decide) (fun c14 => ?_) (fun c14 => ?_)
      · have c14 : 8 ≤ 8 := (nq_le (a := 8) (b := 8) (by omega) (by omega)).mp c14
        refine lv_iload hx hb dX3_lowestBestTurn_56 (lv_at hl 2 rfl) ?_
        refine W.iret (v := (nI (tlow (vput 3) a b 8).2)) hx hb hr (fun tt ht hW => ⟨⟨(nI (tlow (vput 3) a b 8).2), (fm10, vl10), rfl, ?_, by rw [ht]; exact hP, va_K.moved hW.alike hK, hD⟩, hS.F ht⟩) hS.2.2 dX3_lowestBestTurn_58
        exact ⟨by { exact rfl }, hT10⟩
      · have c14 : ¬ 8 ≤ 8 := _root_.mt (nq_le (a := 8) (b := 8) (by omega) (by omega)).mpr c14
        omega
    | succ nn ih10 =>
      intro i10 hi10 fm10 vl10 hT10 H locs hP hD hS ls hl
      refine lv_iload hx hb dX3_lowestBestTurn_10 (lv_at hl 0 rfl) ?_
      refine lv_bipush (v := 8) hx hb dX3_lowestBestTurn_12 (by decide) ?_
      refine lv_icmp_ge (tgt := 56) hx hb dX3_lowestBestTurn_14 (by decide) (fun c14 => ?_) (fun c14 => ?_)
      · have c14 : 8 ≤ i10 := (nq_le (a := 8) (b := i10) (by omega) (by omega)).mp c14
        omega
      · have c14 : ¬ 8 ≤ i10 := _root_.mt (nq_le (a := 8) (b := i10) (by omega) (by omega)).mpr c14
        refine lv_iload hx hb dX3_lowestBestTurn_17 (lv_at hl 1 rfl) ?_
        refine lv_iconst (v := 1) hx hb dX3_lowestBestTurn_19 (by decide) ?_
        refine lv_icmp_ge (tgt := 56) hx hb dX3_lowestBestTurn_20 (by decide) (fun c20 => ?_) (fun c20 => ?_)
        · refine lv_iload hx hb dX3_lowestBestTurn_56 (lv_at hl 2 rfl) ?_
          refine W.iret (v := (nI (tlow (vput 3) a b i10).2)) hx hb hr (fun tt ht hW => ⟨⟨(nI (tlow (vput 3) a b i10).2), (fm10, vl10), rfl, ?_, by rw [ht]; exact hP, va_K.moved hW.alike hK, hD⟩, hS.F ht⟩) hS.2.2 dX3_lowestBestTurn_58
          exact ⟨by { rw [stopT c20 (by omega)] }, hT10⟩
        · refine lv_aload_n hx hb dX3_lowestBestTurn_23 rfl (lv_at hl 3 rfl) ?_
          refine lv_lload_n hx hb dX3_lowestBestTurn_24 rfl (lv_at hl 4 rfl) ?_
          refine lv_lload_n hx hb dX3_lowestBestTurn_25 rfl (lv_at hl 5 rfl) ?_
          refine lv_iload hx hb dX3_lowestBestTurn_26 (lv_at hl 0 rfl) ?_
          refine lv_iload hx hb dX3_lowestBestTurn_28 (lv_at hl 6 rfl) ?_
          have hPc := hP.sub (ws' := [(h0, .inr (1, [.ref vt])), (vt, .inr (2, [.ref vf, .ref vv])), (vf, .inl (cJ, 1024, .inr (.inl fm10))), (vv, .inl (cI, 1024, .inl vl10))]) [0, 1, 2, 3] rfl
          have hDc := hD.sub (ws' := [(h0, .inr (1, [.ref vt])), (vt, .inr (2, [.ref vf, .ref vv])), (vf, .inl (cJ, 1024, .inr (.inl fm10))), (vv, .inl (cI, 1024, .inl vl10))]) [0, 1, 2, 3] (by decide) rfl
          have hFc := va_free (wc := [(h0, .inr (1, [.ref vt])), (vt, .inr (2, [.ref vf, .ref vv])), (vf, .inl (cJ, 1024, .inr (.inl fm10))), (vv, .inl (cI, 1024, .inl vl10))]) hD hS hA [0, 1, 2, 3] rfl
          refine va_calli (va_runV (As := [.long a, .long b, .int (nI i10), .int 3]) (rest := []) ⟨hx, hb, hml, hown, hts⟩ (c_X3_valueBehindTurn_f3 l D cI cJ H.size  h0 vt vf vv fm10 vl10 hT10 a b i10 (by omega) hB) (cwV 4 hts gX3_lowestBestTurn_X3_valueBehindTurn rfl rfl rfl (by decide +kernel) ⟨Nat.le_of_ble_eq_true rfl, Nat.le_of_ble_eq_true rfl⟩) ⟨(px_blindE pv_blind), va_recv hK hPc (ci := 1) (q0 := 0) rfl rfl, fun U hU hW => ⟨rfl, hEN.warm hW, by rw [hU], by rw [hU]; exact hPc, va_K.moved hW.alike hK, hDc.weaken (fun _ _ _ _ => trivial)⟩⟩ rfl rfl hl.1 rfl (lv_room (Nat.le_of_ble_eq_true rfl)) dX3_lowestBestTurn_30 ⟨(Nat.le_of_ble_eq_true rfl), (Nat.le_of_ble_eq_true rfl)⟩) hS (fun q _ h => hFc q h) hFc (fun r30 u t9 H1 locs hth hvm hw30 hB hz1 hk1 hS => ?_)
          obtain ⟨fm30, vl30⟩ := u
          try dsimp only at hw30
          obtain ⟨hP1, hK1, hD1⟩ := hB
          rw [hth] at hP1
          obtain ⟨hP, hD⟩ := va_join (wr := []) (w1 := [(h0, .inr (1, [.ref vt])), (vt, .inr (2, [.ref vf, .ref vv])), (vf, .inl (cJ, 1024, .inr (.inl fm30))), (vv, .inl (cI, 1024, .inl vl30))]) hP hD [0, 1, 2, 3] [] rfl rfl (by decide) (by decide) hk1 hFc hP1 hD1
          generalize H1 = H at hP hS ⊢
          have hP : va_P D vwCl [(h0, .inr (1, [.ref vt])), (vt, .inr (2, [.ref vf, .ref vv])), (vf, .inl (cJ, 1024, .inr (.inl fm30))), (vv, .inl (cI, 1024, .inl vl30))] H := hP.sub (ws' := [(h0, .inr (1, [.ref vt])), (vt, .inr (2, [.ref vf, .ref vv])), (vf, .inl (cJ, 1024, .inr (.inl fm30))), (vv, .inl (cI, 1024, .inl vl30))]) [0, 1, 2, 3] rfl
          have hD : va_D A [(h0, .inr (1, [.ref vt])), (vt, .inr (2, [.ref vf, .ref vv])), (vf, .inl (cJ, 1024, .inr (.inl fm30))), (vv, .inl (cI, 1024, .inl vl30))] := hD.sub (ws' := [(h0, .inr (1, [.ref vt])), (vt, .inr (2, [.ref vf, .ref vv])), (vf, .inl (cJ, 1024, .inr (.inl fm30))), (vv, .inl (cI, 1024, .inl vl30))]) [0, 1, 2, 3] (by decide) rfl
          obtain ⟨hv9, hT30⟩ := hw30
          obtain rfl := hv9.symm
          refine lv_istore (lv' := [(9, .int (vbehind (vput 3) a b i10)), (8, .int (nI i10)), (6, .int (tlow (vput 3) a b i10).1), (7, .int (nI (tlow (vput 3) a b i10).2)), (0, .ref h0), (1, .long a), (3, .long b), (5, .int 3)]) hx hb dX3_lowestBestTurn_33 hl (by decide) rfl (fun ls hl => ?_)
          refine lv_iload hx hb dX3_lowestBestTurn_35 (lv_at hl 0 rfl) ?_
          refine lv_iload hx hb dX3_lowestBestTurn_37 (lv_at hl 2 rfl) ?_
          refine lv_icmp_le (tgt := 50) hx hb dX3_lowestBestTurn_39 (by decide) (fun c39 => ?_) (fun c39 => ?_)
          · refine lv_iinc (v := nI (i10 + 1)) (lv' := [(8, .int (nI (i10 + 1))), (9, .int (vbehind (vput 3) a b i10)), (6, .int (tlow (vput 3) a b i10).1), (7, .int (nI (tlow (vput 3) a b i10).2)), (0, .ref h0), (1, .long a), (3, .long b), (5, .int 3)]) hx hb dX3_lowestBestTurn_50 hl (k := 1) rfl (nI_add i10 1) (by decide) rfl (fun ls hl => ?_)
            refine lv_goto (tgt := 10) hx hb dX3_lowestBestTurn_53 (by decide) ?_
            exact ih10 (i10 + 1) (by omega) _ _ hT30 _ _ hP hD hS ls (by { have e9 : ((tlow (vput 3) a b i10).1 : Int32) = (tlow (vput 3) a b (i10 + 1)).1 := by { skip; exact (congrArg Prod.fst (tlow_b c20 c39)).symm }; rw [← e9]; have e9 : ((nI (tlow (vput 3) a b i10).2) : Int32) = (nI (tlow (vput 3) a b (i10 + 1)).2) := by { skip; exact (congrArg (fun q => nI q.2) (tlow_b c20 c39)).symm }; rw [← e9]; exact lv_sub hl [0, 2, 3, 4, 5, 6, 7] rfl })
          · refine lv_iload hx hb dX3_lowestBestTurn_42 (lv_at hl 0 rfl) ?_
            refine lv_istore (lv' := [(6, .int (vbehind (vput 3) a b i10)), (9, .int (vbehind (vput 3) a b i10)), (8, .int (nI i10)), (7, .int (nI (tlow (vput 3) a b i10).2)), (0, .ref h0), (1, .long a), (3, .long b), (5, .int 3)]) hx hb dX3_lowestBestTurn_44 hl (by decide) rfl (fun ls hl => ?_)
            refine lv_iload hx hb dX3_lowestBestTurn_46 (lv_at hl 2 rfl) ?_
            refine lv_istore (lv' := [(7, .int (nI i10)), (6, .int (vbehind (vput 3) a b i10)), (9, .int (vbehind (vput 3) a b i10)), (8, .int (nI i10)), (0, .ref h0), (1, .long a), (3, .long b), (5, .int 3)]) hx hb dX3_lowestBestTurn_48 hl (by decide) rfl (fun ls hl => ?_)
            refine lv_iinc (v := nI (i10 + 1)) (lv' := [(8, .int (nI (i10 + 1))), (7, .int (nI i10)), (6, .int (vbehind (vput 3) a b i10)), (9, .int (vbehind (vput 3) a b i10)), (0, .ref h0), (1, .long a), (3, .long b), (5, .int 3)]) hx hb dX3_lowestBestTurn_50 hl (k := 3) rfl (nI_add i10 1) (by decide) rfl (fun ls hl => ?_)
            refine lv_goto (tgt := 10) hx hb dX3_lowestBestTurn_53 (by decide) ?_
            exact ih10 (i10 + 1) (by omega) _ _ hT30 _ _ hP hD hS ls (by { have e9 : ((vbehind (vput 3) a b i10) : Int32) = (tlow (vput 3) a b (i10 + 1)).1 := by { skip; exact (congrArg Prod.fst (tlow_a c20 c39)).symm }; rw [← e9]; have e9 : ((nI i10) : Int32) = (nI (tlow (vput 3) a b (i10 + 1)).2) := by { skip; exact (congrArg (fun q => nI q.2) (tlow_a c20 c39)).symm }; rw [← e9]; exact lv_sub hl [0, 2, 1, 4, 5, 6, 7] rfl })
  exact loop10 8 0 (by omega) _ _ hT _ _ hP hD hS ls (lv_sub hl [0, 2, 1, 3, 4, 5, 6] rfl)
