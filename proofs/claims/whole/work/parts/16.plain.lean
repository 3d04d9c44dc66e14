set_option maxHeartbeats 400000 in
set_option maxRecDepth 100000 in
theorem c_X3_valueToPut_p0 (l : Launch) (D : va_G) (cI cJ : ClassId) (h0 : Nat) (a b : Int64)  : Met l yX3_valueToPut wsX3_valueToPut ({ frames := 0, cells := 0, slots := 0, locals := 0 } : Room) (va_Pc [.ref h0, .long a, .long b, .int 0] (px_E (px_W D [(h0, .inr (1, [.null]))] [(cI, .int), (cJ, .long)]))) (vp_Si (fun r => r = vput 0 a b)) 0 0 (fun _ => False) := by
  refine Met.ofW (cc := cX3_valueToPut) (maxL := 9) (ret := (some .int)) (by decide) rfl ?_
  intro p e s m args below meth c s₁ B hml hv
  obtain ⟨rfl, hEN, hP, hK⟩ := hv
  have hx := B.exec
  have hb := B.bytes
  have hr := B.returns
  have hts := atoms_spec (ws := wsX3_valueToPut) B.pre
  have hown : s.vm.findClass RX3 = some m.cls := findClass_of_methodNamed B.named
  have hlocks := B.notSynchronized
  have hl := lv_entry ([.ref h0, .long a, .long b, .int 0]) (n := 9) (Nat.le_of_ble_eq_true rfl)
  rw [lg_entry_eq]
  generalize (lg_sl ([.ref h0, .long a, .long b, .int 0]) ++ List.replicate (9 - (lg_sl ([.ref h0, .long a, .long b, .int 0])).length) Slot.unset).toArray = ls at hl ⊢
  have hl : lv_has ls 9 [(0, .ref h0), (1, .long a), (3, .long b), (5, .int 0)] := hl
  refine lv_iload hx hb dX3_valueToPut_0 (lv_at hl 3 rfl) ?_
  refine lv_if_le (tgt := 11) hx hb dX3_valueToPut_2 (by decide) (fun c2 => ?_) (fun c2 => ?_)
  · refine lv_iconst (v := 0) hx hb dX3_valueToPut_11 (by decide) ?_
    refine W.iret (v := 0) hx hb hr (fun tt ht hW => ⟨0, rfl, ?_, ht⟩) (fun _ h => nomatch h) dX3_valueToPut_12
    rfl
  · exact absurd c2 (by decide)

set_option maxHeartbeats 400000 in
set_option maxRecDepth 100000 in
theorem c_X3_valueBehindTurn_p0 (l : Launch) (D : va_G) (cI cJ : ClassId) (h0 : Nat) (a b : Int64) (tn : Nat) (htn : tn < 8) : Met l yX3_valueBehindTurn wsX3_valueBehindTurn ({ frames := 2, cells := 0, slots := 0, locals := 53 } : Room) (va_Pc [.ref h0, .long a, .long b, .int (nI tn), .int 0] (px_E (px_W D [(h0, .inr (1, [.null]))] [(cI, .int), (cJ, .long)]))) (vp_Si (fun r => r = vbehind (vput 0) a b tn)) 0 0 (fun _ => False) := by
  refine Met.ofW (cc := cX3_valueBehindTurn) (maxL := 13) (ret := (some .int)) (by decide) rfl ?_
  intro p e s m args below meth c s₁ B hml hv
  obtain ⟨rfl, hEN, hP, hK⟩ := hv
  have hx := B.exec
  have hb := B.bytes
  have hr := B.returns
  have hts := atoms_spec (ws := wsX3_valueBehindTurn) B.pre
  have hown : s.vm.findClass RX3 = some m.cls := findClass_of_methodNamed B.named
  have hlocks := B.notSynchronized
  have hl := lv_entry ([.ref h0, .long a, .long b, .int (nI tn), .int 0]) (n := 13) (Nat.le_of_ble_eq_true rfl)
  rw [lg_entry_eq]
  generalize (lg_sl ([.ref h0, .long a, .long b, .int (nI tn), .int 0]) ++ List.replicate (13 - (lg_sl ([.ref h0, .long a, .long b, .int (nI tn), .int 0])).length) Slot.unset).toArray = ls at hl ⊢
  have hl : lv_has ls 13 [(0, .ref h0), (1, .long a), (3, .long b), (5, .int (nI tn)), (6, .int 0)] := hl
  refine lv_lload_n hx hb dX3_valueBehindTurn_0 rfl (lv_at hl 1 rfl) ?_
  refine lv_iload hx hb dX3_valueBehindTurn_1 (lv_at hl 3 rfl) ?_
  refine vp_callSl (W.runS (As := [.long a, .int (nI tn)]) (rest := []) ⟨hx, hb, hml, hown, hts⟩ (c_X4_turned l a tn (by omega)) (va_cwS 2 hts gX3_valueBehindTurn_X4_turned rfl rfl rfl (by decide +kernel) ⟨Nat.le_of_ble_eq_true rfl, Nat.le_of_ble_eq_true rfl⟩) ⟨px_blind0, fun U hU hW => ⟨rfl, trivial⟩⟩ rfl rfl hl.1 rfl (lv_room (Nat.le_of_ble_eq_true rfl)) dX3_valueBehindTurn_3 ⟨(Nat.le_of_ble_eq_true rfl), (Nat.le_of_ble_eq_true rfl)⟩) (fun r3 er3 => ?_)
  obtain rfl := er3.symm
  refine lv_lstore (lv' := [(7, .long (cturned a tn)), (0, .ref h0), (1, .long a), (3, .long b), (5, .int (nI tn)), (6, .int 0)]) hx hb dX3_valueBehindTurn_6 hl (by decide) rfl (fun ls hl => ?_)
  refine lv_lload_n hx hb dX3_valueBehindTurn_8 rfl (lv_at hl 3 rfl) ?_
  refine lv_iload hx hb dX3_valueBehindTurn_9 (lv_at hl 4 rfl) ?_
  refine vp_callSl (W.runS (As := [.long b, .int (nI tn)]) (rest := []) ⟨hx, hb, hml, hown, hts⟩ (c_X4_turned l b tn (by omega)) (va_cwS 2 hts gX3_valueBehindTurn_X4_turned rfl rfl rfl (by decide +kernel) ⟨Nat.le_of_ble_eq_true rfl, Nat.le_of_ble_eq_true rfl⟩) ⟨px_blind0, fun U hU hW => ⟨rfl, trivial⟩⟩ rfl rfl hl.1 rfl (lv_room (Nat.le_of_ble_eq_true rfl)) dX3_valueBehindTurn_11 ⟨(Nat.le_of_ble_eq_true rfl), (Nat.le_of_ble_eq_true rfl)⟩) (fun r11 er11 => ?_)
  obtain rfl := er11.symm
  refine lv_lstore (lv' := [(9, .long (cturned b tn)), (7, .long (cturned a tn)), (0, .ref h0), (1, .long a), (3, .long b), (5, .int (nI tn)), (6, .int 0)]) hx hb dX3_valueBehindTurn_14 hl (by decide) rfl (fun ls hl => ?_)
  refine lv_lload hx hb dX3_valueBehindTurn_16 (lv_at hl 1 rfl) ?_
  refine vp_callSi (W.runS (As := [.long (cturned a tn)]) (rest := []) ⟨hx, hb, hml, hown, hts⟩ (c_X1_hasLine l (cturned a tn)) (va_cwS 1 hts gX3_valueBehindTurn_X1_hasLine rfl rfl rfl (by decide +kernel) ⟨Nat.le_of_ble_eq_true rfl, Nat.le_of_ble_eq_true rfl⟩) ⟨px_blind0, fun U hU hW => ⟨rfl, trivial⟩⟩ rfl rfl hl.1 rfl (lv_room (Nat.le_of_ble_eq_true rfl)) dX3_valueBehindTurn_18 ⟨(Nat.le_of_ble_eq_true rfl), (Nat.le_of_ble_eq_true rfl)⟩) (fun r18 er18 => ?_)
  obtain rfl := er18.symm
  refine pk_b (P := cline (cturned a tn) = true) (fun b18 => ?_) (fun b18 => ?_)
  · refine lv_istore (lv' := [(11, .int 1), (9, .long (cturned b tn)), (7, .long (cturned a tn)), (0, .ref h0), (1, .long a), (3, .long b), (5, .int (nI tn)), (6, .int 0)]) hx hb dX3_valueBehindTurn_21 hl (by decide) rfl (fun ls hl => ?_)
    refine lv_lload hx hb dX3_valueBehindTurn_23 (lv_at hl 1 rfl) ?_
    refine vp_callSi (W.runS (As := [.long (cturned b tn)]) (rest := []) ⟨hx, hb, hml, hown, hts⟩ (c_X1_hasLine l (cturned b tn)) (va_cwS 1 hts gX3_valueBehindTurn_X1_hasLine rfl rfl rfl (by decide +kernel) ⟨Nat.le_of_ble_eq_true rfl, Nat.le_of_ble_eq_true rfl⟩) ⟨px_blind0, fun U hU hW => ⟨rfl, trivial⟩⟩ rfl rfl hl.1 rfl (lv_room (Nat.le_of_ble_eq_true rfl)) dX3_valueBehindTurn_25 ⟨(Nat.le_of_ble_eq_true rfl), (Nat.le_of_ble_eq_true rfl)⟩) (fun r25 er25 => ?_)
    obtain rfl := er25.symm
    refine pk_b (P := cline (cturned b tn) = true) (fun b25 => ?_) (fun b25 => ?_)
    · refine lv_istore (lv' := [(12, .int 1), (11, .int 1), (9, .long (cturned b tn)), (7, .long (cturned a tn)), (0, .ref h0), (1, .long a), (3, .long b), (5, .int (nI tn)), (6, .int 0)]) hx hb dX3_valueBehindTurn_28 hl (by decide) rfl (fun ls hl => ?_)
      refine lv_iload hx hb dX3_valueBehindTurn_30 (lv_at hl 1 rfl) ?_
      refine lv_iload hx hb dX3_valueBehindTurn_32 (lv_at hl 0 rfl) ?_
      refine lv_icmp_eq (tgt := 48) hx hb dX3_valueBehindTurn_34 (by decide) (fun c34 => ?_) (fun c34 => ?_)
      · refine lv_iload hx hb dX3_valueBehindTurn_48 (lv_at hl 1 rfl) ?_
        refine lv_if_eq (tgt := 57) hx hb dX3_valueBehindTurn_50 (by decide) (fun c50 => ?_) (fun c50 => ?_)
        · exact absurd c50 (by decide)
        · refine lv_iconst (v := 0) hx hb dX3_valueBehindTurn_53 (by decide) ?_
          refine lv_goto (tgt := 68) hx hb dX3_valueBehindTurn_54 (by decide) ?_
          refine W.iret (v := 0) hx hb hr (fun tt ht hW => ⟨0, rfl, ?_, ht⟩) (fun _ h => nomatch h) dX3_valueBehindTurn_68
          skip; unfold vbehind; first | (rw [if_pos b18, if_pos b25]; done) | (rw [if_pos b18, if_neg b25]; done) | (rw [if_neg b18, if_pos b25]; done) | (rw [if_neg b18, if_neg b25]; done)
      · exact absurd c34 (by decide)
    · refine lv_istore (lv' := [(12, .int 0), (11, .int 1), (9, .long (cturned b tn)), (7, .long (cturned a tn)), (0, .ref h0), (1, .long a), (3, .long b), (5, .int (nI tn)), (6, .int 0)]) hx hb dX3_valueBehindTurn_28 hl (by decide) rfl (fun ls hl => ?_)
      refine lv_iload hx hb dX3_valueBehindTurn_30 (lv_at hl 1 rfl) ?_
      refine lv_iload hx hb dX3_valueBehindTurn_32 (lv_at hl 0 rfl) ?_
      refine lv_icmp_eq (tgt := 48) hx hb dX3_valueBehindTurn_34 (by decide) (fun c34 => ?_) (fun c34 => ?_)
      · exact absurd c34 (by decide)
      · refine lv_iload hx hb dX3_valueBehindTurn_37 (lv_at hl 1 rfl) ?_
        refine lv_if_eq (tgt := 46) hx hb dX3_valueBehindTurn_39 (by decide) (fun c39 => ?_) (fun c39 => ?_)
        · exact absurd c39 (by decide)
        · refine lv_iconst (v := 1) hx hb dX3_valueBehindTurn_42 (by decide) ?_
          refine lv_goto (tgt := 47) hx hb dX3_valueBehindTurn_43 (by decide) ?_
          refine W.iret (v := 1) hx hb hr (fun tt ht hW => ⟨1, rfl, ?_, ht⟩) (fun _ h => nomatch h) dX3_valueBehindTurn_47
          skip; unfold vbehind; first | (rw [if_pos b18, if_pos b25]; done) | (rw [if_pos b18, if_neg b25]; done) | (rw [if_neg b18, if_pos b25]; done) | (rw [if_neg b18, if_neg b25]; done)
  · refine lv_istore (lv' := [(11, .int 0), (9, .long (cturned b tn)), (7, .long (cturned a tn)), (0, .ref h0), (1, .long a), (3, .long b), (5, .int (nI tn)), (6, .int 0)]) hx hb dX3_valueBehindTurn_21 hl (by decide) rfl (fun ls hl => ?_)
    refine lv_lload hx hb dX3_valueBehindTurn_23 (lv_at hl 1 rfl) ?_
    refine vp_callSi (W.runS (As := [.long (cturned b tn)]) (rest := []) ⟨hx, hb, hml, hown, hts⟩ (c_X1_hasLine l (cturned b tn)) (va_cwS 1 hts gX3_valueBehindTurn_X1_hasLine rfl rfl rfl (by decide +kernel) ⟨Nat.le_of_ble_eq_true rfl, Nat.le_of_ble_eq_true rfl⟩) ⟨px_blind0, fun U hU hW => ⟨rfl, trivial⟩⟩ rfl rfl hl.1 rfl (lv_room (Nat.le_of_ble_eq_true rfl)) dX3_valueBehindTurn_25 ⟨(Nat.le_of_ble_eq_true rfl), (Nat.le_of_ble_eq_true rfl)⟩) (fun r25 er25 => ?_)
    obtain rfl := er25.symm
    refine pk_b (P := cline (cturned b tn) = true) (fun b25 => ?_) (fun b25 => ?_)
    · refine lv_istore (lv' := [(12, .int 1), (11, .int 0), (9, .long (cturned b tn)), (7, .long (cturned a tn)), (0, .ref h0), (1, .long a), (3, .long b), (5, .int (nI tn)), (6, .int 0)]) hx hb dX3_valueBehindTurn_28 hl (by decide) rfl (fun ls hl => ?_)
      refine lv_iload hx hb dX3_valueBehindTurn_30 (lv_at hl 1 rfl) ?_
      refine lv_iload hx hb dX3_valueBehindTurn_32 (lv_at hl 0 rfl) ?_
      refine lv_icmp_eq (tgt := 48) hx hb dX3_valueBehindTurn_34 (by decide) (fun c34 => ?_) (fun c34 => ?_)
      · exact absurd c34 (by decide)
      · refine lv_iload hx hb dX3_valueBehindTurn_37 (lv_at hl 1 rfl) ?_
        refine lv_if_eq (tgt := 46) hx hb dX3_valueBehindTurn_39 (by decide) (fun c39 => ?_) (fun c39 => ?_)
        · refine lv_iconst (v := (-1)) hx hb dX3_valueBehindTurn_46 (by decide) ?_
          refine W.iret (v := (-1)) hx hb hr (fun tt ht hW => ⟨(-1), rfl, ?_, ht⟩) (fun _ h => nomatch h) dX3_valueBehindTurn_47
          skip; unfold vbehind; first | (rw [if_pos b18, if_pos b25]; done) | (rw [if_pos b18, if_neg b25]; done) | (rw [if_neg b18, if_pos b25]; done) | (rw [if_neg b18, if_neg b25]; done)
        · exact absurd c39 (by decide)
    · refine lv_istore (lv' := [(12, .int 0), (11, .int 0), (9, .long (cturned b tn)), (7, .long (cturned a tn)), (0, .ref h0), (1, .long a), (3, .long b), (5, .int (nI tn)), (6, .int 0)]) hx hb dX3_valueBehindTurn_28 hl (by decide) rfl (fun ls hl => ?_)
      refine lv_iload hx hb dX3_valueBehindTurn_30 (lv_at hl 1 rfl) ?_
      refine lv_iload hx hb dX3_valueBehindTurn_32 (lv_at hl 0 rfl) ?_
      refine lv_icmp_eq (tgt := 48) hx hb dX3_valueBehindTurn_34 (by decide) (fun c34 => ?_) (fun c34 => ?_)
      · refine lv_iload hx hb dX3_valueBehindTurn_48 (lv_at hl 1 rfl) ?_
        refine lv_if_eq (tgt := 57) hx hb dX3_valueBehindTurn_50 (by decide) (fun c50 => ?_) (fun c50 => ?_)
        · refine lv_aload_n hx hb dX3_valueBehindTurn_57 rfl (lv_at hl 4 rfl) ?_
          refine lv_lload hx hb dX3_valueBehindTurn_58 (lv_at hl 2 rfl) ?_
          refine lv_lload hx hb dX3_valueBehindTurn_60 (lv_at hl 3 rfl) ?_
          refine lv_iload hx hb dX3_valueBehindTurn_62 (lv_at hl 8 rfl) ?_
          refine vp_callSi (W.runV (As := [.long (cturned b tn), .long (cturned a tn), .int 0]) (rest := []) ⟨hx, hb, hml, hown, hts⟩ (c_X3_valueToPut_p0 l D cI cJ h0 (cturned b tn) (cturned a tn)) (cwV 3 hts gX3_valueBehindTurn_X3_valueToPut rfl rfl rfl (by decide +kernel) ⟨Nat.le_of_ble_eq_true rfl, Nat.le_of_ble_eq_true rfl⟩) ⟨(px_blindE px_blindW), va_recv hK hP (ci := 1) (q0 := 0) rfl rfl, fun U hU hW => ⟨rfl, hEN.warm hW, by rw [hU]; exact hP.sub (ws' := [(h0, .inr (1, [.null]))]) [0] rfl, va_K.moved hW.alike hK⟩⟩ rfl rfl hl.1 rfl (lv_room (Nat.le_of_ble_eq_true rfl)) dX3_valueBehindTurn_64 ⟨(Nat.le_of_ble_eq_true rfl), (Nat.le_of_ble_eq_true rfl)⟩) (fun r64 er64 => ?_)
          obtain rfl := er64.symm
          refine lv_ineg hx hb dX3_valueBehindTurn_67 ?_
          refine lv_topi (fun x67 ex67 => ?_)
          refine W.iret (v := x67) hx hb hr (fun tt ht hW => ⟨x67, rfl, ?_, ht⟩) (fun _ h => nomatch h) dX3_valueBehindTurn_68
          obtain rfl := ex67.symm; unfold vbehind; first | (rw [if_pos b18, if_pos b25]; done) | (rw [if_pos b18, if_neg b25]; done) | (rw [if_neg b18, if_pos b25]; done) | (rw [if_neg b18, if_neg b25]; done)
        · exact absurd c50 (by decide)
      · exact absurd c34 (by decide)

set_option maxHeartbeats 400000 in
set_option maxRecDepth 100000 in
theorem c_X3_valueToTurn_p0 (l : Launch) (D : va_G) (cI cJ : ClassId) (h0 : Nat) (a b : Int64)  : Met l yX3_valueToTurn wsX3_valueToTurn ({ frames := 3, cells := 0, slots := 0, locals := 85 } : Room) (va_Pc [.ref h0, .long a, .long b, .int 0] (px_E (px_W D [(h0, .inr (1, [.null]))] [(cI, .int), (cJ, .long)]))) (vp_Si (fun r => r = vturn (vput 0) a b 8)) 0 0 (fun _ => False) := by
  refine Met.ofW (cc := cX3_valueToTurn) (maxL := 8) (ret := (some .int)) (by decide) rfl ?_
  intro p e s m args below meth c s₁ B hml hv
  obtain ⟨rfl, hEN, hP, hK⟩ := hv
  have hx := B.exec
  have hb := B.bytes
  have hr := B.returns
  have hts := atoms_spec (ws := wsX3_valueToTurn) B.pre
  have hown : s.vm.findClass RX3 = some m.cls := findClass_of_methodNamed B.named
  have hlocks := B.notSynchronized
  have hmx0 : (Cond.methodLink RX3 48 Lib.Math.max.name).before ([.ref h0, .long a, .long b, .int 0] : List Value).toArray s = true := hts _ (by decide +kernel)
  have hmx1 : (Cond.static Lib.Math.max.name).before ([.ref h0, .long a, .long b, .int 0] : List Value).toArray s = true := hts _ (by decide +kernel)
  have hmx2 : (Cond.initialized "java/lang/Math").before ([.ref h0, .long a, .long b, .int 0] : List Value).toArray s = true := hts _ (by decide +kernel)
  have hmx3 : (Cond.code Lib.Math.max.name Lib.Math.max.code 2 (some .int)).before ([.ref h0, .long a, .long b, .int 0] : List Value).toArray s = true := hts _ (by decide +kernel)
  have hl := lv_entry ([.ref h0, .long a, .long b, .int 0]) (n := 8) (Nat.le_of_ble_eq_true rfl)
  rw [lg_entry_eq]
  generalize (lg_sl ([.ref h0, .long a, .long b, .int 0]) ++ List.replicate (8 - (lg_sl ([.ref h0, .long a, .long b, .int 0])).length) Slot.unset).toArray = ls at hl ⊢
  have hl : lv_has ls 8 [(0, .ref h0), (1, .long a), (3, .long b), (5, .int 0)] := hl
  refine lv_iconst (v := (-1)) hx hb dX3_valueToTurn_0 (by decide) ?_
  refine lv_istore (lv' := [(6, .int (-1)), (0, .ref h0), (1, .long a), (3, .long b), (5, .int 0)]) hx hb dX3_valueToTurn_1 hl (by decide) rfl (fun ls hl => ?_)
  refine lv_iconst (v := 0) hx hb dX3_valueToTurn_3 (by decide) ?_
  refine lv_istore (lv' := [(7, .int 0), (6, .int (-1)), (0, .ref h0), (1, .long a), (3, .long b), (5, .int 0)]) hx hb dX3_valueToTurn_4 hl (by decide) rfl (fun ls hl => ?_)
  have loop6 : ∀ (nn i6 : Nat), i6 + nn = 8 → ∀ ls, lv_has ls 8 [(7, .int (nI i6)), (6, .int (vturn (vput 0) a b i6)), (0, .ref h0), (1, .long a), (3, .long b), (5, .int 0)] → W p l e (headSpec wsX3_valueToTurn ({ frames := 3, cells := 0, slots := 0, locals := 85 } : Room)).room s m ([.ref h0, .long a, .long b, .int 0] : List Value).toArray below meth c s.heap [] 0 0 (MQ below (vp_Si (fun r => r = vturn (vput 0) a b 8)) ([.ref h0, .long a, .long b, .int 0] : List Value).toArray s 0 0 (fun _ => False)) (F0 m 6 ls []) := by
    intro nn
    induction nn with
    | zero =>
      intro i6 hi6 ls hl
      obtain rfl : i6 = 8 := by omega
      refine lv_iload hx hb dX3_valueToTurn_6 (lv_at hl 0 rfl) ?_
      refine lv_bipush (v := 8) hx hb dX3_valueToTurn_8 (by decide) ?_
      refine lv_icmp_ge (tgt := 42) hx hb dX3_valueToTurn_10 (by decide) (fun c10 => ?_) (fun c10 => ?_)
      · have c10 : 8 ≤ 8 := (nq_le (a := 8) (b := 8) (by omega) (by omega)).mp c10
        refine lv_iload hx hb dX3_valueToTurn_42 (lv_at hl 1 rfl) ?_
        refine W.iret (v := (vturn (vput 0) a b 8)) hx hb hr (fun tt ht hW => ⟨(vturn (vput 0) a b 8), rfl, ?_, ht⟩) (fun _ h => nomatch h) dX3_valueToTurn_44
        exact rfl
      · have c10 : ¬ 8 ≤ 8 := _root_.mt (nq_le (a := 8) (b := 8) (by omega) (by omega)).mpr c10
        omega
    | succ nn ih6 =>
      intro i6 hi6 ls hl
      refine lv_iload hx hb dX3_valueToTurn_6 (lv_at hl 0 rfl) ?_
      refine lv_bipush (v := 8) hx hb dX3_valueToTurn_8 (by decide) ?_
      refine lv_icmp_ge (tgt := 42) hx hb dX3_valueToTurn_10 (by decide) (fun c10 => ?_) (fun c10 => ?_)
      · have c10 : 8 ≤ i6 := (nq_le (a := 8) (b := i6) (by omega) (by omega)).mp c10
        omega
      · have c10 : ¬ 8 ≤ i6 := _root_.mt (nq_le (a := 8) (b := i6) (by omega) (by omega)).mpr c10
        refine lv_iload hx hb dX3_valueToTurn_13 (lv_at hl 1 rfl) ?_
        refine lv_iconst (v := 1) hx hb dX3_valueToTurn_15 (by decide) ?_
        refine lv_icmp_ge (tgt := 42) hx hb dX3_valueToTurn_16 (by decide) (fun c16 => ?_) (fun c16 => ?_)
        · refine lv_iload hx hb dX3_valueToTurn_42 (lv_at hl 1 rfl) ?_
          refine W.iret (v := (vturn (vput 0) a b i6)) hx hb hr (fun tt ht hW => ⟨(vturn (vput 0) a b i6), rfl, ?_, ht⟩) (fun _ h => nomatch h) dX3_valueToTurn_44
          exact stop8 c16 (by omega)
        · refine lv_iload hx hb dX3_valueToTurn_19 (lv_at hl 1 rfl) ?_
          refine lv_aload_n hx hb dX3_valueToTurn_21 rfl (lv_at hl 2 rfl) ?_
          refine lv_lload_n hx hb dX3_valueToTurn_22 rfl (lv_at hl 3 rfl) ?_
          refine lv_lload_n hx hb dX3_valueToTurn_23 rfl (lv_at hl 4 rfl) ?_
          refine lv_iload hx hb dX3_valueToTurn_24 (lv_at hl 0 rfl) ?_
          refine lv_iload hx hb dX3_valueToTurn_26 (lv_at hl 5 rfl) ?_
          refine vp_callSi (W.runV (As := [.long a, .long b, .int (nI i6), .int 0]) (rest := [.int (vturn (vput 0) a b i6)]) ⟨hx, hb, hml, hown, hts⟩ (c_X3_valueBehindTurn_p0 l D cI cJ h0 a b i6 (by omega)) (cwV 4 hts gX3_valueToTurn_X3_valueBehindTurn rfl rfl rfl (by decide +kernel) ⟨Nat.le_of_ble_eq_true rfl, Nat.le_of_ble_eq_true rfl⟩) ⟨(px_blindE px_blindW), va_recv hK hP (ci := 1) (q0 := 0) rfl rfl, fun U hU hW => ⟨rfl, hEN.warm hW, by rw [hU]; exact hP.sub (ws' := [(h0, .inr (1, [.null]))]) [0] rfl, va_K.moved hW.alike hK⟩⟩ rfl rfl hl.1 rfl (lv_room (Nat.le_of_ble_eq_true rfl)) dX3_valueToTurn_28 ⟨(Nat.le_of_ble_eq_true rfl), (Nat.le_of_ble_eq_true rfl)⟩) (fun r28 er28 => ?_)
          obtain rfl := er28.symm
          refine va_mmax hx hb (by rw [hml]; exact hl.1.symm) hown hmx0 hmx1 hmx2 hmx3 (by decide) (Nat.le_of_ble_eq_true rfl) (Nat.le_of_ble_eq_true rfl) (Nat.le_of_ble_eq_true rfl) dX3_valueToTurn_31 ?_
          refine lv_topi (fun x31 ex31 => ?_)
          refine lv_istore (lv' := [(6, .int x31), (7, .int (nI i6)), (0, .ref h0), (1, .long a), (3, .long b), (5, .int 0)]) hx hb dX3_valueToTurn_34 hl (by decide) rfl (fun ls hl => ?_)
          refine lv_iinc (v := nI (i6 + 1)) (lv' := [(7, .int (nI (i6 + 1))), (6, .int x31), (0, .ref h0), (1, .long a), (3, .long b), (5, .int 0)]) hx hb dX3_valueToTurn_36 hl (k := 1) rfl (nI_add i6 1) (by decide) rfl (fun ls hl => ?_)
          refine lv_goto (tgt := 6) hx hb dX3_valueToTurn_39 (by decide) ?_
          exact ih6 (i6 + 1) (by omega) ls (by { have e9 : (x31 : Int32) = (vturn (vput 0) a b (i6 + 1)) := by { obtain rfl := ex31.symm; exact vturn_s c16 }; rw [← e9]; exact lv_sub hl [0, 1, 2, 3, 4, 5] rfl })
  exact loop6 8 0 (by omega) ls (lv_sub hl [0, 1, 2, 3, 4, 5] rfl)

set_option maxHeartbeats 400000 in
set_option maxRecDepth 100000 in
theorem c_X3_playMarbles_p1 (l : Launch) (D : va_G) (cI cJ : ClassId) (h0 : Nat) (a b : Int64)  : Met l yX3_playMarbles wsX3_playMarbles ({ frames := 4, cells := 0, slots := 0, locals := 112 } : Room) (va_Pc [.ref h0, .long a, .long b, .int 1] (px_E (px_W D [(h0, .inr (1, [.null]))] [(cI, .int), (cJ, .long)]))) (vp_Si (fun r => r = vput 1 a b)) 0 0 (fun _ => False) := by
  refine Met.ofW (cc := cX3_playMarbles) (maxL := 11) (ret := (some .int)) (by decide) rfl ?_
  intro p e s m args below meth c s₁ B hml hv
  obtain ⟨rfl, hEN, hP, hK⟩ := hv
  have hx := B.exec
  have hb := B.bytes
  have hr := B.returns
  have hts := atoms_spec (ws := wsX3_playMarbles) B.pre
  have hown : s.vm.findClass RX3 = some m.cls := findClass_of_methodNamed B.named
  have hlocks := B.notSynchronized
  have hnest54 : va_Nw (.methodLinkNest RX3 54 yX6_bitOf RX6) s := hEN.1
  have hiniX6 : (Cond.initialized (yX6_bitOf).cls).before ([.ref h0, .long a, .long b, .int 1] : List Value).toArray s = true := hts (.initialized RX6) (by decide +kernel)
  have hmx0 : (Cond.methodLink RX3 48 Lib.Math.max.name).before ([.ref h0, .long a, .long b, .int 1] : List Value).toArray s = true := hts _ (by decide +kernel)
  have hmx1 : (Cond.static Lib.Math.max.name).before ([.ref h0, .long a, .long b, .int 1] : List Value).toArray s = true := hts _ (by decide +kernel)
  have hmx2 : (Cond.initialized "java/lang/Math").before ([.ref h0, .long a, .long b, .int 1] : List Value).toArray s = true := hts _ (by decide +kernel)
  have hmx3 : (Cond.code Lib.Math.max.name Lib.Math.max.code 2 (some .int)).before ([.ref h0, .long a, .long b, .int 1] : List Value).toArray s = true := hts _ (by decide +kernel)
  have hl := lv_entry ([.ref h0, .long a, .long b, .int 1]) (n := 11) (Nat.le_of_ble_eq_true rfl)
  rw [lg_entry_eq]
  generalize (lg_sl ([.ref h0, .long a, .long b, .int 1]) ++ List.replicate (11 - (lg_sl ([.ref h0, .long a, .long b, .int 1])).length) Slot.unset).toArray = ls at hl ⊢
  have hl : lv_has ls 11 [(0, .ref h0), (1, .long a), (3, .long b), (5, .int 1)] := hl
  refine lv_iconst (v := (-1)) hx hb dX3_playMarbles_0 (by decide) ?_
  refine lv_istore (lv' := [(6, .int (-1)), (0, .ref h0), (1, .long a), (3, .long b), (5, .int 1)]) hx hb dX3_playMarbles_1 hl (by decide) rfl (fun ls hl => ?_)
  refine lv_iconst (v := 0) hx hb dX3_playMarbles_3 (by decide) ?_
  refine lv_istore (lv' := [(7, .int 0), (6, .int (-1)), (0, .ref h0), (1, .long a), (3, .long b), (5, .int 1)]) hx hb dX3_playMarbles_4 hl (by decide) rfl (fun ls hl => ?_)
  have loop6 : ∀ (nn i6 : Nat), i6 + nn = 36 → ∀ ls, lv_has ls 11 [(7, .int (nI i6)), (6, .int (vplay (vput 0) a b i6)), (0, .ref h0), (1, .long a), (3, .long b), (5, .int 1)] → W p l e (headSpec wsX3_playMarbles ({ frames := 4, cells := 0, slots := 0, locals := 112 } : Room)).room s m ([.ref h0, .long a, .long b, .int 1] : List Value).toArray below meth c s.heap [] 0 0 (MQ below (vp_Si (fun r => r = vput 1 a b)) ([.ref h0, .long a, .long b, .int 1] : List Value).toArray s 0 0 (fun _ => False)) (F0 m 6 ls []) := by
    intro nn
    induction nn with
    | zero =>
      intro i6 hi6 ls hl
      obtain rfl : i6 = 36 := by omega
      refine lv_iload hx hb dX3_playMarbles_6 (lv_at hl 0 rfl) ?_
      refine lv_bipush (v := 36) hx hb dX3_playMarbles_8 (by decide) ?_
      refine lv_icmp_ge (tgt := 81) hx hb dX3_playMarbles_10 (by decide) (fun c10 => ?_) (fun c10 => ?_)
      · have c10 : 36 ≤ 36 := (nq_le (a := 36) (b := 36) (by omega) (by omega)).mp c10
        refine lv_iload hx hb dX3_playMarbles_81 (lv_at hl 1 rfl) ?_
        refine W.iret (v := (vplay (vput 0) a b 36)) hx hb hr (fun tt ht hW => ⟨(vplay (vput 0) a b 36), rfl, ?_, ht⟩) (fun _ h => nomatch h) dX3_playMarbles_83
        exact rfl
      · have c10 : ¬ 36 ≤ 36 := _root_.mt (nq_le (a := 36) (b := 36) (by omega) (by omega)).mpr c10
        omega
    | succ nn ih6 =>
      intro i6 hi6 ls hl
      refine lv_iload hx hb dX3_playMarbles_6 (lv_at hl 0 rfl) ?_
      refine lv_bipush (v := 36) hx hb dX3_playMarbles_8 (by decide) ?_
      refine lv_icmp_ge (tgt := 81) hx hb dX3_playMarbles_10 (by decide) (fun c10 => ?_) (fun c10 => ?_)
      · have c10 : 36 ≤ i6 := (nq_le (a := 36) (b := i6) (by omega) (by omega)).mp c10
        omega
      · have c10 : ¬ 36 ≤ i6 := _root_.mt (nq_le (a := 36) (b := i6) (by omega) (by omega)).mpr c10
        refine lv_iload hx hb dX3_playMarbles_13 (lv_at hl 1 rfl) ?_
        refine lv_iconst (v := 1) hx hb dX3_playMarbles_15 (by decide) ?_
        refine lv_icmp_ge (tgt := 81) hx hb dX3_playMarbles_16 (by decide) (fun c16 => ?_) (fun c16 => ?_)
        · refine lv_iload hx hb dX3_playMarbles_81 (lv_at hl 1 rfl) ?_
          refine W.iret (v := (vplay (vput 0) a b i6)) hx hb hr (fun tt ht hW => ⟨(vplay (vput 0) a b i6), rfl, ?_, ht⟩) (fun _ h => nomatch h) dX3_playMarbles_83
          exact stop36 c16 (by omega)
        · refine lv_iload hx hb dX3_playMarbles_19 (lv_at hl 0 rfl) ?_
          refine vp_callSl (va_Run.run (va_runSN (As := [.int (nI i6)]) (rest := []) ⟨hx, hb, hml, hown, hts⟩ (c_X6_bitOf l (nI i6)) ⟨va_cnB 1 hts gX3_playMarbles_X6_bitOf_n54 rfl rfl rfl hnest54 hiniX6 (by decide +kernel) ⟨Nat.le_of_ble_eq_true rfl, Nat.le_of_ble_eq_true rfl⟩, hts _ (by decide +kernel), trivial⟩ ⟨px_blind0, fun U hU hW => ⟨rfl, trivial⟩⟩ rfl rfl hl.1 rfl (lv_room (Nat.le_of_ble_eq_true rfl)) dX3_playMarbles_21 ⟨(Nat.le_of_ble_eq_true rfl), (Nat.le_of_ble_eq_true rfl)⟩)) (fun r21 er21 => ?_)
          obtain rfl := er21.symm
          refine lv_lstore (lv' := [(8, .long (jshl 1 (nI i6))), (7, .int (nI i6)), (6, .int (vplay (vput 0) a b i6)), (0, .ref h0), (1, .long a), (3, .long b), (5, .int 1)]) hx hb dX3_playMarbles_24 hl (by decide) rfl (fun ls hl => ?_)
          refine lv_lload_n hx hb dX3_playMarbles_26 rfl (lv_at hl 4 rfl) ?_
          refine lv_lload_n hx hb dX3_playMarbles_27 rfl (lv_at hl 5 rfl) ?_
          refine lv_lor hx hb dX3_playMarbles_28 ?_
          refine lv_topl (fun x28 ex28 => ?_)
          refine lv_lload hx hb dX3_playMarbles_29 (lv_at hl 0 rfl) ?_
          refine lv_land hx hb dX3_playMarbles_31 ?_
          refine lv_topl (fun x31 ex31 => ?_)
          refine lv_lconst (v := 0) hx hb dX3_playMarbles_32 (by decide) ?_
          refine W.lcmp hx hb dX3_playMarbles_33 ?_
          refine lv_if_ne (tgt := 75) hx hb dX3_playMarbles_34 (by decide) (fun c34 => ?_) (fun c34 => ?_)
          · rw [lg_cmp_eq] at c34
            refine lv_iinc (v := nI (i6 + 1)) (lv' := [(7, .int (nI (i6 + 1))), (8, .long (jshl 1 (nI i6))), (6, .int (vplay (vput 0) a b i6)), (0, .ref h0), (1, .long a), (3, .long b), (5, .int 1)]) hx hb dX3_playMarbles_75 hl (k := 1) rfl (nI_add i6 1) (by decide) rfl (fun ls hl => ?_)
            refine lv_goto (tgt := 6) hx hb dX3_playMarbles_78 (by decide) ?_
            exact ih6 (i6 + 1) (by omega) ls (by { have e9 : ((vplay (vput 0) a b i6) : Int32) = (vplay (vput 0) a b (i6 + 1)) := by { obtain rfl := ex28.symm; obtain rfl := ex31.symm; exact vplay_a c16 c34 }; rw [← e9]; exact lv_sub hl [0, 2, 3, 4, 5, 6] rfl })
          · rw [lg_cmp_eq] at c34
            refine lv_lload_n hx hb dX3_playMarbles_37 rfl (lv_at hl 4 rfl) ?_
            refine lv_lload hx hb dX3_playMarbles_38 (lv_at hl 0 rfl) ?_
            refine lv_lor hx hb dX3_playMarbles_40 ?_
            refine lv_topl (fun x40 ex40 => ?_)
            refine vp_callSi (W.runS (As := [.long x40]) (rest := []) ⟨hx, hb, hml, hown, hts⟩ (c_X1_hasLine l x40) (va_cwS 1 hts gX3_playMarbles_X1_hasLine rfl rfl rfl (by decide +kernel) ⟨Nat.le_of_ble_eq_true rfl, Nat.le_of_ble_eq_true rfl⟩) ⟨px_blind0, fun U hU hW => ⟨rfl, trivial⟩⟩ rfl rfl hl.1 rfl (lv_room (Nat.le_of_ble_eq_true rfl)) dX3_playMarbles_41 ⟨(Nat.le_of_ble_eq_true rfl), (Nat.le_of_ble_eq_true rfl)⟩) (fun r41 er41 => ?_)
            obtain rfl := er41.symm
            refine pk_b (P := cline x40 = true) (fun b41 => ?_) (fun b41 => ?_)
            · refine lv_if_eq (tgt := 51) hx hb dX3_playMarbles_44 (by decide) (fun c44 => ?_) (fun c44 => ?_)
              · exact absurd c44 (by decide)
              · refine lv_iconst (v := 1) hx hb dX3_playMarbles_47 (by decide) ?_
                refine lv_goto (tgt := 64) hx hb dX3_playMarbles_48 (by decide) ?_
                refine lv_istore (lv' := [(10, .int 1), (8, .long (jshl 1 (nI i6))), (7, .int (nI i6)), (6, .int (vplay (vput 0) a b i6)), (0, .ref h0), (1, .long a), (3, .long b), (5, .int 1)]) hx hb dX3_playMarbles_64 hl (by decide) rfl (fun ls hl => ?_)
                refine lv_iload hx hb dX3_playMarbles_66 (lv_at hl 3 rfl) ?_
                refine lv_iload hx hb dX3_playMarbles_68 (lv_at hl 0 rfl) ?_
                refine va_mmax hx hb (by rw [hml]; exact hl.1.symm) hown hmx0 hmx1 hmx2 hmx3 (by decide) (Nat.le_of_ble_eq_true rfl) (Nat.le_of_ble_eq_true rfl) (Nat.le_of_ble_eq_true rfl) dX3_playMarbles_70 ?_
                refine lv_topi (fun x70 ex70 => ?_)
                refine lv_istore (lv' := [(6, .int x70), (10, .int 1), (8, .long (jshl 1 (nI i6))), (7, .int (nI i6)), (0, .ref h0), (1, .long a), (3, .long b), (5, .int 1)]) hx hb dX3_playMarbles_73 hl (by decide) rfl (fun ls hl => ?_)
                refine lv_iinc (v := nI (i6 + 1)) (lv' := [(7, .int (nI (i6 + 1))), (6, .int x70), (10, .int 1), (8, .long (jshl 1 (nI i6))), (0, .ref h0), (1, .long a), (3, .long b), (5, .int 1)]) hx hb dX3_playMarbles_75 hl (k := 3) rfl (nI_add i6 1) (by decide) rfl (fun ls hl => ?_)
                refine lv_goto (tgt := 6) hx hb dX3_playMarbles_78 (by decide) ?_
                exact ih6 (i6 + 1) (by omega) ls (by { have e9 : (x70 : Int32) = (vplay (vput 0) a b (i6 + 1)) := by { obtain rfl := ex28.symm; obtain rfl := ex31.symm; obtain rfl := ex40.symm; obtain rfl := ex70.symm; exact vplay_c c16 c34 (vcell_1 b41) }; rw [← e9]; exact lv_sub hl [0, 1, 4, 5, 6, 7] rfl })
            · refine lv_if_eq (tgt := 51) hx hb dX3_playMarbles_44 (by decide) (fun c44 => ?_) (fun c44 => ?_)
              · refine lv_aload_n hx hb dX3_playMarbles_51 rfl (lv_at hl 3 rfl) ?_
                refine lv_lload_n hx hb dX3_playMarbles_52 rfl (lv_at hl 4 rfl) ?_
                refine lv_lload hx hb dX3_playMarbles_53 (lv_at hl 0 rfl) ?_
                refine lv_lor hx hb dX3_playMarbles_55 ?_
                refine lv_topl (fun x55 ex55 => ?_)
                refine lv_lload_n hx hb dX3_playMarbles_56 rfl (lv_at hl 5 rfl) ?_
                refine lv_iload hx hb dX3_playMarbles_57 (lv_at hl 6 rfl) ?_
                refine lv_iconst (v := 1) hx hb dX3_playMarbles_59 (by decide) ?_
                refine lv_isub hx hb dX3_playMarbles_60 ?_
                refine pk_ti (y := nI 0) (by decide) ?_
                refine vp_callSi (W.runV (As := [.long x55, .long b, .int (nI 0)]) (rest := []) ⟨hx, hb, hml, hown, hts⟩ (c_X3_valueToTurn_p0 l D cI cJ h0 x55 b) (cwV 3 hts gX3_playMarbles_X3_valueToTurn rfl rfl rfl (by decide +kernel) ⟨Nat.le_of_ble_eq_true rfl, Nat.le_of_ble_eq_true rfl⟩) ⟨(px_blindE px_blindW), va_recv hK hP (ci := 1) (q0 := 0) rfl rfl, fun U hU hW => ⟨rfl, hEN.warm hW, by rw [hU]; exact hP.sub (ws' := [(h0, .inr (1, [.null]))]) [0] rfl, va_K.moved hW.alike hK⟩⟩ rfl rfl hl.1 rfl (lv_room (Nat.le_of_ble_eq_true rfl)) dX3_playMarbles_61 ⟨(Nat.le_of_ble_eq_true rfl), (Nat.le_of_ble_eq_true rfl)⟩) (fun r61 er61 => ?_)
                obtain rfl := er61.symm
                refine lv_istore (lv' := [(10, .int (vturn (vput 0) x55 b 8)), (8, .long (jshl 1 (nI i6))), (7, .int (nI i6)), (6, .int (vplay (vput 0) a b i6)), (0, .ref h0), (1, .long a), (3, .long b), (5, .int 1)]) hx hb dX3_playMarbles_64 hl (by decide) rfl (fun ls hl => ?_)
                refine lv_iload hx hb dX3_playMarbles_66 (lv_at hl 3 rfl) ?_
                refine lv_iload hx hb dX3_playMarbles_68 (lv_at hl 0 rfl) ?_
                refine va_mmax hx hb (by rw [hml]; exact hl.1.symm) hown hmx0 hmx1 hmx2 hmx3 (by decide) (Nat.le_of_ble_eq_true rfl) (Nat.le_of_ble_eq_true rfl) (Nat.le_of_ble_eq_true rfl) dX3_playMarbles_70 ?_
                refine lv_topi (fun x70 ex70 => ?_)
                refine lv_istore (lv' := [(6, .int x70), (10, .int (vturn (vput 0) x55 b 8)), (8, .long (jshl 1 (nI i6))), (7, .int (nI i6)), (0, .ref h0), (1, .long a), (3, .long b), (5, .int 1)]) hx hb dX3_playMarbles_73 hl (by decide) rfl (fun ls hl => ?_)
                refine lv_iinc (v := nI (i6 + 1)) (lv' := [(7, .int (nI (i6 + 1))), (6, .int x70), (10, .int (vturn (vput 0) x55 b 8)), (8, .long (jshl 1 (nI i6))), (0, .ref h0), (1, .long a), (3, .long b), (5, .int 1)]) hx hb dX3_playMarbles_75 hl (k := 3) rfl (nI_add i6 1) (by decide) rfl (fun ls hl => ?_)
                refine lv_goto (tgt := 6) hx hb dX3_playMarbles_78 (by decide) ?_
                exact ih6 (i6 + 1) (by omega) ls (by { have e9 : (x70 : Int32) = (vplay (vput 0) a b (i6 + 1)) := by { obtain rfl := ex28.symm; obtain rfl := ex31.symm; obtain rfl := ex40.symm; obtain rfl := ex55.symm; obtain rfl := ex70.symm; exact vplay_c c16 c34 (vcell_t b41) }; rw [← e9]; exact lv_sub hl [0, 1, 4, 5, 6, 7] rfl })
              · exact absurd c44 (by decide)
  exact loop6 36 0 (by omega) ls (lv_sub hl [0, 1, 2, 3, 4, 5] rfl)

set_option maxHeartbeats 400000 in
set_option maxRecDepth 100000 in
theorem c_X3_valueToPut_p1 (l : Launch) (D : va_G) (cI cJ : ClassId) (h0 : Nat) (a b : Int64)  : Met l yX3_valueToPut wsX3_valueToPut ({ frames := 5, cells := 0, slots := 0, locals := 142 } : Room) (va_Pc [.ref h0, .long a, .long b, .int 1] (px_E (px_W D [(h0, .inr (1, [.null]))] [(cI, .int), (cJ, .long)]))) (vp_Si (fun r => r = vput 1 a b)) 0 0 (fun _ => False) := by
  refine Met.ofW (cc := cX3_valueToPut) (maxL := 9) (ret := (some .int)) (by decide) rfl ?_
  intro p e s m args below meth c s₁ B hml hv
  obtain ⟨rfl, hEN, hP, hK⟩ := hv
  have hx := B.exec
  have hb := B.bytes
  have hr := B.returns
  have hts := atoms_spec (ws := wsX3_valueToPut) B.pre
  have hown : s.vm.findClass RX3 = some m.cls := findClass_of_methodNamed B.named
  have hlocks := B.notSynchronized
  have hinX3 : ∀ w ∈ wsX30, w ∈ wsX3_valueToPut := by decide +kernel
  have hfl9 : (Cond.fieldLink RX3 9 "Twistquad$Solver" "table" "LTwistquad$ValueTable;").before ([.ref h0, .long a, .long b, .int 1] : List Value).toArray s = true := hts _ (by decide +kernel)
  have hl := lv_entry ([.ref h0, .long a, .long b, .int 1]) (n := 9) (Nat.le_of_ble_eq_true rfl)
  rw [lg_entry_eq]
  generalize (lg_sl ([.ref h0, .long a, .long b, .int 1]) ++ List.replicate (9 - (lg_sl ([.ref h0, .long a, .long b, .int 1])).length) Slot.unset).toArray = ls at hl ⊢
  have hl : lv_has ls 9 [(0, .ref h0), (1, .long a), (3, .long b), (5, .int 1)] := hl
  refine lv_iload hx hb dX3_valueToPut_0 (lv_at hl 3 rfl) ?_
  refine lv_if_le (tgt := 11) hx hb dX3_valueToPut_2 (by decide) (fun c2 => ?_) (fun c2 => ?_)
  · exact absurd c2 (by decide)
  · refine lv_iload hx hb dX3_valueToPut_5 (lv_at hl 3 rfl) ?_
    refine lv_iconst (v := 3) hx hb dX3_valueToPut_7 (by decide) ?_
    refine lv_icmp_le (tgt := 13) hx hb dX3_valueToPut_8 (by decide) (fun c8 => ?_) (fun c8 => ?_)
    · refine lv_aload_n hx hb dX3_valueToPut_13 rfl (lv_at hl 0 rfl) ?_
      refine va_get (D := D) (ci := 1) (v := .null) (C := RX3) (T := TX3) (N := 1) hx hb hts hinX3 hown hK hP 0 rfl rfl 0 (by decide) hfl9 (fun _ h9 => h9) rfl dX3_valueToPut_14 ?_
      refine lv_ifnullN (tgt := 26) hx hb dX3_valueToPut_17 (by decide) ?_
      refine lv_aload_n hx hb dX3_valueToPut_26 rfl (lv_at hl 0 rfl) ?_
      refine lv_lload_n hx hb dX3_valueToPut_27 rfl (lv_at hl 1 rfl) ?_
      refine lv_lload_n hx hb dX3_valueToPut_28 rfl (lv_at hl 2 rfl) ?_
      refine lv_iload hx hb dX3_valueToPut_29 (lv_at hl 3 rfl) ?_
      refine vp_callSi (W.runV (As := [.long a, .long b, .int 1]) (rest := []) ⟨hx, hb, hml, hown, hts⟩ (c_X3_playMarbles_p1 l D cI cJ h0 a b) (cwV 3 hts gX3_valueToPut_X3_playMarbles rfl rfl rfl (by decide +kernel) ⟨Nat.le_of_ble_eq_true rfl, Nat.le_of_ble_eq_true rfl⟩) ⟨(px_blindE px_blindW), va_recv hK hP (ci := 1) (q0 := 0) rfl rfl, fun U hU hW => ⟨rfl, hEN.warm hW, by rw [hU]; exact hP.sub (ws' := [(h0, .inr (1, [.null]))]) [0] rfl, va_K.moved hW.alike hK⟩⟩ rfl rfl hl.1 rfl (lv_room (Nat.le_of_ble_eq_true rfl)) dX3_valueToPut_31 ⟨(Nat.le_of_ble_eq_true rfl), (Nat.le_of_ble_eq_true rfl)⟩) (fun r31 er31 => ?_)
      obtain rfl := er31.symm
      refine W.iret (v := (vput 1 a b)) hx hb hr (fun tt ht hW => ⟨(vput 1 a b), rfl, ?_, ht⟩) (fun _ h => nomatch h) dX3_valueToPut_34
      rfl
    · exact absurd c8 (by decide)

set_option maxHeartbeats 400000 in
set_option maxRecDepth 100000 in
theorem c_X3_valueBehindTurn_p1 (l : Launch) (D : va_G) (cI cJ : ClassId) (h0 : Nat) (a b : Int64) (tn : Nat) (htn : tn < 8) : Met l yX3_valueBehindTurn wsX3_valueBehindTurn ({ frames := 6, cells := 0, slots := 0, locals := 170 } : Room) (va_Pc [.ref h0, .long a, .long b, .int (nI tn), .int 1] (px_E (px_W D [(h0, .inr (1, [.null]))] [(cI, .int), (cJ, .long)]))) (vp_Si (fun r => r = vbehind (vput 1) a b tn)) 0 0 (fun _ => False) := by
  refine Met.ofW (cc := cX3_valueBehindTurn) (maxL := 13) (ret := (some .int)) (by decide) rfl ?_
  intro p e s m args below meth c s₁ B hml hv
  obtain ⟨rfl, hEN, hP, hK⟩ := hv
  have hx := B.exec
  have hb := B.bytes
  have hr := B.returns
  have hts := atoms_spec (ws := wsX3_valueBehindTurn) B.pre
  have hown : s.vm.findClass RX3 = some m.cls := findClass_of_methodNamed B.named
  have hlocks := B.notSynchronized
  have hl := lv_entry ([.ref h0, .long a, .long b, .int (nI tn), .int 1]) (n := 13) (Nat.le_of_ble_eq_true rfl)
  rw [lg_entry_eq]
  generalize (lg_sl ([.ref h0, .long a, .long b, .int (nI tn), .int 1]) ++ List.replicate (13 - (lg_sl ([.ref h0, .long a, .long b, .int (nI tn), .int 1])).length) Slot.unset).toArray = ls at hl ⊢
  have hl : lv_has ls 13 [(0, .ref h0), (1, .long a), (3, .long b), (5, .int (nI tn)), (6, .int 1)] := hl
  refine lv_lload_n hx hb dX3_valueBehindTurn_0 rfl (lv_at hl 1 rfl) ?_
  refine lv_iload hx hb dX3_valueBehindTurn_1 (lv_at hl 3 rfl) ?_
  refine vp_callSl (W.runS (As := [.long a, .int (nI tn)]) (rest := []) ⟨hx, hb, hml, hown, hts⟩ (c_X4_turned l a tn (by omega)) (va_cwS 2 hts gX3_valueBehindTurn_X4_turned rfl rfl rfl (by decide +kernel) ⟨Nat.le_of_ble_eq_true rfl, Nat.le_of_ble_eq_true rfl⟩) ⟨px_blind0, fun U hU hW => ⟨rfl, trivial⟩⟩ rfl rfl hl.1 rfl (lv_room (Nat.le_of_ble_eq_true rfl)) dX3_valueBehindTurn_3 ⟨(Nat.le_of_ble_eq_true rfl), (Nat.le_of_ble_eq_true rfl)⟩) (fun r3 er3 => ?_)
  obtain rfl := er3.symm
  refine lv_lstore (lv' := [(7, .long (cturned a tn)), (0, .ref h0), (1, .long a), (3, .long b), (5, .int (nI tn)), (6, .int 1)]) hx hb dX3_valueBehindTurn_6 hl (by decide) rfl (fun ls hl => ?_)
  refine lv_lload_n hx hb dX3_valueBehindTurn_8 rfl (lv_at hl 3 rfl) ?_
  refine lv_iload hx hb dX3_valueBehindTurn_9 (lv_at hl 4 rfl) ?_
  refine vp_callSl (W.runS (As := [.long b, .int (nI tn)]) (rest := []) ⟨hx, hb, hml, hown, hts⟩ (c_X4_turned l b tn (by omega)) (va_cwS 2 hts gX3_valueBehindTurn_X4_turned rfl rfl rfl (by decide +kernel) ⟨Nat.le_of_ble_eq_true rfl, Nat.le_of_ble_eq_true rfl⟩) ⟨px_blind0, fun U hU hW => ⟨rfl, trivial⟩⟩ rfl rfl hl.1 rfl (lv_room (Nat.le_of_ble_eq_true rfl)) dX3_valueBehindTurn_11 ⟨(Nat.le_of_ble_eq_true rfl), (Nat.le_of_ble_eq_true rfl)⟩) (fun r11 er11 => ?_)
  obtain rfl := er11.symm
  refine lv_lstore (lv' := [(9, .long (cturned b tn)), (7, .long (cturned a tn)), (0, .ref h0), (1, .long a), (3, .long b), (5, .int (nI tn)), (6, .int 1)]) hx hb dX3_valueBehindTurn_14 hl (by decide) rfl (fun ls hl => ?_)
  refine lv_lload hx hb dX3_valueBehindTurn_16 (lv_at hl 1 rfl) ?_
  refine vp_callSi (W.runS (As := [.long (cturned a tn)]) (rest := []) ⟨hx, hb, hml, hown, hts⟩ (c_X1_hasLine l (cturned a tn)) (va_cwS 1 hts gX3_valueBehindTurn_X1_hasLine rfl rfl rfl (by decide +kernel) ⟨Nat.le_of_ble_eq_true rfl, Nat.le_of_ble_eq_true rfl⟩) ⟨px_blind0, fun U hU hW => ⟨rfl, trivial⟩⟩ rfl rfl hl.1 rfl (lv_room (Nat.le_of_ble_eq_true rfl)) dX3_valueBehindTurn_18 ⟨(Nat.le_of_ble_eq_true rfl), (Nat.le_of_ble_eq_true rfl)⟩) (fun r18 er18 => ?_)
  obtain rfl := er18.symm
  refine pk_b (P := cline (cturned a tn) = true) (fun b18 => ?_) (fun b18 => ?_)
  · refine lv_istore (lv' := [(11, .int 1), (9, .long (cturned b tn)), (7, .long (cturned a tn)), (0, .ref h0), (1, .long a), (3, .long b), (5, .int (nI tn)), (6, .int 1)]) hx hb dX3_valueBehindTurn_21 hl (by decide) rfl (fun ls hl => ?_)
    refine lv_lload hx hb dX3_valueBehindTurn_23 (lv_at hl 1 rfl) ?_
    refine vp_callSi (W.runS (As := [.long (cturned b tn)]) (rest := []) ⟨hx, hb, hml, hown, hts⟩ (c_X1_hasLine l (cturned b tn)) (va_cwS 1 hts gX3_valueBehindTurn_X1_hasLine rfl rfl rfl (by decide +kernel) ⟨Nat.le_of_ble_eq_true rfl, Nat.le_of_ble_eq_true rfl⟩) ⟨px_blind0, fun U hU hW => ⟨rfl, trivial⟩⟩ rfl rfl hl.1 rfl (lv_room (Nat.le_of_ble_eq_true rfl)) dX3_valueBehindTurn_25 ⟨(Nat.le_of_ble_eq_true rfl), (Nat.le_of_ble_eq_true rfl)⟩) (fun r25 er25 => ?_)
    obtain rfl := er25.symm
    refine pk_b (P := cline (cturned b tn) = true) (fun b25 => ?_) (fun b25 => ?_)
    · refine lv_istore (lv' := [(12, .int 1), (11, .int 1), (9, .long (cturned b tn)), (7, .long (cturned a tn)), (0, .ref h0), (1, .long a), (3, .long b), (5, .int (nI tn)), (6, .int 1)]) hx hb dX3_valueBehindTurn_28 hl (by decide) rfl (fun ls hl => ?_)
      refine lv_iload hx hb dX3_valueBehindTurn_30 (lv_at hl 1 rfl) ?_
      refine lv_iload hx hb dX3_valueBehindTurn_32 (lv_at hl 0 rfl) ?_
      refine lv_icmp_eq (tgt := 48) hx hb dX3_valueBehindTurn_34 (by decide) (fun c34 => ?_) (fun c34 => ?_)
      · refine lv_iload hx hb dX3_valueBehindTurn_48 (lv_at hl 1 rfl) ?_
        refine lv_if_eq (tgt := 57) hx hb dX3_valueBehindTurn_50 (by decide) (fun c50 => ?_) (fun c50 => ?_)
        · exact absurd c50 (by decide)
        · refine lv_iconst (v := 0) hx hb dX3_valueBehindTurn_53 (by decide) ?_
          refine lv_goto (tgt := 68) hx hb dX3_valueBehindTurn_54 (by decide) ?_
          refine W.iret (v := 0) hx hb hr (fun tt ht hW => ⟨0, rfl, ?_, ht⟩) (fun _ h => nomatch h) dX3_valueBehindTurn_68
          skip; unfold vbehind; first | (rw [if_pos b18, if_pos b25]; done) | (rw [if_pos b18, if_neg b25]; done) | (rw [if_neg b18, if_pos b25]; done) | (rw [if_neg b18, if_neg b25]; done)
      · exact absurd c34 (by decide)
    · refine lv_istore (lv' := [(12, .int 0), (11, .int 1), (9, .long (cturned b tn)), (7, .long (cturned a tn)), (0, .ref h0), (1, .long a), (3, .long b), (5, .int (nI tn)), (6, .int 1)]) hx hb dX3_valueBehindTurn_28 hl (by decide) rfl (fun ls hl => ?_)
      refine lv_iload hx hb dX3_valueBehindTurn_30 (lv_at hl 1 rfl) ?_
      refine lv_iload hx hb dX3_valueBehindTurn_32 (lv_at hl 0 rfl) ?_
      refine lv_icmp_eq (tgt := 48) hx hb dX3_valueBehindTurn_34 (by decide) (fun c34 => ?_) (fun c34 => ?_)
      · exact absurd c34 (by decide)
      · refine lv_iload hx hb dX3_valueBehindTurn_37 (lv_at hl 1 rfl) ?_
        refine lv_if_eq (tgt := 46) hx hb dX3_valueBehindTurn_39 (by decide) (fun c39 => ?_) (fun c39 => ?_)
        · exact absurd c39 (by decide)
        · refine lv_iconst (v := 1) hx hb dX3_valueBehindTurn_42 (by decide) ?_
          refine lv_goto (tgt := 47) hx hb dX3_valueBehindTurn_43 (by decide) ?_
          refine W.iret (v := 1) hx hb hr (fun tt ht hW => ⟨1, rfl, ?_, ht⟩) (fun _ h => nomatch h) dX3_valueBehindTurn_47
          skip; unfold vbehind; first | (rw [if_pos b18, if_pos b25]; done) | (rw [if_pos b18, if_neg b25]; done) | (rw [if_neg b18, if_pos b25]; done) | (rw [if_neg b18, if_neg b25]; done)
  · refine lv_istore (lv' := [(11, .int 0), (9, .long (cturned b tn)), (7, .long (cturned a tn)), (0, .ref h0), (1, .long a), (3, .long b), (5, .int (nI tn)), (6, .int 1)]) hx hb dX3_valueBehindTurn_21 hl (by decide) rfl (fun ls hl => ?_)
    refine lv_lload hx hb dX3_valueBehindTurn_23 (lv_at hl 1 rfl) ?_
    refine vp_callSi (W.runS (As := [.long (cturned b tn)]) (rest := []) ⟨hx, hb, hml, hown, hts⟩ (c_X1_hasLine l (cturned b tn)) (va_cwS 1 hts gX3_valueBehindTurn_X1_hasLine rfl rfl rfl (by decide +kernel) ⟨Nat.le_of_ble_eq_true rfl, Nat.le_of_ble_eq_true rfl⟩) ⟨px_blind0, fun U hU hW => ⟨rfl, trivial⟩⟩ rfl rfl hl.1 rfl (lv_room (Nat.le_of_ble_eq_true rfl)) dX3_valueBehindTurn_25 ⟨(Nat.le_of_ble_eq_true rfl), (Nat.le_of_ble_eq_true rfl)⟩) (fun r25 er25 => ?_)
    obtain rfl := er25.symm
    refine pk_b (P := cline (cturned b tn) = true) (fun b25 => ?_) (fun b25 => ?_)
    · refine lv_istore (lv' := [(12, .int 1), (11, .int 0), (9, .long (cturned b tn)), (7, .long (cturned a tn)), (0, .ref h0), (1, .long a), (3, .long b), (5, .int (nI tn)), (6, .int 1)]) hx hb dX3_valueBehindTurn_28 hl (by decide) rfl (fun ls hl => ?_)
      refine lv_iload hx hb dX3_valueBehindTurn_30 (lv_at hl 1 rfl) ?_
      refine lv_iload hx hb dX3_valueBehindTurn_32 (lv_at hl 0 rfl) ?_
      refine lv_icmp_eq (tgt := 48) hx hb dX3_valueBehindTurn_34 (by decide) (fun c34 => ?_) (fun c34 => ?_)
      · exact absurd c34 (by decide)
      · refine lv_iload hx hb dX3_valueBehindTurn_37 (lv_at hl 1 rfl) ?_
        refine lv_if_eq (tgt := 46) hx hb dX3_valueBehindTurn_39 (by decide) (fun c39 => ?_) (fun c39 => ?_)
        · refine lv_iconst (v := (-1)) hx hb dX3_valueBehindTurn_46 (by decide) ?_
          refine W.iret (v := (-1)) hx hb hr (fun tt ht hW => ⟨(-1), rfl, ?_, ht⟩) (fun _ h => nomatch h) dX3_valueBehindTurn_47
          skip; unfold vbehind; first | (rw [if_pos b18, if_pos b25]; done) | (rw [if_pos b18, if_neg b25]; done) | (rw [if_neg b18, if_pos b25]; done) | (rw [if_neg b18, if_neg b25]; done)
        · exact absurd c39 (by decide)
    · refine lv_istore (lv' := [(12, .int 0), (11, .int 0), (9, .long (cturned b tn)), (7, .long (cturned a tn)), (0, .ref h0), (1, .long a), (3, .long b), (5, .int (nI tn)), (6, .int 1)]) hx hb dX3_valueBehindTurn_28 hl (by decide) rfl (fun ls hl => ?_)
      refine lv_iload hx hb dX3_valueBehindTurn_30 (lv_at hl 1 rfl) ?_
      refine lv_iload hx hb dX3_valueBehindTurn_32 (lv_at hl 0 rfl) ?_
      refine lv_icmp_eq (tgt := 48) hx hb dX3_valueBehindTurn_34 (by decide) (fun c34 => ?_) (fun c34 => ?_)
      · refine lv_iload hx hb dX3_valueBehindTurn_48 (lv_at hl 1 rfl) ?_
        refine lv_if_eq (tgt := 57) hx hb dX3_valueBehindTurn_50 (by decide) (fun c50 => ?_) (fun c50 => ?_)
        · refine lv_aload_n hx hb dX3_valueBehindTurn_57 rfl (lv_at hl 4 rfl) ?_
          refine lv_lload hx hb dX3_valueBehindTurn_58 (lv_at hl 2 rfl) ?_
          refine lv_lload hx hb dX3_valueBehindTurn_60 (lv_at hl 3 rfl) ?_
          refine lv_iload hx hb dX3_valueBehindTurn_62 (lv_at hl 8 rfl) ?_
          refine vp_callSi (W.runV (As := [.long (cturned b tn), .long (cturned a tn), .int 1]) (rest := []) ⟨hx, hb, hml, hown, hts⟩ (c_X3_valueToPut_p1 l D cI cJ h0 (cturned b tn) (cturned a tn)) (cwV 3 hts gX3_valueBehindTurn_X3_valueToPut rfl rfl rfl (by decide +kernel) ⟨Nat.le_of_ble_eq_true rfl, Nat.le_of_ble_eq_true rfl⟩) ⟨(px_blindE px_blindW), va_recv hK hP (ci := 1) (q0 := 0) rfl rfl, fun U hU hW => ⟨rfl, hEN.warm hW, by rw [hU]; exact hP.sub (ws' := [(h0, .inr (1, [.null]))]) [0] rfl, va_K.moved hW.alike hK⟩⟩ rfl rfl hl.1 rfl (lv_room (Nat.le_of_ble_eq_true rfl)) dX3_valueBehindTurn_64 ⟨(Nat.le_of_ble_eq_true rfl), (Nat.le_of_ble_eq_true rfl)⟩) (fun r64 er64 => ?_)
          obtain rfl := er64.symm
          refine lv_ineg hx hb dX3_valueBehindTurn_67 ?_
          refine lv_topi (fun x67 ex67 => ?_)
          refine W.iret (v := x67) hx hb hr (fun tt ht hW => ⟨x67, rfl, ?_, ht⟩) (fun _ h => nomatch h) dX3_valueBehindTurn_68
          obtain rfl := ex67.symm; unfold vbehind; first | (rw [if_pos b18, if_pos b25]; done) | (rw [if_pos b18, if_neg b25]; done) | (rw [if_neg b18, if_pos b25]; done) | (rw [if_neg b18, if_neg b25]; done)
        · exact absurd c50 (by decide)
      · exact absurd c34 (by decide)

set_option maxHeartbeats 400000 in
set_option maxRecDepth 100000 in
theorem c_X3_valueToTurn_p1 (l : Launch) (D : va_G) (cI cJ : ClassId) (h0 : Nat) (a b : Int64)  : Met l yX3_valueToTurn wsX3_valueToTurn ({ frames := 7, cells := 0, slots := 0, locals := 202 } : Room) (va_Pc [.ref h0, .long a, .long b, .int 1] (px_E (px_W D [(h0, .inr (1, [.null]))] [(cI, .int), (cJ, .long)]))) (vp_Si (fun r => r = vturn (vput 1) a b 8)) 0 0 (fun _ => False) := by
  refine Met.ofW (cc := cX3_valueToTurn) (maxL := 8) (ret := (some .int)) (by decide) rfl ?_
  intro p e s m args below meth c s₁ B hml hv
  obtain ⟨rfl, hEN, hP, hK⟩ := hv
  have hx := B.exec
  have hb := B.bytes
  have hr := B.returns
  have hts := atoms_spec (ws := wsX3_valueToTurn) B.pre
  have hown : s.vm.findClass RX3 = some m.cls := findClass_of_methodNamed B.named
  have hlocks := B.notSynchronized
  have hmx0 : (Cond.methodLink RX3 48 Lib.Math.max.name).before ([.ref h0, .long a, .long b, .int 1] : List Value).toArray s = true := hts _ (by decide +kernel)
  have hmx1 : (Cond.static Lib.Math.max.name).before ([.ref h0, .long a, .long b, .int 1] : List Value).toArray s = true := hts _ (by decide +kernel)
  have hmx2 : (Cond.initialized "java/lang/Math").before ([.ref h0, .long a, .long b, .int 1] : List Value).toArray s = true := hts _ (by decide +kernel)
  have hmx3 : (Cond.code Lib.Math.max.name Lib.Math.max.code 2 (some .int)).before ([.ref h0, .long a, .long b, .int 1] : List Value).toArray s = true := hts _ (by decide +kernel)
  have hl := lv_entry ([.ref h0, .long a, .long b, .int 1]) (n := 8) (Nat.le_of_ble_eq_true rfl)
  rw [lg_entry_eq]
  generalize (lg_sl ([.ref h0, .long a, .long b, .int 1]) ++ List.replicate (8 - (lg_sl ([.ref h0, .long a, .long b, .int 1])).length) Slot.unset).toArray = ls at hl ⊢
  have hl : lv_has ls 8 [(0, .ref h0), (1, .long a), (3, .long b), (5, .int 1)] := hl
  refine lv_iconst (v := (-1)) hx hb dX3_valueToTurn_0 (by decide) ?_
  refine lv_istore (lv' := [(6, .int (-1)), (0, .ref h0), (1, .long a), (3, .long b), (5, .int 1)]) hx hb dX3_valueToTurn_1 hl (by decide) rfl (fun ls hl => ?_)
  refine lv_iconst (v := 0) hx hb dX3_valueToTurn_3 (by decide) ?_
  refine lv_istore (lv' := [(7, .int 0), (6, .int (-1)), (0, .ref h0), (1, .long a), (3, .long b), (5, .int 1)]) hx hb dX3_valueToTurn_4 hl (by decide) rfl (fun ls hl => ?_)
  have loop6 : ∀ (nn i6 : Nat), i6 + nn = 8 → ∀ ls, lv_has ls 8 [(7, .int (nI i6)), (6, .int (vturn (vput 1) a b i6)), (0, .ref h0), (1, .long a), (3, .long b), (5, .int 1)] → W p l e (headSpec wsX3_valueToTurn ({ frames := 7, cells := 0, slots := 0, locals := 202 } : Room)).room s m ([.ref h0, .long a, .long b, .int 1] : List Value).toArray below meth c s.heap [] 0 0 (MQ below (vp_Si (fun r => r = vturn (vput 1) a b 8)) ([.ref h0, .long a, .long b, .int 1] : List Value).toArray s 0 0 (fun _ => False)) (F0 m 6 ls []) := by
    intro nn
    induction nn with
    | zero =>
      intro i6 hi6 ls hl
      obtain rfl : i6 = 8 := by omega
      refine lv_iload hx hb dX3_valueToTurn_6 (lv_at hl 0 rfl) ?_
      refine lv_bipush (v := 8) hx hb dX3_valueToTurn_8 (by decide) ?_
      refine lv_icmp_ge (tgt := 42) hx hb dX3_valueToTurn_10 (by decide) (fun c10 => ?_) (fun c10 => ?_)
      · have c10 : 8 ≤ 8 := (nq_le (a := 8) (b := 8) (by omega) (by omega)).mp c10
        refine lv_iload hx hb dX3_valueToTurn_42 (lv_at hl 1 rfl) ?_
        refine W.iret (v := (vturn (vput 1) a b 8)) hx hb hr (fun tt ht hW => ⟨(vturn (vput 1) a b 8), rfl, ?_, ht⟩) (fun _ h => nomatch h) dX3_valueToTurn_44
        exact rfl
      · have c10 : ¬ 8 ≤ 8 := _root_.mt (nq_le (a := 8) (b := 8) (by omega) (by omega)).mpr c10
        omega
    | succ nn ih6 =>
      intro i6 hi6 ls hl
      refine lv_iload hx hb dX3_valueToTurn_6 (lv_at hl 0 rfl) ?_
      refine lv_bipush (v := 8) hx hb dX3_valueToTurn_8 (by decide) ?_
      refine lv_icmp_ge (tgt := 42) hx hb dX3_valueToTurn_10 (by decide) (fun c10 => ?_) (fun c10 => ?_)
      · have c10 : 8 ≤ i6 := (nq_le (a := 8) (b := i6) (by omega) (by omega)).mp c10
        omega
      · have c10 : ¬ 8 ≤ i6 := _root_.mt (nq_le (a := 8) (b := i6) (by omega) (by omega)).mpr c10
        refine lv_iload hx hb dX3_valueToTurn_13 (lv_at hl 1 rfl) ?_
        refine lv_iconst (v := 1) hx hb dX3_valueToTurn_15 (by decide) ?_
        refine lv_icmp_ge (tgt := 42) hx hb dX3_valueToTurn_16 (by decide) (fun c16 => ?_) (fun c16 => ?_)
        · refine lv_iload hx hb dX3_valueToTurn_42 (lv_at hl 1 rfl) ?_
          refine W.iret (v := (vturn (vput 1) a b i6)) hx hb hr (fun tt ht hW => ⟨(vturn (vput 1) a b i6), rfl, ?_, ht⟩) (fun _ h => nomatch h) dX3_valueToTurn_44
          exact stop8 c16 (by omega)
        · refine lv_iload hx hb dX3_valueToTurn_19 (lv_at hl 1 rfl) ?_
          refine lv_aload_n hx hb dX3_valueToTurn_21 rfl (lv_at hl 2 rfl) ?_
          refine lv_lload_n hx hb dX3_valueToTurn_22 rfl (lv_at hl 3 rfl) ?_
          refine lv_lload_n hx hb dX3_valueToTurn_23 rfl (lv_at hl 4 rfl) ?_
          refine lv_iload hx hb dX3_valueToTurn_24 (lv_at hl 0 rfl) ?_
          refine lv_iload hx hb dX3_valueToTurn_26 (lv_at hl 5 rfl) ?_
          refine vp_callSi (W.runV (As := [.long a, .long b, .int (nI i6), .int 1]) (rest := [.int (vturn (vput 1) a b i6)]) ⟨hx, hb, hml, hown, hts⟩ (c_X3_valueBehindTurn_p1 l D cI cJ h0 a b i6 (by omega)) (cwV 4 hts gX3_valueToTurn_X3_valueBehindTurn rfl rfl rfl (by decide +kernel) ⟨Nat.le_of_ble_eq_true rfl, Nat.le_of_ble_eq_true rfl⟩) ⟨(px_blindE px_blindW), va_recv hK hP (ci := 1) (q0 := 0) rfl rfl, fun U hU hW => ⟨rfl, hEN.warm hW, by rw [hU]; exact hP.sub (ws' := [(h0, .inr (1, [.null]))]) [0] rfl, va_K.moved hW.alike hK⟩⟩ rfl rfl hl.1 rfl (lv_room (Nat.le_of_ble_eq_true rfl)) dX3_valueToTurn_28 ⟨(Nat.le_of_ble_eq_true rfl), (Nat.le_of_ble_eq_true rfl)⟩) (fun r28 er28 => ?_)
          obtain rfl := er28.symm
          refine va_mmax hx hb (by rw [hml]; exact hl.1.symm) hown hmx0 hmx1 hmx2 hmx3 (by decide) (Nat.le_of_ble_eq_true rfl) (Nat.le_of_ble_eq_true rfl) (Nat.le_of_ble_eq_true rfl) dX3_valueToTurn_31 ?_
          refine lv_topi (fun x31 ex31 => ?_)
          refine lv_istore (lv' := [(6, .int x31), (7, .int (nI i6)), (0, .ref h0), (1, .long a), (3, .long b), (5, .int 1)]) hx hb dX3_valueToTurn_34 hl (by decide) rfl (fun ls hl => ?_)
          refine lv_iinc (v := nI (i6 + 1)) (lv' := [(7, .int (nI (i6 + 1))), (6, .int x31), (0, .ref h0), (1, .long a), (3, .long b), (5, .int 1)]) hx hb dX3_valueToTurn_36 hl (k := 1) rfl (nI_add i6 1) (by decide) rfl (fun ls hl => ?_)
          refine lv_goto (tgt := 6) hx hb dX3_valueToTurn_39 (by decide) ?_
          exact ih6 (i6 + 1) (by omega) ls (by { have e9 : (x31 : Int32) = (vturn (vput 1) a b (i6 + 1)) := by { obtain rfl := ex31.symm; exact vturn_s c16 }; rw [← e9]; exact lv_sub hl [0, 1, 2, 3, 4, 5] rfl })
  exact loop6 8 0 (by omega) ls (lv_sub hl [0, 1, 2, 3, 4, 5] rfl)

set_option maxHeartbeats 400000 in
set_option maxRecDepth 100000 in
theorem c_X3_playMarbles_p2 (l : Launch) (D : va_G) (cI cJ : ClassId) (h0 : Nat) (a b : Int64)  : Met l yX3_playMarbles wsX3_playMarbles ({ frames := 8, cells := 0, slots := 0, locals := 229 } : Room) (va_Pc [.ref h0, .long a, .long b, .int 2] (px_E (px_W D [(h0, .inr (1, [.null]))] [(cI, .int), (cJ, .long)]))) (vp_Si (fun r => r = vput 2 a b)) 0 0 (fun _ => False) := by
  refine Met.ofW (cc := cX3_playMarbles) (maxL := 11) (ret := (some .int)) (by decide) rfl ?_
  intro p e s m args below meth c s₁ B hml hv
  obtain ⟨rfl, hEN, hP, hK⟩ := hv
  have hx := B.exec
  have hb := B.bytes
  have hr := B.returns
  have hts := atoms_spec (ws := wsX3_playMarbles) B.pre
  have hown : s.vm.findClass RX3 = some m.cls := findClass_of_methodNamed B.named
  have hlocks := B.notSynchronized
  have hnest54 : va_Nw (.methodLinkNest RX3 54 yX6_bitOf RX6) s := hEN.1
  have hiniX6 : (Cond.initialized (yX6_bitOf).cls).before ([.ref h0, .long a, .long b, .int 2] : List Value).toArray s = true := hts (.initialized RX6) (by decide +kernel)
  have hmx0 : (Cond.methodLink RX3 48 Lib.Math.max.name).before ([.ref h0, .long a, .long b, .int 2] : List Value).toArray s = true := hts _ (by decide +kernel)
  have hmx1 : (Cond.static Lib.Math.max.name).before ([.ref h0, .long a, .long b, .int 2] : List Value).toArray s = true := hts _ (by decide +kernel)
  have hmx2 : (Cond.initialized "java/lang/Math").before ([.ref h0, .long a, .long b, .int 2] : List Value).toArray s = true := hts _ (by decide +kernel)
  have hmx3 : (Cond.code Lib.Math.max.name Lib.Math.max.code 2 (some .int)).before ([.ref h0, .long a, .long b, .int 2] : List Value).toArray s = true := hts _ (by decide +kernel)
  have hl := lv_entry ([.ref h0, .long a, .long b, .int 2]) (n := 11) (Nat.le_of_ble_eq_true rfl)
  rw [lg_entry_eq]
  generalize (lg_sl ([.ref h0, .long a, .long b, .int 2]) ++ List.replicate (11 - (lg_sl ([.ref h0, .long a, .long b, .int 2])).length) Slot.unset).toArray = ls at hl ⊢
  have hl : lv_has ls 11 [(0, .ref h0), (1, .long a), (3, .long b), (5, .int 2)] := hl
  refine lv_iconst (v := (-1)) hx hb dX3_playMarbles_0 (by decide) ?_
  refine lv_istore (lv' := [(6, .int (-1)), (0, .ref h0), (1, .long a), (3, .long b), (5, .int 2)]) hx hb dX3_playMarbles_1 hl (by decide) rfl (fun ls hl => ?_)
  refine lv_iconst (v := 0) hx hb dX3_playMarbles_3 (by decide) ?_
  refine lv_istore (lv' := [(7, .int 0), (6, .int (-1)), (0, .ref h0), (1, .long a), (3, .long b), (5, .int 2)]) hx hb dX3_playMarbles_4 hl (by decide) rfl (fun ls hl => ?_)
  have loop6 : ∀ (nn i6 : Nat), i6 + nn = 36 → ∀ ls, lv_has ls 11 [(7, .int (nI i6)), (6, .int (vplay (vput 1) a b i6)), (0, .ref h0), (1, .long a), (3, .long b), (5, .int 2)] → W p l e (headSpec wsX3_playMarbles ({ frames := 8, cells := 0, slots := 0, locals := 229 } : Room)).room s m ([.ref h0, .long a, .long b, .int 2] : List Value).toArray below meth c s.heap [] 0 0 (MQ below (vp_Si (fun r => r = vput 2 a b)) ([.ref h0, .long a, .long b, .int 2] : List Value).toArray s 0 0 (fun _ => False)) (F0 m 6 ls []) := by
    intro nn
    induction nn with
    | zero =>
      intro i6 hi6 ls hl
      obtain rfl : i6 = 36 := by omega
      refine lv_iload hx hb dX3_playMarbles_6 (lv_at hl 0 rfl) ?_
      refine lv_bipush (v := 36) hx hb dX3_playMarbles_8 (by decide) ?_
      refine lv_icmp_ge (tgt := 81) hx hb dX3_playMarbles_10 (by decide) (fun c10 => ?_) (fun c10 => ?_)
      · have c10 : 36 ≤ 36 := (nq_le (a := 36) (b := 36) (by omega) (by omega)).mp c10
        refine lv_iload hx hb dX3_playMarbles_81 (lv_at hl 1 rfl) ?_
        refine W.iret (v := (vplay (vput 1) a b 36)) hx hb hr (fun tt ht hW => ⟨(vplay (vput 1) a b 36), rfl, ?_, ht⟩) (fun _ h => nomatch h) dX3_playMarbles_83
        exact rfl
      · have c10 : ¬ 36 ≤ 36 := _root_.mt (nq_le (a := 36) (b := 36) (by omega) (by omega)).mpr c10
        omega
    | succ nn ih6 =>
      intro i6 hi6 ls hl
      refine lv_iload hx hb dX3_playMarbles_6 (lv_at hl 0 rfl) ?_
      refine lv_bipush (v := 36) hx hb dX3_playMarbles_8 (by decide) ?_
      refine lv_icmp_ge (tgt := 81) hx hb dX3_playMarbles_10 (by decide) (fun c10 => ?_) (fun c10 => ?_)
      · have c10 : 36 ≤ i6 := (nq_le (a := 36) (b := i6) (by omega) (by omega)).mp c10
        omega
      · have c10 : ¬ 36 ≤ i6 := _root_.mt (nq_le (a := 36) (b := i6) (by omega) (by omega)).mpr c10
        refine lv_iload hx hb dX3_playMarbles_13 (lv_at hl 1 rfl) ?_
        refine lv_iconst (v := 1) hx hb dX3_playMarbles_15 (by decide) ?_
        refine lv_icmp_ge (tgt := 81) hx hb dX3_playMarbles_16 (by decide) (fun c16 => ?_) (fun c16 => ?_)
        · refine lv_iload hx hb dX3_playMarbles_81 (lv_at hl 1 rfl) ?_
          refine W.iret (v := (vplay (vput 1) a b i6)) hx hb hr (fun tt ht hW => ⟨(vplay (vput 1) a b i6), rfl, ?_, ht⟩) (fun _ h => nomatch h) dX3_playMarbles_83
          exact stop36 c16 (by omega)
        · refine lv_iload hx hb dX3_playMarbles_19 (lv_at hl 0 rfl) ?_
          refine vp_callSl (va_Run.run (va_runSN (As := [.int (nI i6)]) (rest := []) ⟨hx, hb, hml, hown, hts⟩ (c_X6_bitOf l (nI i6)) ⟨va_cnB 1 hts gX3_playMarbles_X6_bitOf_n54 rfl rfl rfl hnest54 hiniX6 (by decide +kernel) ⟨Nat.le_of_ble_eq_true rfl, Nat.le_of_ble_eq_true rfl⟩, hts _ (by decide +kernel), trivial⟩ ⟨px_blind0, fun U hU hW => ⟨rfl, trivial⟩⟩ rfl rfl hl.1 rfl (lv_room (Nat.le_of_ble_eq_true rfl)) dX3_playMarbles_21 ⟨(Nat.le_of_ble_eq_true rfl), (Nat.le_of_ble_eq_true rfl)⟩)) (fun r21 er21 => ?_)
          obtain rfl := er21.symm
          refine lv_lstore (lv' := [(8, .long (jshl 1 (nI i6))), (7, .int (nI i6)), (6, .int (vplay (vput 1) a b i6)), (0, .ref h0), (1, .long a), (3, .long b), (5, .int 2)]) hx hb dX3_playMarbles_24 hl (by decide) rfl (fun ls hl => ?_)
          refine lv_lload_n hx hb dX3_playMarbles_26 rfl (lv_at hl 4 rfl) ?_
          refine lv_lload_n hx hb dX3_playMarbles_27 rfl (lv_at hl 5 rfl) ?_
          refine lv_lor hx hb dX3_playMarbles_28 ?_
          refine lv_topl (fun x28 ex28 => ?_)
          refine lv_lload hx hb dX3_playMarbles_29 (lv_at hl 0 rfl) ?_
          refine lv_land hx hb dX3_playMarbles_31 ?_
          refine lv_topl (fun x31 ex31 => ?_)
          refine lv_lconst (v := 0) hx hb dX3_playMarbles_32 (by decide) ?_
          refine W.lcmp hx hb dX3_playMarbles_33 ?_
          refine lv_if_ne (tgt := 75) hx hb dX3_playMarbles_34 (by decide) (fun c34 => ?_) (fun c34 => ?_)
          · rw [lg_cmp_eq] at c34
            refine lv_iinc (v := nI (i6 + 1)) (lv' := [(7, .int (nI (i6 + 1))), (8, .long (jshl 1 (nI i6))), (6, .int (vplay (vput 1) a b i6)), (0, .ref h0), (1, .long a), (3, .long b), (5, .int 2)]) hx hb dX3_playMarbles_75 hl (k := 1) rfl (nI_add i6 1) (by decide) rfl (fun ls hl => ?_)
            refine lv_goto (tgt := 6) hx hb dX3_playMarbles_78 (by decide) ?_
            exact ih6 (i6 + 1) (by omega) ls (by { have e9 : ((vplay (vput 1) a b i6) : Int32) = (vplay (vput 1) a b (i6 + 1)) := by { obtain rfl := ex28.symm; obtain rfl := ex31.symm; exact vplay_a c16 c34 }; rw [← e9]; exact lv_sub hl [0, 2, 3, 4, 5, 6] rfl })
          · rw [lg_cmp_eq] at c34
            refine lv_lload_n hx hb dX3_playMarbles_37 rfl (lv_at hl 4 rfl) ?_
            refine lv_lload hx hb dX3_playMarbles_38 (lv_at hl 0 rfl) ?_
            refine lv_lor hx hb dX3_playMarbles_40 ?_
            refine lv_topl (fun x40 ex40 => ?_)
            refine vp_callSi (W.runS (As := [.long x40]) (rest := []) ⟨hx, hb, hml, hown, hts⟩ (c_X1_hasLine l x40) (va_cwS 1 hts gX3_playMarbles_X1_hasLine rfl rfl rfl (by decide +kernel) ⟨Nat.le_of_ble_eq_true rfl, Nat.le_of_ble_eq_true rfl⟩) ⟨px_blind0, fun U hU hW => ⟨rfl, trivial⟩⟩ rfl rfl hl.1 rfl (lv_room (Nat.le_of_ble_eq_true rfl)) dX3_playMarbles_41 ⟨(Nat.le_of_ble_eq_true rfl), (Nat.le_of_ble_eq_true rfl)⟩) (fun r41 er41 => ?_)
            obtain rfl := er41.symm
            refine pk_b (P := cline x40 = true) (fun b41 => ?_) (fun b41 => ?_)
            · refine lv_if_eq (tgt := 51) hx hb dX3_playMarbles_44 (by decide) (fun c44 => ?_) (fun c44 => ?_)
              · exact absurd c44 (by decide)
              · refine lv_iconst (v := 1) hx hb dX3_playMarbles_47 (by decide) ?_
                refine lv_goto (tgt := 64) hx hb dX3_playMarbles_48 (by decide) ?_
                refine lv_istore (lv' := [(10, .int 1), (8, .long (jshl 1 (nI i6))), (7, .int (nI i6)), (6, .int (vplay (vput 1) a b i6)), (0, .ref h0), (1, .long a), (3, .long b), (5, .int 2)]) hx hb dX3_playMarbles_64 hl (by decide) rfl (fun ls hl => ?_)
                refine lv_iload hx hb dX3_playMarbles_66 (lv_at hl 3 rfl) ?_
                refine lv_iload hx hb dX3_playMarbles_68 (lv_at hl 0 rfl) ?_
                refine va_mmax hx hb (by rw [hml]; exact hl.1.symm) hown hmx0 hmx1 hmx2 hmx3 (by decide) (Nat.le_of_ble_eq_true rfl) (Nat.le_of_ble_eq_true rfl) (Nat.le_of_ble_eq_true rfl) dX3_playMarbles_70 ?_
                refine lv_topi (fun x70 ex70 => ?_)
                refine lv_istore (lv' := [(6, .int x70), (10, .int 1), (8, .long (jshl 1 (nI i6))), (7, .int (nI i6)), (0, .ref h0), (1, .long a), (3, .long b), (5, .int 2)]) hx hb dX3_playMarbles_73 hl (by decide) rfl (fun ls hl => ?_)
                refine lv_iinc (v := nI (i6 + 1)) (lv' := [(7, .int (nI (i6 + 1))), (6, .int x70), (10, .int 1), (8, .long (jshl 1 (nI i6))), (0, .ref h0), (1, .long a), (3, .long b), (5, .int 2)]) hx hb dX3_playMarbles_75 hl (k := 3) rfl (nI_add i6 1) (by decide) rfl (fun ls hl => ?_)
                refine lv_goto (tgt := 6) hx hb dX3_playMarbles_78 (by decide) ?_
                exact ih6 (i6 + 1) (by omega) ls (by { have e9 : (x70 : Int32) = (vplay (vput 1) a b (i6 + 1)) := by { obtain rfl := ex28.symm; obtain rfl := ex31.symm; obtain rfl := ex40.symm; obtain rfl := ex70.symm; exact vplay_c c16 c34 (vcell_1 b41) }; rw [← e9]; exact lv_sub hl [0, 1, 4, 5, 6, 7] rfl })
            · refine lv_if_eq (tgt := 51) hx hb dX3_playMarbles_44 (by decide) (fun c44 => ?_) (fun c44 => ?_)
              · refine lv_aload_n hx hb dX3_playMarbles_51 rfl (lv_at hl 3 rfl) ?_
                refine lv_lload_n hx hb dX3_playMarbles_52 rfl (lv_at hl 4 rfl) ?_
                refine lv_lload hx hb dX3_playMarbles_53 (lv_at hl 0 rfl) ?_
                refine lv_lor hx hb dX3_playMarbles_55 ?_
                refine lv_topl (fun x55 ex55 => ?_)
                refine lv_lload_n hx hb dX3_playMarbles_56 rfl (lv_at hl 5 rfl) ?_
                refine lv_iload hx hb dX3_playMarbles_57 (lv_at hl 6 rfl) ?_
                refine lv_iconst (v := 1) hx hb dX3_playMarbles_59 (by decide) ?_
                refine lv_isub hx hb dX3_playMarbles_60 ?_
                refine pk_ti (y := nI 1) (by decide) ?_
                refine vp_callSi (W.runV (As := [.long x55, .long b, .int (nI 1)]) (rest := []) ⟨hx, hb, hml, hown, hts⟩ (c_X3_valueToTurn_p1 l D cI cJ h0 x55 b) (cwV 3 hts gX3_playMarbles_X3_valueToTurn rfl rfl rfl (by decide +kernel) ⟨Nat.le_of_ble_eq_true rfl, Nat.le_of_ble_eq_true rfl⟩) ⟨(px_blindE px_blindW), va_recv hK hP (ci := 1) (q0 := 0) rfl rfl, fun U hU hW => ⟨rfl, hEN.warm hW, by rw [hU]; exact hP.sub (ws' := [(h0, .inr (1, [.null]))]) [0] rfl, va_K.moved hW.alike hK⟩⟩ rfl rfl hl.1 rfl (lv_room (Nat.le_of_ble_eq_true rfl)) dX3_playMarbles_61 ⟨(Nat.le_of_ble_eq_true rfl), (Nat.le_of_ble_eq_true rfl)⟩) (fun r61 er61 => ?_)
                obtain rfl := er61.symm
                refine lv_istore (lv' := [(10, .int (vturn (vput 1) x55 b 8)), (8, .long (jshl 1 (nI i6))), (7, .int (nI i6)), (6, .int (vplay (vput 1) a b i6)), (0, .ref h0), (1, .long a), (3, .long b), (5, .int 2)]) hx hb dX3_playMarbles_64 hl (by decide) rfl (fun ls hl => ?_)
                refine lv_iload hx hb dX3_playMarbles_66 (lv_at hl 3 rfl) ?_
                refine lv_iload hx hb dX3_playMarbles_68 (lv_at hl 0 rfl) ?_
                refine va_mmax hx hb (by rw [hml]; exact hl.1.symm) hown hmx0 hmx1 hmx2 hmx3 (by decide) (Nat.le_of_ble_eq_true rfl) (Nat.le_of_ble_eq_true rfl) (Nat.le_of_ble_eq_true rfl) dX3_playMarbles_70 ?_
                refine lv_topi (fun x70 ex70 => ?_)
                refine lv_istore (lv' := [(6, .int x70), (10, .int (vturn (vput 1) x55 b 8)), (8, .long (jshl 1 (nI i6))), (7, .int (nI i6)), (0, .ref h0), (1, .long a), (3, .long b), (5, .int 2)]) hx hb dX3_playMarbles_73 hl (by decide) rfl (fun ls hl => ?_)
                refine lv_iinc (v := nI (i6 + 1)) (lv' := [(7, .int (nI (i6 + 1))), (6, .int x70), (10, .int (vturn (vput 1) x55 b 8)), (8, .long (jshl 1 (nI i6))), (0, .ref h0), (1, .long a), (3, .long b), (5, .int 2)]) hx hb dX3_playMarbles_75 hl (k := 3) rfl (nI_add i6 1) (by decide) rfl (fun ls hl => ?_)
                refine lv_goto (tgt := 6) hx hb dX3_playMarbles_78 (by decide) ?_
                exact ih6 (i6 + 1) (by omega) ls (by { have e9 : (x70 : Int32) = (vplay (vput 1) a b (i6 + 1)) := by { obtain rfl := ex28.symm; obtain rfl := ex31.symm; obtain rfl := ex40.symm; obtain rfl := ex55.symm; obtain rfl := ex70.symm; exact vplay_c c16 c34 (vcell_t b41) }; rw [← e9]; exact lv_sub hl [0, 1, 4, 5, 6, 7] rfl })
              · exact absurd c44 (by decide)
  exact loop6 36 0 (by omega) ls (lv_sub hl [0, 1, 2, 3, 4, 5] rfl)

set_option maxHeartbeats 400000 in
set_option maxRecDepth 100000 in
theorem c_X3_valueToPut_p2 (l : Launch) (D : va_G) (cI cJ : ClassId) (h0 : Nat) (a b : Int64)  : Met l yX3_valueToPut wsX3_valueToPut ({ frames := 9, cells := 0, slots := 0, locals := 259 } : Room) (va_Pc [.ref h0, .long a, .long b, .int 2] (px_E (px_W D [(h0, .inr (1, [.null]))] [(cI, .int), (cJ, .long)]))) (vp_Si (fun r => r = vput 2 a b)) 0 0 (fun _ => False) := by
  refine Met.ofW (cc := cX3_valueToPut) (maxL := 9) (ret := (some .int)) (by decide) rfl ?_
  intro p e s m args below meth c s₁ B hml hv
  obtain ⟨rfl, hEN, hP, hK⟩ := hv
  have hx := B.exec
  have hb := B.bytes
  have hr := B.returns
  have hts := atoms_spec (ws := wsX3_valueToPut) B.pre
  have hown : s.vm.findClass RX3 = some m.cls := findClass_of_methodNamed B.named
  have hlocks := B.notSynchronized
  have hinX3 : ∀ w ∈ wsX30, w ∈ wsX3_valueToPut := by decide +kernel
  have hfl9 : (Cond.fieldLink RX3 9 "Twistquad$Solver" "table" "LTwistquad$ValueTable;").before ([.ref h0, .long a, .long b, .int 2] : List Value).toArray s = true := hts _ (by decide +kernel)
  have hl := lv_entry ([.ref h0, .long a, .long b, .int 2]) (n := 9) (Nat.le_of_ble_eq_true rfl)
  rw [lg_entry_eq]
  generalize (lg_sl ([.ref h0, .long a, .long b, .int 2]) ++ List.replicate (9 - (lg_sl ([.ref h0, .long a, .long b, .int 2])).length) Slot.unset).toArray = ls at hl ⊢
  have hl : lv_has ls 9 [(0, .ref h0), (1, .long a), (3, .long b), (5, .int 2)] := hl
  refine lv_iload hx hb dX3_valueToPut_0 (lv_at hl 3 rfl) ?_
  refine lv_if_le (tgt := 11) hx hb dX3_valueToPut_2 (by decide) (fun c2 => ?_) (fun c2 => ?_)
  · exact absurd c2 (by decide)
  · refine lv_iload hx hb dX3_valueToPut_5 (lv_at hl 3 rfl) ?_
    refine lv_iconst (v := 3) hx hb dX3_valueToPut_7 (by decide) ?_
    refine lv_icmp_le (tgt := 13) hx hb dX3_valueToPut_8 (by decide) (fun c8 => ?_) (fun c8 => ?_)
    · refine lv_aload_n hx hb dX3_valueToPut_13 rfl (lv_at hl 0 rfl) ?_
      refine va_get (D := D) (ci := 1) (v := .null) (C := RX3) (T := TX3) (N := 1) hx hb hts hinX3 hown hK hP 0 rfl rfl 0 (by decide) hfl9 (fun _ h9 => h9) rfl dX3_valueToPut_14 ?_
      refine lv_ifnullN (tgt := 26) hx hb dX3_valueToPut_17 (by decide) ?_
      refine lv_aload_n hx hb dX3_valueToPut_26 rfl (lv_at hl 0 rfl) ?_
      refine lv_lload_n hx hb dX3_valueToPut_27 rfl (lv_at hl 1 rfl) ?_
      refine lv_lload_n hx hb dX3_valueToPut_28 rfl (lv_at hl 2 rfl) ?_
      refine lv_iload hx hb dX3_valueToPut_29 (lv_at hl 3 rfl) ?_
      refine vp_callSi (W.runV (As := [.long a, .long b, .int 2]) (rest := []) ⟨hx, hb, hml, hown, hts⟩ (c_X3_playMarbles_p2 l D cI cJ h0 a b) (cwV 3 hts gX3_valueToPut_X3_playMarbles rfl rfl rfl (by decide +kernel) ⟨Nat.le_of_ble_eq_true rfl, Nat.le_of_ble_eq_true rfl⟩) ⟨(px_blindE px_blindW), va_recv hK hP (ci := 1) (q0 := 0) rfl rfl, fun U hU hW => ⟨rfl, hEN.warm hW, by rw [hU]; exact hP.sub (ws' := [(h0, .inr (1, [.null]))]) [0] rfl, va_K.moved hW.alike hK⟩⟩ rfl rfl hl.1 rfl (lv_room (Nat.le_of_ble_eq_true rfl)) dX3_valueToPut_31 ⟨(Nat.le_of_ble_eq_true rfl), (Nat.le_of_ble_eq_true rfl)⟩) (fun r31 er31 => ?_)
      obtain rfl := er31.symm
      refine W.iret (v := (vput 2 a b)) hx hb hr (fun tt ht hW => ⟨(vput 2 a b), rfl, ?_, ht⟩) (fun _ h => nomatch h) dX3_valueToPut_34
      rfl
    · exact absurd c8 (by decide)

set_option maxHeartbeats 400000 in
set_option maxRecDepth 100000 in
theorem c_X3_valueBehindTurn_p2 (l : Launch) (D : va_G) (cI cJ : ClassId) (h0 : Nat) (a b : Int64) (tn : Nat) (htn : tn < 8) : Met l yX3_valueBehindTurn wsX3_valueBehindTurn ({ frames := 10, cells := 0, slots := 0, locals := 287 } : Room) (va_Pc [.ref h0, .long a, .long b, .int (nI tn), .int 2] (px_E (px_W D [(h0, .inr (1, [.null]))] [(cI, .int), (cJ, .long)]))) (vp_Si (fun r => r = vbehind (vput 2) a b tn)) 0 0 (fun _ => False) := by
  refine Met.ofW (cc := cX3_valueBehindTurn) (maxL := 13) (ret := (some .int)) (by decide) rfl ?_
  intro p e s m args below meth c s₁ B hml hv
  obtain ⟨rfl, hEN, hP, hK⟩ := hv
  have hx := B.exec
  have hb := B.bytes
  have hr := B.returns
  have hts := atoms_spec (ws := wsX3_valueBehindTurn) B.pre
  have hown : s.vm.findClass RX3 = some m.cls := findClass_of_methodNamed B.named
  have hlocks := B.notSynchronized
  have hl := lv_entry ([.ref h0, .long a, .long b, .int (nI tn), .int 2]) (n := 13) (Nat.le_of_ble_eq_true rfl)
  rw [lg_entry_eq]
  generalize (lg_sl ([.ref h0, .long a, .long b, .int (nI tn), .int 2]) ++ List.replicate (13 - (lg_sl ([.ref h0, .long a, .long b, .int (nI tn), .int 2])).length) Slot.unset).toArray = ls at hl ⊢
  have hl : lv_has ls 13 [(0, .ref h0), (1, .long a), (3, .long b), (5, .int (nI tn)), (6, .int 2)] := hl
  refine lv_lload_n hx hb dX3_valueBehindTurn_0 rfl (lv_at hl 1 rfl) ?_
  refine lv_iload hx hb dX3_valueBehindTurn_1 (lv_at hl 3 rfl) ?_
  refine vp_callSl (W.runS (As := [.long a, .int (nI tn)]) (rest := []) ⟨hx, hb, hml, hown, hts⟩ (c_X4_turned l a tn (by omega)) (va_cwS 2 hts gX3_valueBehindTurn_X4_turned rfl rfl rfl (by decide +kernel) ⟨Nat.le_of_ble_eq_true rfl, Nat.le_of_ble_eq_true rfl⟩) ⟨px_blind0, fun U hU hW => ⟨rfl, trivial⟩⟩ rfl rfl hl.1 rfl (lv_room (Nat.le_of_ble_eq_true rfl)) dX3_valueBehindTurn_3 ⟨(Nat.le_of_ble_eq_true rfl), (Nat.le_of_ble_eq_true rfl)⟩) (fun r3 er3 => ?_)
  obtain rfl := er3.symm
  refine lv_lstore (lv' := [(7, .long (cturned a tn)), (0, .ref h0), (1, .long a), (3, .long b), (5, .int (nI tn)), (6, .int 2)]) hx hb dX3_valueBehindTurn_6 hl (by decide) rfl (fun ls hl => ?_)
  refine lv_lload_n hx hb dX3_valueBehindTurn_8 rfl (lv_at hl 3 rfl) ?_
  refine lv_iload hx hb dX3_valueBehindTurn_9 (lv_at hl 4 rfl) ?_
  refine vp_callSl (W.runS (As := [.long b, .int (nI tn)]) (rest := []) ⟨hx, hb, hml, hown, hts⟩ (c_X4_turned l b tn (by omega)) (va_cwS 2 hts gX3_valueBehindTurn_X4_turned rfl rfl rfl (by decide +kernel) ⟨Nat.le_of_ble_eq_true rfl, Nat.le_of_ble_eq_true rfl⟩) ⟨px_blind0, fun U hU hW => ⟨rfl, trivial⟩⟩ rfl rfl hl.1 rfl (lv_room (Nat.le_of_ble_eq_true rfl)) dX3_valueBehindTurn_11 ⟨(Nat.le_of_ble_eq_true rfl), (Nat.le_of_ble_eq_true rfl)⟩) (fun r11 er11 => ?_)
  obtain rfl := er11.symm
  refine lv_lstore (lv' := [(9, .long (cturned b tn)), (7, .long (cturned a tn)), (0, .ref h0), (1, .long a), (3, .long b), (5, .int (nI tn)), (6, .int 2)]) hx hb dX3_valueBehindTurn_14 hl (by decide) rfl (fun ls hl => ?_)
  refine lv_lload hx hb dX3_valueBehindTurn_16 (lv_at hl 1 rfl) ?_
  refine vp_callSi (W.runS (As := [.long (cturned a tn)]) (rest := []) ⟨hx, hb, hml, hown, hts⟩ (c_X1_hasLine l (cturned a tn)) (va_cwS 1 hts gX3_valueBehindTurn_X1_hasLine rfl rfl rfl (by decide +kernel) ⟨Nat.le_of_ble_eq_true rfl, Nat.le_of_ble_eq_true rfl⟩) ⟨px_blind0, fun U hU hW => ⟨rfl, trivial⟩⟩ rfl rfl hl.1 rfl (lv_room (Nat.le_of_ble_eq_true rfl)) dX3_valueBehindTurn_18 ⟨(Nat.le_of_ble_eq_true rfl), (Nat.le_of_ble_eq_true rfl)⟩) (fun r18 er18 => ?_)
  obtain rfl := er18.symm
  refine pk_b (P := cline (cturned a tn) = true) (fun b18 => ?_) (fun b18 => ?_)
  · refine lv_istore (lv' := [(11, .int 1), (9, .long (cturned b tn)), (7, .long (cturned a tn)), (0, .ref h0), (1, .long a), (3, .long b), (5, .int (nI tn)), (6, .int 2)]) hx hb dX3_valueBehindTurn_21 hl (by decide) rfl (fun ls hl => ?_)
    refine lv_lload hx hb dX3_valueBehindTurn_23 (lv_at hl 1 rfl) ?_
    refine vp_callSi (W.runS (As := [.long (cturned b tn)]) (rest := []) ⟨hx, hb, hml, hown, hts⟩ (c_X1_hasLine l (cturned b tn)) (va_cwS 1 hts gX3_valueBehindTurn_X1_hasLine rfl rfl rfl (by decide +kernel) ⟨Nat.le_of_ble_eq_true rfl, Nat.le_of_ble_eq_true rfl⟩) ⟨px_blind0, fun U hU hW => ⟨rfl, trivial⟩⟩ rfl rfl hl.1 rfl (lv_room (Nat.le_of_ble_eq_true rfl)) dX3_valueBehindTurn_25 ⟨(Nat.le_of_ble_eq_true rfl), (Nat.le_of_ble_eq_true rfl)⟩) (fun r25 er25 => ?_)
    obtain rfl := er25.symm
    refine pk_b (P := cline (cturned b tn) = true) (fun b25 => ?_) (fun b25 => ?_)
    · refine lv_istore (lv' := [(12, .int 1), (11, .int 1), (9, .long (cturned b tn)), (7, .long (cturned a tn)), (0, .ref h0), (1, .long a), (3, .long b), (5, .int (nI tn)), (6, .int 2)]) hx hb dX3_valueBehindTurn_28 hl (by decide) rfl (fun ls hl => ?_)
      refine lv_iload hx hb dX3_valueBehindTurn_30 (lv_at hl 1 rfl) ?_
      refine lv_iload hx hb dX3_valueBehindTurn_32 (lv_at hl 0 rfl) ?_
      refine lv_icmp_eq (tgt := 48) hx hb dX3_valueBehindTurn_34 (by decide) (fun c34 => ?_) (fun c34 => ?_)
      · refine lv_iload hx hb dX3_valueBehindTurn_48 (lv_at hl 1 rfl) ?_
        refine lv_if_eq (tgt := 57) hx hb dX3_valueBehindTurn_50 (by decide) (fun c50 => ?_) (fun c50 => ?_)
        · exact absurd c50 (by decide)
        · refine lv_iconst (v := 0) hx hb dX3_valueBehindTurn_53 (by decide) ?_
          refine lv_goto (tgt := 68) hx hb dX3_valueBehindTurn_54 (by decide) ?_
          refine W.iret (v := 0) hx hb hr (fun tt ht hW => ⟨0, rfl, ?_, ht⟩) (fun _ h => nomatch h) dX3_valueBehindTurn_68
          skip; unfold vbehind; first | (rw [if_pos b18, if_pos b25]; done) | (rw [if_pos b18, if_neg b25]; done) | (rw [if_neg b18, if_pos b25]; done) | (rw [if_neg b18, if_neg b25]; done)
      · exact absurd c34 (by decide)
    · refine lv_istore (lv' := [(12, .int 0), (11, .int 1), (9, .long (cturned b tn)), (7, .long (cturned a tn)), (0, .ref h0), (1, .long a), (3, .long b), (5, .int (nI tn)), (6, .int 2)]) hx hb dX3_valueBehindTurn_28 hl (by decide) rfl (fun ls hl => ?_)
      refine lv_iload hx hb dX3_valueBehindTurn_30 (lv_at hl 1 rfl) ?_
      refine lv_iload hx hb dX3_valueBehindTurn_32 (lv_at hl 0 rfl) ?_
      refine lv_icmp_eq (tgt := 48) hx hb dX3_valueBehindTurn_34 (by decide) (fun c34 => ?_) (fun c34 => ?_)
      · exact absurd c34 (by decide)
      · refine lv_iload hx hb dX3_valueBehindTurn_37 (lv_at hl 1 rfl) ?_
        refine lv_if_eq (tgt := 46) hx hb dX3_valueBehindTurn_39 (by decide) (fun c39 => ?_) (fun c39 => ?_)
        · exact absurd c39 (by decide)
        · refine lv_iconst (v := 1) hx hb dX3_valueBehindTurn_42 (by decide) ?_
          refine lv_goto (tgt := 47) hx hb dX3_valueBehindTurn_43 (by decide) ?_
          refine W.iret (v := 1) hx hb hr (fun tt ht hW => ⟨1, rfl, ?_, ht⟩) (fun _ h => nomatch h) dX3_valueBehindTurn_47
          skip; unfold vbehind; first | (rw [if_pos b18, if_pos b25]; done) | (rw [if_pos b18, if_neg b25]; done) | (rw [if_neg b18, if_pos b25]; done) | (rw [if_neg b18, if_neg b25]; done)
  · refine lv_istore (lv' := [(11, .int 0), (9, .long (cturned b tn)), (7, .long (cturned a tn)), (0, .ref h0), (1, .long a), (3, .long b), (5, .int (nI tn)), (6, .int 2)]) hx hb dX3_valueBehindTurn_21 hl (by decide) rfl (fun ls hl => ?_)
    refine lv_lload hx hb dX3_valueBehindTurn_23 (lv_at hl 1 rfl) ?_
    refine vp_callSi (W.runS (As := [.long (cturned b tn)]) (rest := []) ⟨hx, hb, hml, hown, hts⟩ (c_X1_hasLine l (cturned b tn)) (va_cwS 1 hts gX3_valueBehindTurn_X1_hasLine rfl rfl rfl (by decide +kernel) ⟨Nat.le_of_ble_eq_true rfl, Nat.le_of_ble_eq_true rfl⟩) ⟨px_blind0, fun U hU hW => ⟨rfl, trivial⟩⟩ rfl rfl hl.1 rfl (lv_room (Nat.le_of_ble_eq_true rfl)) dX3_valueBehindTurn_25 ⟨(Nat.le_of_ble_eq_true rfl), (Nat.le_of_ble_eq_true rfl)⟩) (fun r25 er25 => ?_)
    obtain rfl := er25.symm
    refine pk_b (P := cline (cturned b tn) = true) (fun b25 => ?_) (fun b25 => ?_)
    · refine lv_istore (lv' := [(12, .int 1), (11, .int 0), (9, .long (cturned b tn)), (7, .long (cturned a tn)), (0, .ref h0), (1, .long a), (3, .long b), (5, .int (nI tn)), (6, .int 2)]) hx hb dX3_valueBehindTurn_28 hl (by decide) rfl (fun ls hl => ?_)
      refine lv_iload hx hb dX3_valueBehindTurn_30 (lv_at hl 1 rfl) ?_
      refine lv_iload hx hb dX3_valueBehindTurn_32 (lv_at hl 0 rfl) ?_
      refine lv_icmp_eq (tgt := 48) hx hb dX3_valueBehindTurn_34 (by decide) (fun c34 => ?_) (fun c34 => ?_)
      · exact absurd c34 (by decide)
      · refine lv_iload hx hb dX3_valueBehindTurn_37 (lv_at hl 1 rfl) ?_
        refine lv_if_eq (tgt := 46) hx hb dX3_valueBehindTurn_39 (by decide) (fun c39 => ?_) (fun c39 => ?_)
        · refine lv_iconst (v := (-1)) hx hb dX3_valueBehindTurn_46 (by decide) ?_
          refine W.iret (v := (-1)) hx hb hr (fun tt ht hW => ⟨(-1), rfl, ?_, ht⟩) (fun _ h => nomatch h) dX3_valueBehindTurn_47
          skip; unfold vbehind; first | (rw [if_pos b18, if_pos b25]; done) | (rw [if_pos b18, if_neg b25]; done) | (rw [if_neg b18, if_pos b25]; done) | (rw [if_neg b18, if_neg b25]; done)
        · exact absurd c39 (by decide)
    · refine lv_istore (lv' := [(12, .int 0), (11, .int 0), (9, .long (cturned b tn)), (7, .long (cturned a tn)), (0, .ref h0), (1, .long a), (3, .long b), (5, .int (nI tn)), (6, .int 2)]) hx hb dX3_valueBehindTurn_28 hl (by decide) rfl (fun ls hl => ?_)
      refine lv_iload hx hb dX3_valueBehindTurn_30 (lv_at hl 1 rfl) ?_
      refine lv_iload hx hb dX3_valueBehindTurn_32 (lv_at hl 0 rfl) ?_
      refine lv_icmp_eq (tgt := 48) hx hb dX3_valueBehindTurn_34 (by decide) (fun c34 => ?_) (fun c34 => ?_)
      · refine lv_iload hx hb dX3_valueBehindTurn_48 (lv_at hl 1 rfl) ?_
        refine lv_if_eq (tgt := 57) hx hb dX3_valueBehindTurn_50 (by decide) (fun c50 => ?_) (fun c50 => ?_)
        · refine lv_aload_n hx hb dX3_valueBehindTurn_57 rfl (lv_at hl 4 rfl) ?_
          refine lv_lload hx hb dX3_valueBehindTurn_58 (lv_at hl 2 rfl) ?_
          refine lv_lload hx hb dX3_valueBehindTurn_60 (lv_at hl 3 rfl) ?_
          refine lv_iload hx hb dX3_valueBehindTurn_62 (lv_at hl 8 rfl) ?_
          refine vp_callSi (W.runV (As := [.long (cturned b tn), .long (cturned a tn), .int 2]) (rest := []) ⟨hx, hb, hml, hown, hts⟩ (c_X3_valueToPut_p2 l D cI cJ h0 (cturned b tn) (cturned a tn)) (cwV 3 hts gX3_valueBehindTurn_X3_valueToPut rfl rfl rfl (by decide +kernel) ⟨Nat.le_of_ble_eq_true rfl, Nat.le_of_ble_eq_true rfl⟩) ⟨(px_blindE px_blindW), va_recv hK hP (ci := 1) (q0 := 0) rfl rfl, fun U hU hW => ⟨rfl, hEN.warm hW, by rw [hU]; exact hP.sub (ws' := [(h0, .inr (1, [.null]))]) [0] rfl, va_K.moved hW.alike hK⟩⟩ rfl rfl hl.1 rfl (lv_room (Nat.le_of_ble_eq_true rfl)) dX3_valueBehindTurn_64 ⟨(Nat.le_of_ble_eq_true rfl), (Nat.le_of_ble_eq_true rfl)⟩) (fun r64 er64 => ?_)
          obtain rfl := er64.symm
          refine lv_ineg hx hb dX3_valueBehindTurn_67 ?_
          refine lv_topi (fun x67 ex67 => ?_)
          refine W.iret (v := x67) hx hb hr (fun tt ht hW => ⟨x67, rfl, ?_, ht⟩) (fun _ h => nomatch h) dX3_valueBehindTurn_68
          obtain rfl := ex67.symm; unfold vbehind; first | (rw [if_pos b18, if_pos b25]; done) | (rw [if_pos b18, if_neg b25]; done) | (rw [if_neg b18, if_pos b25]; done) | (rw [if_neg b18, if_neg b25]; done)
        · exact absurd c50 (by decide)
      · exact absurd c34 (by decide)

set_option maxHeartbeats 400000 in
set_option maxRecDepth 100000 in
theorem c_X3_valueToTurn_p2 (l : Launch) (D : va_G) (cI cJ : ClassId) (h0 : Nat) (a b : Int64)  : Met l yX3_valueToTurn wsX3_valueToTurn ({ frames := 11, cells := 0, slots := 0, locals := 319 } : Room) (va_Pc [.ref h0, .long a, .long b, .int 2] (px_E (px_W D [(h0, .inr (1, [.null]))] [(cI, .int), (cJ, .long)]))) (vp_Si (fun r => r = vturn (vput 2) a b 8)) 0 0 (fun _ => False) := by
  refine Met.ofW (cc := cX3_valueToTurn) (maxL := 8) (ret := (some .int)) (by decide) rfl ?_
  intro p e s m args below meth c s₁ B hml hv
  obtain ⟨rfl, hEN, hP, hK⟩ := hv
  have hx := B.exec
  have hb := B.bytes
  have hr := B.returns
  have hts := atoms_spec (ws := wsX3_valueToTurn) B.pre
  have hown : s.vm.findClass RX3 = some m.cls := findClass_of_methodNamed B.named
  have hlocks := B.notSynchronized
  have hmx0 : (Cond.methodLink RX3 48 Lib.Math.max.name).before ([.ref h0, .long a, .long b, .int 2] : List Value).toArray s = true := hts _ (by decide +kernel)
  have hmx1 : (Cond.static Lib.Math.max.name).before ([.ref h0, .long a, .long b, .int 2] : List Value).toArray s = true := hts _ (by decide +kernel)
  have hmx2 : (Cond.initialized "java/lang/Math").before ([.ref h0, .long a, .long b, .int 2] : List Value).toArray s = true := hts _ (by decide +kernel)
  have hmx3 : (Cond.code Lib.Math.max.name Lib.Math.max.code 2 (some .int)).before ([.ref h0, .long a, .long b, .int 2] : List Value).toArray s = true := hts _ (by decide +kernel)
  have hl := lv_entry ([.ref h0, .long a, .long b, .int 2]) (n := 8) (Nat.le_of_ble_eq_true rfl)
  rw [lg_entry_eq]
  generalize (lg_sl ([.ref h0, .long a, .long b, .int 2]) ++ List.replicate (8 - (lg_sl ([.ref h0, .long a, .long b, .int 2])).length) Slot.unset).toArray = ls at hl ⊢
  have hl : lv_has ls 8 [(0, .ref h0), (1, .long a), (3, .long b), (5, .int 2)] := hl
  refine lv_iconst (v := (-1)) hx hb dX3_valueToTurn_0 (by decide) ?_
  refine lv_istore (lv' := [(6, .int (-1)), (0, .ref h0), (1, .long a), (3, .long b), (5, .int 2)]) hx hb dX3_valueToTurn_1 hl (by decide) rfl (fun ls hl => ?_)
  refine lv_iconst (v := 0) hx hb dX3_valueToTurn_3 (by decide) ?_
  refine lv_istore (lv' := [(7, .int 0), (6, .int (-1)), (0, .ref h0), (1, .long a), (3, .long b), (5, .int 2)]) hx hb dX3_valueToTurn_4 hl (by decide) rfl (fun ls hl => ?_)
  have loop6 : ∀ (nn i6 : Nat), i6 + nn = 8 → ∀ ls, lv_has ls 8 [(7, .int (nI i6)), (6, .int (vturn (vput 2) a b i6)), (0, .ref h0), (1, .long a), (3, .long b), (5, .int 2)] → W p l e (headSpec wsX3_valueToTurn ({ frames := 11, cells := 0, slots := 0, locals := 319 } : Room)).room s m ([.ref h0, .long a, .long b, .int 2] : List Value).toArray below meth c s.heap [] 0 0 (MQ below (vp_Si (fun r => r = vturn (vput 2) a b 8)) ([.ref h0, .long a, .long b, .int 2] : List Value).toArray s 0 0 (fun _ => False)) (F0 m 6 ls []) := by
    intro nn
    induction nn with
    | zero =>
      intro i6 hi6 ls hl
      obtain rfl : i6 = 8 := by omega
      refine lv_iload hx hb dX3_valueToTurn_6 (lv_at hl 0 rfl) ?_
      refine lv_bipush (v := 8) hx hb dX3_valueToTurn_8 (by decide) ?_
      refine lv_icmp_ge (tgt := 42) hx hb dX3_valueToTurn_10 (by decide) (fun c10 => ?_) (fun c10 => ?_)
      · have c10 : 8 ≤ 8 := (nq_le (a := 8) (b := 8) (by omega) (by omega)).mp c10
        refine lv_iload hx hb dX3_valueToTurn_42 (lv_at hl 1 rfl) ?_
        refine W.iret (v := (vturn (vput 2) a b 8)) hx hb hr (fun tt ht hW => ⟨(vturn (vput 2) a b 8), rfl, ?_, ht⟩) (fun _ h => nomatch h) dX3_valueToTurn_44
        exact rfl
      · have c10 : ¬ 8 ≤ 8 := _root_.mt (nq_le (a := 8) (b := 8) (by omega) (by omega)).mpr c10
        omega
    | succ nn ih6 =>
      intro i6 hi6 ls hl
      refine lv_iload hx hb dX3_valueToTurn_6 (lv_at hl 0 rfl) ?_
      refine lv_bipush (v := 8) hx hb dX3_valueToTurn_8 (by decide) ?_
      refine lv_icmp_ge (tgt := 42) hx hb dX3_valueToTurn_10 (by decide) (fun c10 => ?_) (fun c10 => ?_)
      · have c10 : 8 ≤ i6 := (nq_le (a := 8) (b := i6) (by omega) (by omega)).mp c10
        omega
      · have c10 : ¬ 8 ≤ i6 := _root_.mt (nq_le (a := 8) (b := i6) (by omega) (by omega)).mpr c10
        refine lv_iload hx hb dX3_valueToTurn_13 (lv_at hl 1 rfl) ?_
        refine lv_iconst (v := 1) hx hb dX3_valueToTurn_15 (by decide) ?_
        refine lv_icmp_ge (tgt := 42) hx hb dX3_valueToTurn_16 (by decide) (fun c16 => ?_) (fun c16 => ?_)
        · refine lv_iload hx hb dX3_valueToTurn_42 (lv_at hl 1 rfl) ?_
          refine W.iret (v := (vturn (vput 2) a b i6)) hx hb hr (fun tt ht hW => ⟨(vturn (vput 2) a b i6), rfl, ?_, ht⟩) (fun _ h => nomatch h) dX3_valueToTurn_44
          exact stop8 c16 (by omega)
        · refine lv_iload hx hb dX3_valueToTurn_19 (lv_at hl 1 rfl) ?_
          refine lv_aload_n hx hb dX3_valueToTurn_21 rfl (lv_at hl 2 rfl) ?_
          refine lv_lload_n hx hb dX3_valueToTurn_22 rfl (lv_at hl 3 rfl) ?_
          refine lv_lload_n hx hb dX3_valueToTurn_23 rfl (lv_at hl 4 rfl) ?_
          refine lv_iload hx hb dX3_valueToTurn_24 (lv_at hl 0 rfl) ?_
          refine lv_iload hx hb dX3_valueToTurn_26 (lv_at hl 5 rfl) ?_
          refine vp_callSi (W.runV (As := [.long a, .long b, .int (nI i6), .int 2]) (rest := [.int (vturn (vput 2) a b i6)]) ⟨hx, hb, hml, hown, hts⟩ (c_X3_valueBehindTurn_p2 l D cI cJ h0 a b i6 (by omega)) (cwV 4 hts gX3_valueToTurn_X3_valueBehindTurn rfl rfl rfl (by decide +kernel) ⟨Nat.le_of_ble_eq_true rfl, Nat.le_of_ble_eq_true rfl⟩) ⟨(px_blindE px_blindW), va_recv hK hP (ci := 1) (q0 := 0) rfl rfl, fun U hU hW => ⟨rfl, hEN.warm hW, by rw [hU]; exact hP.sub (ws' := [(h0, .inr (1, [.null]))]) [0] rfl, va_K.moved hW.alike hK⟩⟩ rfl rfl hl.1 rfl (lv_room (Nat.le_of_ble_eq_true rfl)) dX3_valueToTurn_28 ⟨(Nat.le_of_ble_eq_true rfl), (Nat.le_of_ble_eq_true rfl)⟩) (fun r28 er28 => ?_)
          obtain rfl := er28.symm
          refine va_mmax hx hb (by rw [hml]; exact hl.1.symm) hown hmx0 hmx1 hmx2 hmx3 (by decide) (Nat.le_of_ble_eq_true rfl) (Nat.le_of_ble_eq_true rfl) (Nat.le_of_ble_eq_true rfl) dX3_valueToTurn_31 ?_
          refine lv_topi (fun x31 ex31 => ?_)
          refine lv_istore (lv' := [(6, .int x31), (7, .int (nI i6)), (0, .ref h0), (1, .long a), (3, .long b), (5, .int 2)]) hx hb dX3_valueToTurn_34 hl (by decide) rfl (fun ls hl => ?_)
          refine lv_iinc (v := nI (i6 + 1)) (lv' := [(7, .int (nI (i6 + 1))), (6, .int x31), (0, .ref h0), (1, .long a), (3, .long b), (5, .int 2)]) hx hb dX3_valueToTurn_36 hl (k := 1) rfl (nI_add i6 1) (by decide) rfl (fun ls hl => ?_)
          refine lv_goto (tgt := 6) hx hb dX3_valueToTurn_39 (by decide) ?_
          exact ih6 (i6 + 1) (by omega) ls (by { have e9 : (x31 : Int32) = (vturn (vput 2) a b (i6 + 1)) := by { obtain rfl := ex31.symm; exact vturn_s c16 }; rw [← e9]; exact lv_sub hl [0, 1, 2, 3, 4, 5] rfl })
  exact loop6 8 0 (by omega) ls (lv_sub hl [0, 1, 2, 3, 4, 5] rfl)

set_option maxHeartbeats 400000 in
set_option maxRecDepth 100000 in
theorem c_X3_playMarbles_p3 (l : Launch) (D : va_G) (cI cJ : ClassId) (h0 : Nat) (a b : Int64)  : Met l yX3_playMarbles wsX3_playMarbles ({ frames := 12, cells := 0, slots := 0, locals := 346 } : Room) (va_Pc [.ref h0, .long a, .long b, .int 3] (px_E (px_W D [(h0, .inr (1, [.null]))] [(cI, .int), (cJ, .long)]))) (vp_Si (fun r => r = vput 3 a b)) 0 0 (fun _ => False) := by
  refine Met.ofW (cc := cX3_playMarbles) (maxL := 11) (ret := (some .int)) (by decide) rfl ?_
  intro p e s m args below meth c s₁ B hml hv
  obtain ⟨rfl, hEN, hP, hK⟩ := hv
  have hx := B.exec
  have hb := B.bytes
  have hr := B.returns
  have hts := atoms_spec (ws := wsX3_playMarbles) B.pre
  have hown : s.vm.findClass RX3 = some m.cls := findClass_of_methodNamed B.named
  have hlocks := B.notSynchronized
  have hnest54 : va_Nw (.methodLinkNest RX3 54 yX6_bitOf RX6) s := hEN.1
  have hiniX6 : (Cond.initialized (yX6_bitOf).cls).before ([.ref h0, .long a, .long b, .int 3] : List Value).toArray s = true := hts (.initialized RX6) (by decide +kernel)
  have hmx0 : (Cond.methodLink RX3 48 Lib.Math.max.name).before ([.ref h0, .long a, .long b, .int 3] : List Value).toArray s = true := hts _ (by decide +kernel)
  have hmx1 : (Cond.static Lib.Math.max.name).before ([.ref h0, .long a, .long b, .int 3] : List Value).toArray s = true := hts _ (by decide +kernel)
  have hmx2 : (Cond.initialized "java/lang/Math").before ([.ref h0, .long a, .long b, .int 3] : List Value).toArray s = true := hts _ (by decide +kernel)
  have hmx3 : (Cond.code Lib.Math.max.name Lib.Math.max.code 2 (some .int)).before ([.ref h0, .long a, .long b, .int 3] : List Value).toArray s = true := hts _ (by decide +kernel)
  have hl := lv_entry ([.ref h0, .long a, .long b, .int 3]) (n := 11) (Nat.le_of_ble_eq_true rfl)
  rw [lg_entry_eq]
  generalize (lg_sl ([.ref h0, .long a, .long b, .int 3]) ++ List.replicate (11 - (lg_sl ([.ref h0, .long a, .long b, .int 3])).length) Slot.unset).toArray = ls at hl ⊢
  have hl : lv_has ls 11 [(0, .ref h0), (1, .long a), (3, .long b), (5, .int 3)] := hl
  refine lv_iconst (v := (-1)) hx hb dX3_playMarbles_0 (by decide) ?_
  refine lv_istore (lv' := [(6, .int (-1)), (0, .ref h0), (1, .long a), (3, .long b), (5, .int 3)]) hx hb dX3_playMarbles_1 hl (by decide) rfl (fun ls hl => ?_)
  refine lv_iconst (v := 0) hx hb dX3_playMarbles_3 (by decide) ?_
  refine lv_istore (lv' := [(7, .int 0), (6, .int (-1)), (0, .ref h0), (1, .long a), (3, .long b), (5, .int 3)]) hx hb dX3_playMarbles_4 hl (by decide) rfl (fun ls hl => ?_)
  have loop6 : ∀ (nn i6 : Nat), i6 + nn = 36 → ∀ ls, lv_has ls 11 [(7, .int (nI i6)), (6, .int (vplay (vput 2) a b i6)), (0, .ref h0), (1, .long a), (3, .long b), (5, .int 3)] → W p l e (headSpec wsX3_playMarbles ({ frames := 12, cells := 0, slots := 0, locals := 346 } : Room)).room s m ([.ref h0, .long a, .long b, .int 3] : List Value).toArray below meth c s.heap [] 0 0 (MQ below (vp_Si (fun r => r = vput 3 a b)) ([.ref h0, .long a, .long b, .int 3] : List Value).toArray s 0 0 (fun _ => False)) (F0 m 6 ls []) := by
    intro nn
    induction nn with
    | zero =>
      intro i6 hi6 ls hl
      obtain rfl : i6 = 36 := by omega
      refine lv_iload hx hb dX3_playMarbles_6 (lv_at hl 0 rfl) ?_
      refine lv_bipush (v := 36) hx hb dX3_playMarbles_8 (by decide) ?_
      refine lv_icmp_ge (tgt := 81) hx hb dX3_playMarbles_10 (by decide) (fun c10 => ?_) (fun c10 => ?_)
      · have c10 : 36 ≤ 36 := (nq_le (a := 36) (b := 36) (by omega) (by omega)).mp c10
        refine lv_iload hx hb dX3_playMarbles_81 (lv_at hl 1 rfl) ?_
        refine W.iret (v := (vplay (vput 2) a b 36)) hx hb hr (fun tt ht hW => ⟨(vplay (vput 2) a b 36), rfl, ?_, ht⟩) (fun _ h => nomatch h) dX3_playMarbles_83
        exact rfl
      · have c10 : ¬ 36 ≤ 36 := _root_.mt (nq_le (a := 36) (b := 36) (by omega) (by omega)).mpr c10
        omega
    | succ nn ih6 =>
      intro i6 hi6 ls hl
      refine lv_iload hx hb dX3_playMarbles_6 (lv_at hl 0 rfl) ?_
      refine lv_bipush (v := 36) hx hb dX3_playMarbles_8 (by decide) ?_
      refine lv_icmp_ge (tgt := 81) hx hb dX3_playMarbles_10 (by decide) (fun c10 => ?_) (fun c10 => ?_)
      · have c10 : 36 ≤ i6 := (nq_le (a := 36) (b := i6) (by omega) (by omega)).mp c10
        omega
      · have c10 : ¬ 36 ≤ i6 := _root_.mt (nq_le (a := 36) (b := i6) (by omega) (by omega)).mpr c10
        refine lv_iload hx hb dX3_playMarbles_13 (lv_at hl 1 rfl) ?_
        refine lv_iconst (v := 1) hx hb dX3_playMarbles_15 (by decide) ?_
        refine lv_icmp_ge (tgt := 81) hx hb dX3_playMarbles_16 (by decide) (fun c16 => ?_) (fun c16 => ?_)
        · refine lv_iload hx hb dX3_playMarbles_81 (lv_at hl 1 rfl) ?_
          refine W.iret (v := (vplay (vput 2) a b i6)) hx hb hr (fun tt ht hW => ⟨(vplay (vput 2) a b i6), rfl, ?_, ht⟩) (fun _ h => nomatch h) dX3_playMarbles_83
          exact stop36 c16 (by omega)
        · refine lv_iload hx hb dX3_playMarbles_19 (lv_at hl 0 rfl) ?_
          refine vp_callSl (va_Run.run (va_runSN (As := [.int (nI i6)]) (rest := []) ⟨hx, hb, hml, hown, hts⟩ (c_X6_bitOf l (nI i6)) ⟨va_cnB 1 hts gX3_playMarbles_X6_bitOf_n54 rfl rfl rfl hnest54 hiniX6 (by decide +kernel) ⟨Nat.le_of_ble_eq_true rfl, Nat.le_of_ble_eq_true rfl⟩, hts _ (by decide +kernel), trivial⟩ ⟨px_blind0, fun U hU hW => ⟨rfl, trivial⟩⟩ rfl rfl hl.1 rfl (lv_room (Nat.le_of_ble_eq_true rfl)) dX3_playMarbles_21 ⟨(Nat.le_of_ble_eq_true rfl), (Nat.le_of_ble_eq_true rfl)⟩)) (fun r21 er21 => ?_)
          obtain rfl := er21.symm
          refine lv_lstore (lv' := [(8, .long (jshl 1 (nI i6))), (7, .int (nI i6)), (6, .int (vplay (vput 2) a b i6)), (0, .ref h0), (1, .long a), (3, .long b), (5, .int 3)]) hx hb dX3_playMarbles_24 hl (by decide) rfl (fun ls hl => ?_)
          refine lv_lload_n hx hb dX3_playMarbles_26 rfl (lv_at hl 4 rfl) ?_
          refine lv_lload_n hx hb dX3_playMarbles_27 rfl (lv_at hl 5 rfl) ?_
          refine lv_lor hx hb dX3_playMarbles_28 ?_
          refine lv_topl (fun x28 ex28 => ?_)
          refine lv_lload hx hb dX3_playMarbles_29 (lv_at hl 0 rfl) ?_
          refine lv_land hx hb dX3_playMarbles_31 ?_
          refine lv_topl (fun x31 ex31 => ?_)
          refine lv_lconst (v := 0) hx hb dX3_playMarbles_32 (by decide) ?_
          refine W.lcmp hx hb dX3_playMarbles_33 ?_
          refine lv_if_ne (tgt := 75) hx hb dX3_playMarbles_34 (by decide) (fun c34 => ?_) (fun c34 => ?_)
          · rw [lg_cmp_eq] at c34
            refine lv_iinc (v := nI (i6 + 1)) (lv' := [(7, .int (nI (i6 + 1))), (8, .long (jshl 1 (nI i6))), (6, .int (vplay (vput 2) a b i6)), (0, .ref h0), (1, .long a), (3, .long b), (5, .int 3)]) hx hb dX3_playMarbles_75 hl (k := 1) rfl (nI_add i6 1) (by decide) rfl (fun ls hl => ?_)
            refine lv_goto (tgt := 6) hx hb dX3_playMarbles_78 (by decide) ?_
            exact ih6 (i6 + 1) (by omega) ls (by { have e9 : ((vplay (vput 2) a b i6) : Int32) = (vplay (vput 2) a b (i6 + 1)) := by { obtain rfl := ex28.symm; obtain rfl := ex31.symm; exact vplay_a c16 c34 }; rw [← e9]; exact lv_sub hl [0, 2, 3, 4, 5, 6] rfl })
          · rw [lg_cmp_eq] at c34
            refine lv_lload_n hx hb dX3_playMarbles_37 rfl (lv_at hl 4 rfl) ?_
            refine lv_lload hx hb dX3_playMarbles_38 (lv_at hl 0 rfl) ?_
            refine lv_lor hx hb dX3_playMarbles_40 ?_
            refine lv_topl (fun x40 ex40 => ?_)
            refine vp_callSi (W.runS (As := [.long x40]) (rest := []) ⟨hx, hb, hml, hown, hts⟩ (c_X1_hasLine l x40) (va_cwS 1 hts gX3_playMarbles_X1_hasLine rfl rfl rfl (by decide +kernel) ⟨Nat.le_of_ble_eq_true rfl, Nat.le_of_ble_eq_true rfl⟩) ⟨px_blind0, fun U hU hW => ⟨rfl, trivial⟩⟩ rfl rfl hl.1 rfl (lv_room (Nat.le_of_ble_eq_true rfl)) dX3_playMarbles_41 ⟨(Nat.le_of_ble_eq_true rfl), (Nat.le_of_ble_eq_true rfl)⟩) (fun r41 er41 => ?_)
            obtain rfl := er41.symm
            refine pk_b (P := cline x40 = true) (fun b41 => ?_) (fun b41 => ?_)
            · refine lv_if_eq (tgt := 51) hx hb dX3_playMarbles_44 (by decide) (fun c44 => ?_) (fun c44 => ?_)
              · exact absurd c44 (by decide)
              · refine lv_iconst (v := 1) hx hb dX3_playMarbles_47 (by decide) ?_
                refine lv_goto (tgt := 64) hx hb dX3_playMarbles_48 (by decide) ?_
                refine lv_istore (lv' := [(10, .int 1), (8, .long (jshl 1 (nI i6))), (7, .int (nI i6)), (6, .int (vplay (vput 2) a b i6)), (0, .ref h0), (1, .long a), (3, .long b), (5, .int 3)]) hx hb dX3_playMarbles_64 hl (by decide) rfl (fun ls hl => ?_)
                refine lv_iload hx hb dX3_playMarbles_66 (lv_at hl 3 rfl) ?_
                refine lv_iload hx hb dX3_playMarbles_68 (lv_at hl 0 rfl) ?_
                refine va_mmax hx hb (by rw [hml]; exact hl.1.symm) hown hmx0 hmx1 hmx2 hmx3 (by decide) (Nat.le_of_ble_eq_true rfl) (Nat.le_of_ble_eq_true rfl) (Nat.le_of_ble_eq_true rfl) dX3_playMarbles_70 ?_
                refine lv_topi (fun x70 ex70 => ?_)
                refine lv_istore (lv' := [(6, .int x70), (10, .int 1), (8, .long (jshl 1 (nI i6))), (7, .int (nI i6)), (0, .ref h0), (1, .long a), (3, .long b), (5, .int 3)]) hx hb dX3_playMarbles_73 hl (by decide) rfl (fun ls hl => ?_)
                refine lv_iinc (v := nI (i6 + 1)) (lv' := [(7, .int (nI (i6 + 1))), (6, .int x70), (10, .int 1), (8, .long (jshl 1 (nI i6))), (0, .ref h0), (1, .long a), (3, .long b), (5, .int 3)]) hx hb dX3_playMarbles_75 hl (k := 3) rfl (nI_add i6 1) (by decide) rfl (fun ls hl => ?_)
                refine lv_goto (tgt := 6) hx hb dX3_playMarbles_78 (by decide) ?_
                exact ih6 (i6 + 1) (by omega) ls (by { have e9 : (x70 : Int32) = (vplay (vput 2) a b (i6 + 1)) := by { obtain rfl := ex28.symm; obtain rfl := ex31.symm; obtain rfl := ex40.symm; obtain rfl := ex70.symm; exact vplay_c c16 c34 (vcell_1 b41) }; rw [← e9]; exact lv_sub hl [0, 1, 4, 5, 6, 7] rfl })
            · refine lv_if_eq (tgt := 51) hx hb dX3_playMarbles_44 (by decide) (fun c44 => ?_) (fun c44 => ?_)
              · refine lv_aload_n hx hb dX3_playMarbles_51 rfl (lv_at hl 3 rfl) ?_
                refine lv_lload_n hx hb dX3_playMarbles_52 rfl (lv_at hl 4 rfl) ?_
                refine lv_lload hx hb dX3_playMarbles_53 (lv_at hl 0 rfl) ?_
                refine lv_lor hx hb dX3_playMarbles_55 ?_
                refine lv_topl (fun x55 ex55 => ?_)
                refine lv_lload_n hx hb dX3_playMarbles_56 rfl (lv_at hl 5 rfl) ?_
                refine lv_iload hx hb dX3_playMarbles_57 (lv_at hl 6 rfl) ?_
                refine lv_iconst (v := 1) hx hb dX3_playMarbles_59 (by decide) ?_
                refine lv_isub hx hb dX3_playMarbles_60 ?_
                refine pk_ti (y := nI 2) (by decide) ?_
                refine vp_callSi (W.runV (As := [.long x55, .long b, .int (nI 2)]) (rest := []) ⟨hx, hb, hml, hown, hts⟩ (c_X3_valueToTurn_p2 l D cI cJ h0 x55 b) (cwV 3 hts gX3_playMarbles_X3_valueToTurn rfl rfl rfl (by decide +kernel) ⟨Nat.le_of_ble_eq_true rfl, Nat.le_of_ble_eq_true rfl⟩) ⟨(px_blindE px_blindW), va_recv hK hP (ci := 1) (q0 := 0) rfl rfl, fun U hU hW => ⟨rfl, hEN.warm hW, by rw [hU]; exact hP.sub (ws' := [(h0, .inr (1, [.null]))]) [0] rfl, va_K.moved hW.alike hK⟩⟩ rfl rfl hl.1 rfl (lv_room (Nat.le_of_ble_eq_true rfl)) dX3_playMarbles_61 ⟨(Nat.le_of_ble_eq_true rfl), (Nat.le_of_ble_eq_true rfl)⟩) (fun r61 er61 => ?_)
                obtain rfl := er61.symm
                refine lv_istore (lv' := [(10, .int (vturn (vput 2) x55 b 8)), (8, .long (jshl 1 (nI i6))), (7, .int (nI i6)), (6, .int (vplay (vput 2) a b i6)), (0, .ref h0), (1, .long a), (3, .long b), (5, .int 3)]) hx hb dX3_playMarbles_64 hl (by decide) rfl (fun ls hl => ?_)
                refine lv_iload hx hb dX3_playMarbles_66 (lv_at hl 3 rfl) ?_
                refine lv_iload hx hb dX3_playMarbles_68 (lv_at hl 0 rfl) ?_
                refine va_mmax hx hb (by rw [hml]; exact hl.1.symm) hown hmx0 hmx1 hmx2 hmx3 (by decide) (Nat.le_of_ble_eq_true rfl) (Nat.le_of_ble_eq_true rfl) (Nat.le_of_ble_eq_true rfl) dX3_playMarbles_70 ?_
                refine lv_topi (fun x70 ex70 => ?_)
                refine lv_istore (lv' := [(6, .int x70), (10, .int (vturn (vput 2) x55 b 8)), (8, .long (jshl 1 (nI i6))), (7, .int (nI i6)), (0, .ref h0), (1, .long a), (3, .long b), (5, .int 3)]) hx hb dX3_playMarbles_73 hl (by decide) rfl (fun ls hl => ?_)
                refine lv_iinc (v := nI (i6 + 1)) (lv' := [(7, .int (nI (i6 + 1))), (6, .int x70), (10, .int (vturn (vput 2) x55 b 8)), (8, .long (jshl 1 (nI i6))), (0, .ref h0), (1, .long a), (3, .long b), (5, .int 3)]) hx hb dX3_playMarbles_75 hl (k := 3) rfl (nI_add i6 1) (by decide) rfl (fun ls hl => ?_)
                refine lv_goto (tgt := 6) hx hb dX3_playMarbles_78 (by decide) ?_
                exact ih6 (i6 + 1) (by omega) ls (by { have e9 : (x70 : Int32) = (vplay (vput 2) a b (i6 + 1)) := by { obtain rfl := ex28.symm; obtain rfl := ex31.symm; obtain rfl := ex40.symm; obtain rfl := ex55.symm; obtain rfl := ex70.symm; exact vplay_c c16 c34 (vcell_t b41) }; rw [← e9]; exact lv_sub hl [0, 1, 4, 5, 6, 7] rfl })
              · exact absurd c44 (by decide)
  exact loop6 36 0 (by omega) ls (lv_sub hl [0, 1, 2, 3, 4, 5] rfl)

set_option maxHeartbeats 400000 in
set_option maxRecDepth 100000 in
theorem c_X3_valueToPut_p3 (l : Launch) (D : va_G) (cI cJ : ClassId) (h0 : Nat) (a b : Int64)  : Met l yX3_valueToPut wsX3_valueToPut ({ frames := 13, cells := 0, slots := 0, locals := 376 } : Room) (va_Pc [.ref h0, .long a, .long b, .int 3] (px_E (px_W D [(h0, .inr (1, [.null]))] [(cI, .int), (cJ, .long)]))) (vp_Si (fun r => r = vput 3 a b)) 0 0 (fun _ => False) := by
  refine Met.ofW (cc := cX3_valueToPut) (maxL := 9) (ret := (some .int)) (by decide) rfl ?_
  intro p e s m args below meth c s₁ B hml hv
  obtain ⟨rfl, hEN, hP, hK⟩ := hv
  have hx := B.exec
  have hb := B.bytes
  have hr := B.returns
  have hts := atoms_spec (ws := wsX3_valueToPut) B.pre
  have hown : s.vm.findClass RX3 = some m.cls := findClass_of_methodNamed B.named
  have hlocks := B.notSynchronized
  have hinX3 : ∀ w ∈ wsX30, w ∈ wsX3_valueToPut := by decide +kernel
  have hfl9 : (Cond.fieldLink RX3 9 "Twistquad$Solver" "table" "LTwistquad$ValueTable;").before ([.ref h0, .long a, .long b, .int 3] : List Value).toArray s = true := hts _ (by decide +kernel)
  have hl := lv_entry ([.ref h0, .long a, .long b, .int 3]) (n := 9) (Nat.le_of_ble_eq_true rfl)
  rw [lg_entry_eq]
  generalize (lg_sl ([.ref h0, .long a, .long b, .int 3]) ++ List.replicate (9 - (lg_sl ([.ref h0, .long a, .long b, .int 3])).length) Slot.unset).toArray = ls at hl ⊢
  have hl : lv_has ls 9 [(0, .ref h0), (1, .long a), (3, .long b), (5, .int 3)] := hl
  refine lv_iload hx hb dX3_valueToPut_0 (lv_at hl 3 rfl) ?_
  refine lv_if_le (tgt := 11) hx hb dX3_valueToPut_2 (by decide) (fun c2 => ?_) (fun c2 => ?_)
  · exact absurd c2 (by decide)
  · refine lv_iload hx hb dX3_valueToPut_5 (lv_at hl 3 rfl) ?_
    refine lv_iconst (v := 3) hx hb dX3_valueToPut_7 (by decide) ?_
    refine lv_icmp_le (tgt := 13) hx hb dX3_valueToPut_8 (by decide) (fun c8 => ?_) (fun c8 => ?_)
    · refine lv_aload_n hx hb dX3_valueToPut_13 rfl (lv_at hl 0 rfl) ?_
      refine va_get (D := D) (ci := 1) (v := .null) (C := RX3) (T := TX3) (N := 1) hx hb hts hinX3 hown hK hP 0 rfl rfl 0 (by decide) hfl9 (fun _ h9 => h9) rfl dX3_valueToPut_14 ?_
      refine lv_ifnullN (tgt := 26) hx hb dX3_valueToPut_17 (by decide) ?_
      refine lv_aload_n hx hb dX3_valueToPut_26 rfl (lv_at hl 0 rfl) ?_
      refine lv_lload_n hx hb dX3_valueToPut_27 rfl (lv_at hl 1 rfl) ?_
      refine lv_lload_n hx hb dX3_valueToPut_28 rfl (lv_at hl 2 rfl) ?_
      refine lv_iload hx hb dX3_valueToPut_29 (lv_at hl 3 rfl) ?_
      refine vp_callSi (W.runV (As := [.long a, .long b, .int 3]) (rest := []) ⟨hx, hb, hml, hown, hts⟩ (c_X3_playMarbles_p3 l D cI cJ h0 a b) (cwV 3 hts gX3_valueToPut_X3_playMarbles rfl rfl rfl (by decide +kernel) ⟨Nat.le_of_ble_eq_true rfl, Nat.le_of_ble_eq_true rfl⟩) ⟨(px_blindE px_blindW), va_recv hK hP (ci := 1) (q0 := 0) rfl rfl, fun U hU hW => ⟨rfl, hEN.warm hW, by rw [hU]; exact hP.sub (ws' := [(h0, .inr (1, [.null]))]) [0] rfl, va_K.moved hW.alike hK⟩⟩ rfl rfl hl.1 rfl (lv_room (Nat.le_of_ble_eq_true rfl)) dX3_valueToPut_31 ⟨(Nat.le_of_ble_eq_true rfl), (Nat.le_of_ble_eq_true rfl)⟩) (fun r31 er31 => ?_)
      obtain rfl := er31.symm
      refine W.iret (v := (vput 3 a b)) hx hb hr (fun tt ht hW => ⟨(vput 3 a b), rfl, ?_, ht⟩) (fun _ h => nomatch h) dX3_valueToPut_34
      rfl
    · exact absurd c8 (by decide)

set_option maxHeartbeats 400000 in
set_option maxRecDepth 100000 in
theorem c_X3_valueBehindTurn_p3 (l : Launch) (D : va_G) (cI cJ : ClassId) (h0 : Nat) (a b : Int64) (tn : Nat) (htn : tn < 8) : Met l yX3_valueBehindTurn wsX3_valueBehindTurn ({ frames := 14, cells := 0, slots := 0, locals := 404 } : Room) (va_Pc [.ref h0, .long a, .long b, .int (nI tn), .int 3] (px_E (px_W D [(h0, .inr (1, [.null]))] [(cI, .int), (cJ, .long)]))) (vp_Si (fun r => r = vbehind (vput 3) a b tn)) 0 0 (fun _ => False) := by
  refine Met.ofW (cc := cX3_valueBehindTurn) (maxL := 13) (ret := (some .int)) (by decide) rfl ?_
  intro p e s m args below meth c s₁ B hml hv
  obtain ⟨rfl, hEN, hP, hK⟩ := hv
  have hx := B.exec
  have hb := B.bytes
  have hr := B.returns
  have hts := atoms_spec (ws := wsX3_valueBehindTurn) B.pre
  have hown : s.vm.findClass RX3 = some m.cls := findClass_of_methodNamed B.named
  have hlocks := B.notSynchronized
  have hl := lv_entry ([.ref h0, .long a, .long b, .int (nI tn), .int 3]) (n := 13) (Nat.le_of_ble_eq_true rfl)
  rw [lg_entry_eq]
  generalize (lg_sl ([.ref h0, .long a, .long b, .int (nI tn), .int 3]) ++ List.replicate (13 - (lg_sl ([.ref h0, .long a, .long b, .int (nI tn), .int 3])).length) Slot.unset).toArray = ls at hl ⊢
  have hl : lv_has ls 13 [(0, .ref h0), (1, .long a), (3, .long b), (5, .int (nI tn)), (6, .int 3)] := hl
  refine lv_lload_n hx hb dX3_valueBehindTurn_0 rfl (lv_at hl 1 rfl) ?_
  refine lv_iload hx hb dX3_valueBehindTurn_1 (lv_at hl 3 rfl) ?_
  refine vp_callSl (W.runS (As := [.long a, .int (nI tn)]) (rest := []) ⟨hx, hb, hml, hown, hts⟩ (c_X4_turned l a tn (by omega)) (va_cwS 2 hts gX3_valueBehindTurn_X4_turned rfl rfl rfl (by decide +kernel) ⟨Nat.le_of_ble_eq_true rfl, Nat.le_of_ble_eq_true rfl⟩) ⟨px_blind0, fun U hU hW => ⟨rfl, trivial⟩⟩ rfl rfl hl.1 rfl (lv_room (Nat.le_of_ble_eq_true rfl)) dX3_valueBehindTurn_3 ⟨(Nat.le_of_ble_eq_true rfl), (Nat.le_of_ble_eq_true rfl)⟩) (fun r3 er3 => ?_)
  obtain rfl := er3.symm
  refine lv_lstore (lv' := [(7, .long (cturned a tn)), (0, .ref h0), (1, .long a), (3, .long b), (5, .int (nI tn)), (6, .int 3)]) hx hb dX3_valueBehindTurn_6 hl (by decide) rfl (fun ls hl => ?_)
  refine lv_lload_n hx hb dX3_valueBehindTurn_8 rfl (lv_at hl 3 rfl) ?_
  refine lv_iload hx hb dX3_valueBehindTurn_9 (lv_at hl 4 rfl) ?_
  refine vp_callSl (W.runS (As := [.long b, .int (nI tn)]) (rest := []) ⟨hx, hb, hml, hown, hts⟩ (c_X4_turned l b tn (by omega)) (va_cwS 2 hts gX3_valueBehindTurn_X4_turned rfl rfl rfl (by decide +kernel) ⟨Nat.le_of_ble_eq_true rfl, Nat.le_of_ble_eq_true rfl⟩) ⟨px_blind0, fun U hU hW => ⟨rfl, trivial⟩⟩ rfl rfl hl.1 rfl (lv_room (Nat.le_of_ble_eq_true rfl)) dX3_valueBehindTurn_11 ⟨(Nat.le_of_ble_eq_true rfl), (Nat.le_of_ble_eq_true rfl)⟩) (fun r11 er11 => ?_)
  obtain rfl := er11.symm
  refine lv_lstore (lv' := [(9, .long (cturned b tn)), (7, .long (cturned a tn)), (0, .ref h0), (1, .long a), (3, .long b), (5, .int (nI tn)), (6, .int 3)]) hx hb dX3_valueBehindTurn_14 hl (by decide) rfl (fun ls hl => ?_)
  refine lv_lload hx hb dX3_valueBehindTurn_16 (lv_at hl 1 rfl) ?_
  refine vp_callSi (W.runS (As := [.long (cturned a tn)]) (rest := []) ⟨hx, hb, hml, hown, hts⟩ (c_X1_hasLine l (cturned a tn)) (va_cwS 1 hts gX3_valueBehindTurn_X1_hasLine rfl rfl rfl (by decide +kernel) ⟨Nat.le_of_ble_eq_true rfl, Nat.le_of_ble_eq_true rfl⟩) ⟨px_blind0, fun U hU hW => ⟨rfl, trivial⟩⟩ rfl rfl hl.1 rfl (lv_room (Nat.le_of_ble_eq_true rfl)) dX3_valueBehindTurn_18 ⟨(Nat.le_of_ble_eq_true rfl), (Nat.le_of_ble_eq_true rfl)⟩) (fun r18 er18 => ?_)
  obtain rfl := er18.symm
  refine pk_b (P := cline (cturned a tn) = true) (fun b18 => ?_) (fun b18 => ?_)
  · refine lv_istore (lv' := [(11, .int 1), (9, .long (cturned b tn)), (7, .long (cturned a tn)), (0, .ref h0), (1, .long a), (3, .long b), (5, .int (nI tn)), (6, .int 3)]) hx hb dX3_valueBehindTurn_21 hl (by decide) rfl (fun ls hl => ?_)
    refine lv_lload hx hb dX3_valueBehindTurn_23 (lv_at hl 1 rfl) ?_
    refine vp_callSi (W.runS (As := [.long (cturned b tn)]) (rest := []) ⟨hx, hb, hml, hown, hts⟩ (c_X1_hasLine l (cturned b tn)) (va_cwS 1 hts gX3_valueBehindTurn_X1_hasLine rfl rfl rfl (by decide +kernel) ⟨Nat.le_of_ble_eq_true rfl, Nat.le_of_ble_eq_true rfl⟩) ⟨px_blind0, fun U hU hW => ⟨rfl, trivial⟩⟩ rfl rfl hl.1 rfl (lv_room (Nat.le_of_ble_eq_true rfl)) dX3_valueBehindTurn_25 ⟨(Nat.le_of_ble_eq_true rfl), (Nat.le_of_ble_eq_true rfl)⟩) (fun r25 er25 => ?_)
    obtain rfl := er25.symm
    refine pk_b (P := cline (cturned b tn) = true) (fun b25 => ?_) (fun b25 => ?_)
    · refine lv_istore (lv' := [(12, .int 1), (11, .int 1), (9, .long (cturned b tn)), (7, .long (cturned a tn)), (0, .ref h0), (1, .long a), (3, .long b), (5, .int (nI tn)), (6, .int 3)]) hx hb dX3_valueBehindTurn_28 hl (by decide) rfl (fun ls hl => ?_)
      refine lv_iload hx hb dX3_valueBehindTurn_30 (lv_at hl 1 rfl) ?_
      refine lv_iload hx hb dX3_valueBehindTurn_32 (lv_at hl 0 rfl) ?_
      refine lv_icmp_eq (tgt := 48) hx hb dX3_valueBehindTurn_34 (by decide) (fun c34 => ?_) (fun c34 => ?_)
      · refine lv_iload hx hb dX3_valueBehindTurn_48 (lv_at hl 1 rfl) ?_
        refine lv_if_eq (tgt := 57) hx hb dX3_valueBehindTurn_50 (by decide) (fun c50 => ?_) (fun c50 => ?_)
        · exact absurd c50 (by decide)
        · refine lv_iconst (v := 0) hx hb dX3_valueBehindTurn_53 (by decide) ?_
          refine lv_goto (tgt := 68) hx hb dX3_valueBehindTurn_54 (by decide) ?_
          refine W.iret (v := 0) hx hb hr (fun tt ht hW => ⟨0, rfl, ?_, ht⟩) (fun _ h => nomatch h) dX3_valueBehindTurn_68
          skip; unfold vbehind; first | (rw [if_pos b18, if_pos b25]; done) | (rw [if_pos b18, if_neg b25]; done) | (rw [if_neg b18, if_pos b25]; done) | (rw [if_neg b18, if_neg b25]; done)
      · exact absurd c34 (by decide)
    · refine lv_istore (lv' := [(12, .int 0), (11, .int 1), (9, .long (cturned b tn)), (7, .long (cturned a tn)), (0, .ref h0), (1, .long a), (3, .long b), (5, .int (nI tn)), (6, .int 3)]) hx hb dX3_valueBehindTurn_28 hl (by decide) rfl (fun ls hl => ?_)
      refine lv_iload hx hb dX3_valueBehindTurn_30 (lv_at hl 1 rfl) ?_
      refine lv_iload hx hb dX3_valueBehindTurn_32 (lv_at hl 0 rfl) ?_
      refine lv_icmp_eq (tgt := 48) hx hb dX3_valueBehindTurn_34 (by decide) (fun c34 => ?_) (fun c34 => ?_)
      · exact absurd c34 (by decide)
      · refine lv_iload hx hb dX3_valueBehindTurn_37 (lv_at hl 1 rfl) ?_
        refine lv_if_eq (tgt := 46) hx hb dX3_valueBehindTurn_39 (by decide) (fun c39 => ?_) (fun c39 => ?_)
        · exact absurd c39 (by decide)
        · refine lv_iconst (v := 1) hx hb dX3_valueBehindTurn_42 (by decide) ?_
          refine lv_goto (tgt := 47) hx hb dX3_valueBehindTurn_43 (by decide) ?_
          refine W.iret (v := 1) hx hb hr (fun tt ht hW => ⟨1, rfl, ?_, ht⟩) (fun _ h => nomatch h) dX3_valueBehindTurn_47
          skip; unfold vbehind; first | (rw [if_pos b18, if_pos b25]; done) | (rw [if_pos b18, if_neg b25]; done) | (rw [if_neg b18, if_pos b25]; done) | (rw [if_neg b18, if_neg b25]; done)
  · refine lv_istore (lv' := [(11, .int 0), (9, .long (cturned b tn)), (7, .long (cturned a tn)), (0, .ref h0), (1, .long a), (3, .long b), (5, .int (nI tn)), (6, .int 3)]) hx hb dX3_valueBehindTurn_21 hl (by decide) rfl (fun ls hl => ?_)
    refine lv_lload hx hb dX3_valueBehindTurn_23 (lv_at hl 1 rfl) ?_
    refine vp_callSi (W.runS (As := [.long (cturned b tn)]) (rest := []) ⟨hx, hb, hml, hown, hts⟩ (c_X1_hasLine l (cturned b tn)) (va_cwS 1 hts gX3_valueBehindTurn_X1_hasLine rfl rfl rfl (by decide +kernel) ⟨Nat.le_of_ble_eq_true rfl, Nat.le_of_ble_eq_true rfl⟩) ⟨px_blind0, fun U hU hW => ⟨rfl, trivial⟩⟩ rfl rfl hl.1 rfl (lv_room (Nat.le_of_ble_eq_true rfl)) dX3_valueBehindTurn_25 ⟨(Nat.le_of_ble_eq_true rfl), (Nat.le_of_ble_eq_true rfl)⟩) (fun r25 er25 => ?_)
    obtain rfl := er25.symm
    refine pk_b (P := cline (cturned b tn) = true) (fun b25 => ?_) (fun b25 => ?_)
    · refine lv_istore (lv' := [(12, .int 1), (11, .int 0), (9, .long (cturned b tn)), (7, .long (cturned a tn)), (0, .ref h0), (1, .long a), (3, .long b), (5, .int (nI tn)), (6, .int 3)]) hx hb dX3_valueBehindTurn_28 hl (by decide) rfl (fun ls hl => ?_)
      refine lv_iload hx hb dX3_valueBehindTurn_30 (lv_at hl 1 rfl) ?_
      refine lv_iload hx hb dX3_valueBehindTurn_32 (lv_at hl 0 rfl) ?_
      refine lv_icmp_eq (tgt := 48) hx hb dX3_valueBehindTurn_34 (by decide) (fun c34 => ?_) (fun c34 => ?_)
      · exact absurd c34 (by decide)
      · refine lv_iload hx hb dX3_valueBehindTurn_37 (lv_at hl 1 rfl) ?_
        refine lv_if_eq (tgt := 46) hx hb dX3_valueBehindTurn_39 (by decide) (fun c39 => ?_) (fun c39 => ?_)
        · refine lv_iconst (v := (-1)) hx hb dX3_valueBehindTurn_46 (by decide) ?_
          refine W.iret (v := (-1)) hx hb hr (fun tt ht hW => ⟨(-1), rfl, ?_, ht⟩) (fun _ h => nomatch h) dX3_valueBehindTurn_47
          skip; unfold vbehind; first | (rw [if_pos b18, if_pos b25]; done) | (rw [if_pos b18, if_neg b25]; done) | (rw [if_neg b18, if_pos b25]; done) | (rw [if_neg b18, if_neg b25]; done)
        · exact absurd c39 (by decide)
    · refine lv_istore (lv' := [(12, .int 0), (11, .int 0), (9, .long (cturned b tn)), (7, .long (cturned a tn)), (0, .ref h0), (1, .long a), (3, .long b), (5, .int (nI tn)), (6, .int 3)]) hx hb dX3_valueBehindTurn_28 hl (by decide) rfl (fun ls hl => ?_)
      refine lv_iload hx hb dX3_valueBehindTurn_30 (lv_at hl 1 rfl) ?_
      refine lv_iload hx hb dX3_valueBehindTurn_32 (lv_at hl 0 rfl) ?_
      refine lv_icmp_eq (tgt := 48) hx hb dX3_valueBehindTurn_34 (by decide) (fun c34 => ?_) (fun c34 => ?_)
      · refine lv_iload hx hb dX3_valueBehindTurn_48 (lv_at hl 1 rfl) ?_
        refine lv_if_eq (tgt := 57) hx hb dX3_valueBehindTurn_50 (by decide) (fun c50 => ?_) (fun c50 => ?_)
        · refine lv_aload_n hx hb dX3_valueBehindTurn_57 rfl (lv_at hl 4 rfl) ?_
          refine lv_lload hx hb dX3_valueBehindTurn_58 (lv_at hl 2 rfl) ?_
          refine lv_lload hx hb dX3_valueBehindTurn_60 (lv_at hl 3 rfl) ?_
          refine lv_iload hx hb dX3_valueBehindTurn_62 (lv_at hl 8 rfl) ?_
          refine vp_callSi (W.runV (As := [.long (cturned b tn), .long (cturned a tn), .int 3]) (rest := []) ⟨hx, hb, hml, hown, hts⟩ (c_X3_valueToPut_p3 l D cI cJ h0 (cturned b tn) (cturned a tn)) (cwV 3 hts gX3_valueBehindTurn_X3_valueToPut rfl rfl rfl (by decide +kernel) ⟨Nat.le_of_ble_eq_true rfl, Nat.le_of_ble_eq_true rfl⟩) ⟨(px_blindE px_blindW), va_recv hK hP (ci := 1) (q0 := 0) rfl rfl, fun U hU hW => ⟨rfl, hEN.warm hW, by rw [hU]; exact hP.sub (ws' := [(h0, .inr (1, [.null]))]) [0] rfl, va_K.moved hW.alike hK⟩⟩ rfl rfl hl.1 rfl (lv_room (Nat.le_of_ble_eq_true rfl)) dX3_valueBehindTurn_64 ⟨(Nat.le_of_ble_eq_true rfl), (Nat.le_of_ble_eq_true rfl)⟩) (fun r64 er64 => ?_)
          obtain rfl := er64.symm
          refine lv_ineg hx hb dX3_valueBehindTurn_67 ?_
          refine lv_topi (fun x67 ex67 => ?_)
          refine W.iret (v := x67) hx hb hr (fun tt ht hW => ⟨x67, rfl, ?_, ht⟩) (fun _ h => nomatch h) dX3_valueBehindTurn_68
          obtain rfl := ex67.symm; unfold vbehind; first | (rw [if_pos b18, if_pos b25]; done) | (rw [if_pos b18, if_neg b25]; done) | (rw [if_neg b18, if_pos b25]; done) | (rw [if_neg b18, if_neg b25]; done)
        · exact absurd c50 (by decide)
      · exact absurd c34 (by decide)

set_option maxHeartbeats 400000 in
set_option maxRecDepth 100000 in
theorem c_X3_valueToTurn_p3 (l : Launch) (D : va_G) (cI cJ : ClassId) (h0 : Nat) (a b : Int64)  : Met l yX3_valueToTurn wsX3_valueToTurn ({ frames := 15, cells := 0, slots := 0, locals := 436 } : Room) (va_Pc [.ref h0, .long a, .long b, .int 3] (px_E (px_W D [(h0, .inr (1, [.null]))] [(cI, .int), (cJ, .long)]))) (vp_Si (fun r => r = vturn (vput 3) a b 8)) 0 0 (fun _ => False) := by
  refine Met.ofW (cc := cX3_valueToTurn) (maxL := 8) (ret := (some .int)) (by decide) rfl ?_
  intro p e s m args below meth c s₁ B hml hv
  obtain ⟨rfl, hEN, hP, hK⟩ := hv
  have hx := B.exec
  have hb := B.bytes
  have hr := B.returns
  have hts := atoms_spec (ws := wsX3_valueToTurn) B.pre
  have hown : s.vm.findClass RX3 = some m.cls := findClass_of_methodNamed B.named
  have hlocks := B.notSynchronized
  have hmx0 : (Cond.methodLink RX3 48 Lib.Math.max.name).before ([.ref h0, .long a, .long b, .int 3] : List Value).toArray s = true := hts _ (by decide +kernel)
  have hmx1 : (Cond.static Lib.Math.max.name).before ([.ref h0, .long a, .long b, .int 3] : List Value).toArray s = true := hts _ (by decide +kernel)
  have hmx2 : (Cond.initialized "java/lang/Math").before ([.ref h0, .long a, .long b, .int 3] : List Value).toArray s = true := hts _ (by decide +kernel)
  have hmx3 : (Cond.code Lib.Math.max.name Lib.Math.max.code 2 (some .int)).before ([.ref h0, .long a, .long b, .int 3] : List Value).toArray s = true := hts _ (by decide +kernel)
  have hl := lv_entry ([.ref h0, .long a, .long b, .int 3]) (n := 8) (Nat.le_of_ble_eq_true rfl)
  rw [lg_entry_eq]
  generalize (lg_sl ([.ref h0, .long a, .long b, .int 3]) ++ List.replicate (8 - (lg_sl ([.ref h0, .long a, .long b, .int 3])).length) Slot.unset).toArray = ls at hl ⊢
  have hl : lv_has ls 8 [(0, .ref h0), (1, .long a), (3, .long b), (5, .int 3)] := hl
  refine lv_iconst (v := (-1)) hx hb dX3_valueToTurn_0 (by decide) ?_
  refine lv_istore (lv' := [(6, .int (-1)), (0, .ref h0), (1, .long a), (3, .long b), (5, .int 3)]) hx hb dX3_valueToTurn_1 hl (by decide) rfl (fun ls hl => ?_)
  refine lv_iconst (v := 0) hx hb dX3_valueToTurn_3 (by decide) ?_
  refine lv_istore (lv' := [(7, .int 0), (6, .int (-1)), (0, .ref h0), (1, .long a), (3, .long b), (5, .int 3)]) hx hb dX3_valueToTurn_4 hl (by decide) rfl (fun ls hl => ?_)
  have loop6 : ∀ (nn i6 : Nat), i6 + nn = 8 → ∀ ls, lv_has ls 8 [(7, .int (nI i6)), (6, .int (vturn (vput 3) a b i6)), (0, .ref h0), (1, .long a), (3, .long b), (5, .int 3)] → W p l e (headSpec wsX3_valueToTurn ({ frames := 15, cells := 0, slots := 0, locals := 436 } : Room)).room s m ([.ref h0, .long a, .long b, .int 3] : List Value).toArray below meth c s.heap [] 0 0 (MQ below (vp_Si (fun r => r = vturn (vput 3) a b 8)) ([.ref h0, .long a, .long b, .int 3] : List Value).toArray s 0 0 (fun _ => False)) (F0 m 6 ls []) := by
    intro nn
    induction nn with
    | zero =>
      intro i6 hi6 ls hl
      obtain rfl : i6 = 8 := by omega
      refine lv_iload hx hb dX3_valueToTurn_6 (lv_at hl 0 rfl) ?_
      refine lv_bipush (v := 8) hx hb dX3_valueToTurn_8 (by decide) ?_
      refine lv_icmp_ge (tgt := 42) hx hb dX3_valueToTurn_10 (by decide) (fun c10 => ?_) (fun c10 => ?_)
      · have c10 : 8 ≤ 8 := (nq_le (a := 8) (b := 8) (by omega) (by omega)).mp c10
        refine lv_iload hx hb dX3_valueToTurn_42 (lv_at hl 1 rfl) ?_
        refine W.iret (v := (vturn (vput 3) a b 8)) hx hb hr (fun tt ht hW => ⟨(vturn (vput 3) a b 8), rfl, ?_, ht⟩) (fun _ h => nomatch h) dX3_valueToTurn_44
        exact rfl
      · have c10 : ¬ 8 ≤ 8 := _root_.mt (nq_le (a := 8) (b := 8) (by omega) (by omega)).mpr c10
        omega
    | succ nn ih6 =>
      intro i6 hi6 ls hl
      refine lv_iload hx hb dX3_valueToTurn_6 (lv_at hl 0 rfl) ?_
      refine lv_bipush (v := 8) hx hb dX3_valueToTurn_8 (by decide) ?_
      refine lv_icmp_ge (tgt := 42) hx hb dX3_valueToTurn_10 (by decide) (fun c10 => ?_) (fun c10 => ?_)
      · have c10 : 8 ≤ i6 := (nq_le (a := 8) (b := i6) (by omega) (by omega)).mp c10
        omega
      · have c10 : ¬ 8 ≤ i6 := _root_.mt (nq_le (a := 8) (b := i6) (by omega) (by omega)).mpr c10
        refine lv_iload hx hb dX3_valueToTurn_13 (lv_at hl 1 rfl) ?_
        refine lv_iconst (v := 1) hx hb dX3_valueToTurn_15 (by decide) ?_
        refine lv_icmp_ge (tgt := 42) hx hb dX3_valueToTurn_16 (by decide) (fun c16 => ?_) (fun c16 => ?_)
        · refine lv_iload hx hb dX3_valueToTurn_42 (lv_at hl 1 rfl) ?_
          refine W.iret (v := (vturn (vput 3) a b i6)) hx hb hr (fun tt ht hW => ⟨(vturn (vput 3) a b i6), rfl, ?_, ht⟩) (fun _ h => nomatch h) dX3_valueToTurn_44
          exact stop8 c16 (by omega)
        · refine lv_iload hx hb dX3_valueToTurn_19 (lv_at hl 1 rfl) ?_
          refine lv_aload_n hx hb dX3_valueToTurn_21 rfl (lv_at hl 2 rfl) ?_
          refine lv_lload_n hx hb dX3_valueToTurn_22 rfl (lv_at hl 3 rfl) ?_
          refine lv_lload_n hx hb dX3_valueToTurn_23 rfl (lv_at hl 4 rfl) ?_
          refine lv_iload hx hb dX3_valueToTurn_24 (lv_at hl 0 rfl) ?_
          refine lv_iload hx hb dX3_valueToTurn_26 (lv_at hl 5 rfl) ?_
          refine vp_callSi (W.runV (As := [.long a, .long b, .int (nI i6), .int 3]) (rest := [.int (vturn (vput 3) a b i6)]) ⟨hx, hb, hml, hown, hts⟩ (c_X3_valueBehindTurn_p3 l D cI cJ h0 a b i6 (by omega)) (cwV 4 hts gX3_valueToTurn_X3_valueBehindTurn rfl rfl rfl (by decide +kernel) ⟨Nat.le_of_ble_eq_true rfl, Nat.le_of_ble_eq_true rfl⟩) ⟨(px_blindE px_blindW), va_recv hK hP (ci := 1) (q0 := 0) rfl rfl, fun U hU hW => ⟨rfl, hEN.warm hW, by rw [hU]; exact hP.sub (ws' := [(h0, .inr (1, [.null]))]) [0] rfl, va_K.moved hW.alike hK⟩⟩ rfl rfl hl.1 rfl (lv_room (Nat.le_of_ble_eq_true rfl)) dX3_valueToTurn_28 ⟨(Nat.le_of_ble_eq_true rfl), (Nat.le_of_ble_eq_true rfl)⟩) (fun r28 er28 => ?_)
          obtain rfl := er28.symm
          refine va_mmax hx hb (by rw [hml]; exact hl.1.symm) hown hmx0 hmx1 hmx2 hmx3 (by decide) (Nat.le_of_ble_eq_true rfl) (Nat.le_of_ble_eq_true rfl) (Nat.le_of_ble_eq_true rfl) dX3_valueToTurn_31 ?_
          refine lv_topi (fun x31 ex31 => ?_)
          refine lv_istore (lv' := [(6, .int x31), (7, .int (nI i6)), (0, .ref h0), (1, .long a), (3, .long b), (5, .int 3)]) hx hb dX3_valueToTurn_34 hl (by decide) rfl (fun ls hl => ?_)
          refine lv_iinc (v := nI (i6 + 1)) (lv' := [(7, .int (nI (i6 + 1))), (6, .int x31), (0, .ref h0), (1, .long a), (3, .long b), (5, .int 3)]) hx hb dX3_valueToTurn_36 hl (k := 1) rfl (nI_add i6 1) (by decide) rfl (fun ls hl => ?_)
          refine lv_goto (tgt := 6) hx hb dX3_valueToTurn_39 (by decide) ?_
          exact ih6 (i6 + 1) (by omega) ls (by { have e9 : (x31 : Int32) = (vturn (vput 3) a b (i6 + 1)) := by { obtain rfl := ex31.symm; exact vturn_s c16 }; rw [← e9]; exact lv_sub hl [0, 1, 2, 3, 4, 5] rfl })
  exact loop6 8 0 (by omega) ls (lv_sub hl [0, 1, 2, 3, 4, 5] rfl)
