set_option maxHeartbeats 400000 in
set_option maxRecDepth 100000 in
theorem c_X7_codeOf (l : Launch) (D : va_G) (cI cJ : ClassId) (h0 ow cl tu lk f1 s2 ms nx bs : Nat) (th re mt fd : Int32) (w k : Nat) (fo lo ff sf : Nat → Int64) (cs ts mm nf bf : Nat → Int32) (v : Nat) (hv : v < 8) : Met l yX7_codeOf wsX7_codeOf ({ frames := 1, cells := 0, slots := 0, locals := 22 } : Room) (va_Pc [.ref h0, .int (nI v)] (px_W D [(h0, .inr (4, [.int th, .ref ow, .int re, .int (nI w), .int mt, .ref cl, .ref tu, .int (nI k), .ref lk, .ref f1, .ref s2, .ref ms, .ref nx, .ref bs, .int fd])), (ow, .inl (cJ, 3, .inr (.inl fo))), (cl, .inl (cI, 36, .inl cs)), (tu, .inl (cI, 36, .inl ts)), (lk, .inl (cJ, 3, .inr (.inl lo))), (f1, .inl (cJ, 6, .inr (.inl ff))), (s2, .inl (cJ, 6, .inr (.inl sf))), (ms, .inl (cI, 6, .inl mm)), (nx, .inl (cI, 6, .inl nf)), (bs, .inl (cI, 6, .inl bf))] [(cI, .int), (cJ, .long)])) (vp_Sl (fun r => r = mcode (fo 1) (fo 2) v 36)) 0 0 (fun _ => False) := by
  refine Met.ofW (cc := cX7_codeOf) (maxL := 10) (ret := (some .long)) (by decide) rfl ?_
  intro p e s m args below meth c s₁ B hml hv
  obtain ⟨rfl, hP, hK⟩ := hv
  have hx := B.exec
  have hb := B.bytes
  have hr := B.returns
  have hts := atoms_spec (ws := wsX7_codeOf) B.pre
  have hown : s.vm.findClass RX7 = some m.cls := findClass_of_methodNamed B.named
  have hlocks := B.notSynchronized
  have hinX7 : ∀ w ∈ wsX70, w ∈ wsX7_codeOf := by decide +kernel
  have hfl7 : (Cond.fieldLink RX7 7 "TwistquadModel" "own" "[J").before ([.ref h0, .int (nI v)] : List Value).toArray s = true := hts _ (by decide +kernel)
  have hl := lv_entry ([.ref h0, .int (nI v)]) (n := 10) (Nat.le_of_ble_eq_true rfl)
  rw [lg_entry_eq]
  generalize (lg_sl ([.ref h0, .int (nI v)]) ++ List.replicate (10 - (lg_sl ([.ref h0, .int (nI v)])).length) Slot.unset).toArray = ls at hl ⊢
  have hl : lv_has ls 10 [(0, .ref h0), (1, .int (nI v))] := hl
  refine lv_lconst (v := 0) hx hb dX7_codeOf_0 (by decide) ?_
  refine lv_lstore_n (lv' := [(2, .long 0), (0, .ref h0), (1, .int (nI v))]) hx hb dX7_codeOf_1 rfl hl (by decide) rfl (fun ls hl => ?_)
  refine lv_bipush (v := 35) hx hb dX7_codeOf_2 (by decide) ?_
  refine lv_istore (lv' := [(4, .int 35), (2, .long 0), (0, .ref h0), (1, .int (nI v))]) hx hb dX7_codeOf_4 hl (by decide) rfl (fun ls hl => ?_)
  have loop6 : ∀ (n6 i6 : Nat), i6 + n6 = 36 → ∀ ls, lv_has ls 10 [(4, .int (pm n6)), (2, .long (mcode (fo 1) (fo 2) v i6)), (0, .ref h0), (1, .int (nI v))] → W p l e (headSpec wsX7_codeOf ({ frames := 1, cells := 0, slots := 0, locals := 22 } : Room)).room s m ([.ref h0, .int (nI v)] : List Value).toArray below meth c s.heap [] 0 0 (MQ below (vp_Sl (fun r => r = mcode (fo 1) (fo 2) v 36)) ([.ref h0, .int (nI v)] : List Value).toArray s 0 0 (fun _ => False)) (F0 m 6 ls []) := by
    intro n6
    induction n6 with
    | zero =>
      intro i6 hi6 ls hl
      obtain rfl : i6 = 36 := by omega
      have hl : lv_has ls 10 [(4, .int (-1)), (2, .long (mcode (fo 1) (fo 2) v 36)), (0, .ref h0), (1, .int (nI v))] := hl
      refine lv_iload hx hb dX7_codeOf_6 (lv_at hl 0 rfl) ?_
      refine lv_if_lt (tgt := 138) hx hb dX7_codeOf_8 (by decide) (fun c8 => ?_) (fun c8 => ?_)
      · refine lv_lload_n hx hb dX7_codeOf_138 rfl (lv_at hl 1 rfl) ?_
        refine W.lret (v := (mcode (fo 1) (fo 2) v 36)) hx hb hr (fun tt ht hW => ⟨(mcode (fo 1) (fo 2) v 36), rfl, ?_, ht⟩) (fun _ h => nomatch h) dX7_codeOf_139
        rfl
      · exact absurd c8 (by decide)
    | succ n6 ih6 =>
      intro i6 hi6 ls hl
      have hl : lv_has ls 10 [(4, .int (nI n6)), (2, .long (mcode (fo 1) (fo 2) v i6)), (0, .ref h0), (1, .int (nI v))] := hl
      refine lv_iload hx hb dX7_codeOf_6 (lv_at hl 0 rfl) ?_
      refine lv_if_lt (tgt := 138) hx hb dX7_codeOf_8 (by decide) (fun c8 => ?_) (fun c8 => ?_)
      · have c8 : n6 < 0 := (nq_lt (a := n6) (b := 0) (by omega) (by omega)).mp c8
        omega
      · have c8 : ¬ n6 < 0 := _root_.mt (nq_lt (a := n6) (b := 0) (by omega) (by omega)).mpr c8
        refine lv_iload hx hb dX7_codeOf_11 (lv_at hl 0 rfl) ?_
        refine lv_bipush (v := 6) hx hb dX7_codeOf_13 (by decide) ?_
        refine lv_idiv hx hb dX7_codeOf_15 (by decide) ?_
        refine pk_ti (y := nI (n6 / 6)) (pk_div (a := n6) (d := 6) (by omega) (by omega) (by omega)) ?_
        refine lv_istore (lv' := [(5, .int (nI (n6 / 6))), (4, .int (nI n6)), (2, .long (mcode (fo 1) (fo 2) v i6)), (0, .ref h0), (1, .int (nI v))]) hx hb dX7_codeOf_16 hl (by decide) rfl (fun ls hl => ?_)
        refine lv_iload hx hb dX7_codeOf_18 (lv_at hl 1 rfl) ?_
        refine lv_bipush (v := 6) hx hb dX7_codeOf_20 (by decide) ?_
        refine lv_irem hx hb dX7_codeOf_22 (by decide) ?_
        refine pk_ti (y := nI (n6 % 6)) (pk_rem (a := n6) (d := 6) (by omega) (by omega) (by omega)) ?_
        refine lv_istore (lv' := [(6, .int (nI (n6 % 6))), (5, .int (nI (n6 / 6))), (4, .int (nI n6)), (2, .long (mcode (fo 1) (fo 2) v i6)), (0, .ref h0), (1, .int (nI v))]) hx hb dX7_codeOf_23 hl (by decide) rfl (fun ls hl => ?_)
        have hrl := mrow_lt v hv n6 (by omega)
        have hcl := mcol_lt v hv n6 (by omega)
        have hvl := mview_lt v hv n6 (by omega)
        refine lv_iload_n hx hb dX7_codeOf_25 rfl (lv_at hl 5 rfl) ?_
        refine lv_iconst (v := 1) hx hb dX7_codeOf_26 (by decide) ?_
        refine lv_iand hx hb dX7_codeOf_27 ?_
        refine pk_ti (y := nI (v % 2)) (view1 v hv) ?_
        refine lv_if_ne (tgt := 36) hx hb dX7_codeOf_28 (by decide) (fun c28 => ?_) (fun c28 => ?_)
        · have c28 : ¬ (v % 2) = 0 := _root_.mt (nq_eq (a := (v % 2)) (b := 0) (by omega) (by omega)).mpr c28
          refine lv_iconst (v := 5) hx hb dX7_codeOf_36 (by decide) ?_
          refine lv_iload hx hb dX7_codeOf_37 (lv_at hl 1 rfl) ?_
          refine lv_isub hx hb dX7_codeOf_39 ?_
          refine pk_ti (y := nI (5 - (n6 / 6))) (pk_sub (a := 5) (b := (n6 / 6)) (by omega)) ?_
          refine pk_ti (y := nI (mrow v n6)) (congrArg nI (by unfold mrow; first | exact (if_pos (by assumption)).symm | exact (if_neg (by assumption)).symm)) ?_
          refine lv_istore (lv' := [(7, .int (nI (mrow v n6))), (6, .int (nI (n6 % 6))), (5, .int (nI (n6 / 6))), (4, .int (nI n6)), (2, .long (mcode (fo 1) (fo 2) v i6)), (0, .ref h0), (1, .int (nI v))]) hx hb dX7_codeOf_40 hl (by decide) rfl (fun ls hl => ?_)
          refine lv_iload_n hx hb dX7_codeOf_42 rfl (lv_at hl 6 rfl) ?_
          refine lv_iconst (v := 2) hx hb dX7_codeOf_43 (by decide) ?_
          refine lv_iand hx hb dX7_codeOf_44 ?_
          refine pk_ti (y := nI (v / 2 % 2 * 2)) (view2 v hv) ?_
          refine lv_if_ne (tgt := 53) hx hb dX7_codeOf_45 (by decide) (fun c45 => ?_) (fun c45 => ?_)
          · have c45 : ¬ (v / 2 % 2 * 2) = 0 := _root_.mt (nq_eq (a := (v / 2 % 2 * 2)) (b := 0) (by omega) (by omega)).mpr c45
            refine lv_iconst (v := 5) hx hb dX7_codeOf_53 (by decide) ?_
            refine lv_iload hx hb dX7_codeOf_54 (lv_at hl 1 rfl) ?_
            refine lv_isub hx hb dX7_codeOf_56 ?_
            refine pk_ti (y := nI (5 - (n6 % 6))) (pk_sub (a := 5) (b := (n6 % 6)) (by omega)) ?_
            refine pk_ti (y := nI (mcol v n6)) (congrArg nI (by unfold mcol; first | exact (if_pos (by assumption)).symm | exact (if_neg (by assumption)).symm)) ?_
            refine lv_istore (lv' := [(8, .int (nI (mcol v n6))), (7, .int (nI (mrow v n6))), (6, .int (nI (n6 % 6))), (5, .int (nI (n6 / 6))), (4, .int (nI n6)), (2, .long (mcode (fo 1) (fo 2) v i6)), (0, .ref h0), (1, .int (nI v))]) hx hb dX7_codeOf_57 hl (by decide) rfl (fun ls hl => ?_)
            refine lv_iload_n hx hb dX7_codeOf_59 rfl (lv_at hl 7 rfl) ?_
            refine lv_iconst (v := 4) hx hb dX7_codeOf_60 (by decide) ?_
            refine lv_iand hx hb dX7_codeOf_61 ?_
            refine pk_ti (y := nI (v / 4 % 2 * 4)) (view4 v hv) ?_
            refine lv_if_ne (tgt := 76) hx hb dX7_codeOf_62 (by decide) (fun c62 => ?_) (fun c62 => ?_)
            · have c62 : ¬ (v / 4 % 2 * 4) = 0 := _root_.mt (nq_eq (a := (v / 4 % 2 * 4)) (b := 0) (by omega) (by omega)).mpr c62
              refine lv_bipush (v := 6) hx hb dX7_codeOf_76 (by decide) ?_
              refine lv_iload hx hb dX7_codeOf_78 (lv_at hl 0 rfl) ?_
              refine lv_imul hx hb dX7_codeOf_80 ?_
              refine pk_ti (y := nI (6 * (mcol v n6))) (pk_mul 6 (mcol v n6)) ?_
              refine lv_iload hx hb dX7_codeOf_81 (lv_at hl 1 rfl) ?_
              refine lv_iadd hx hb dX7_codeOf_83 ?_
              refine pk_ti (y := nI ((6 * (mcol v n6)) + (mrow v n6))) (nI_add (6 * (mcol v n6)) (mrow v n6)) ?_
              refine pk_ti (y := nI (mview v n6)) (congrArg nI (by unfold mview; first | exact (if_pos (by assumption)).symm | exact (if_neg (by assumption)).symm)) ?_
              refine lv_istore (lv' := [(9, .int (nI (mview v n6))), (8, .int (nI (mcol v n6))), (7, .int (nI (mrow v n6))), (6, .int (nI (n6 % 6))), (5, .int (nI (n6 / 6))), (4, .int (nI n6)), (2, .long (mcode (fo 1) (fo 2) v i6)), (0, .ref h0), (1, .int (nI v))]) hx hb dX7_codeOf_84 hl (by decide) rfl (fun ls hl => ?_)
              refine lv_ldc2 (v := 3) hx hb hown (hts (.constantLong RX7 112 (3)) (by decide +kernel)) dX7_codeOf_86 ?_
              refine lv_lload_n hx hb dX7_codeOf_89 rfl (lv_at hl 6 rfl) ?_
              refine lv_lmul hx hb dX7_codeOf_90 ?_
              refine lv_topl (fun x90 ex90 => ?_)
              refine lv_aload_n hx hb dX7_codeOf_91 rfl (lv_at hl 7 rfl) ?_
              refine va_get (D := D) (ci := 4) (v := .ref ow) (C := RX7) (T := TX7) (N := 15) hx hb hts hinX7 hown hK hP 0 rfl rfl 1 (by decide) hfl7 (fun _ h9 => h9) rfl dX7_codeOf_92 ?_
              refine lv_iconst (v := 1) hx hb dX7_codeOf_95 (by decide) ?_
              refine va_lald hx hb hK hP 1 1 rfl rfl (vp_in_nI (n := 1) (N := 3) (by omega) (by decide)) dX7_codeOf_96 ?_
              refine pk_tl (y := (fo 1)) (congrArg fo (pk_cl 1)) ?_
              refine lv_iload hx hb dX7_codeOf_97 (lv_at hl 0 rfl) ?_
              refine vp_callSi (W.runS (As := [.long (fo 1), .int (nI (mview v n6))]) (rest := [.long x90]) ⟨hx, hb, hml, hown, hts⟩ (c_X7_has l (fo 1) (mview v n6) (by omega)) (va_cwS 2 hts gX7_codeOf_X7_has rfl rfl rfl (by decide +kernel) ⟨Nat.le_of_ble_eq_true rfl, Nat.le_of_ble_eq_true rfl⟩) ⟨px_blind0, fun U hU hW => ⟨rfl, trivial⟩⟩ rfl rfl hl.1 rfl (lv_room (Nat.le_of_ble_eq_true rfl)) dX7_codeOf_99 ⟨(Nat.le_of_ble_eq_true rfl), (Nat.le_of_ble_eq_true rfl)⟩) (fun r99 er99 => ?_)
              obtain rfl := er99.symm
              refine pk_b (P := bt (fo 1) (mview v n6) = true) (fun b99 => ?_) (fun b99 => ?_)
              · refine lv_if_eq (tgt := 109) hx hb dX7_codeOf_102 (by decide) (fun c102 => ?_) (fun c102 => ?_)
                · exact absurd c102 (by decide)
                · refine lv_lconst (v := 1) hx hb dX7_codeOf_105 (by decide) ?_
                  refine lv_goto (tgt := 130) hx hb dX7_codeOf_106 (by decide) ?_
                  refine lv_ladd hx hb dX7_codeOf_130 ?_
                  refine lv_topl (fun x130 ex130 => ?_)
                  refine lv_lstore_n (lv' := [(2, .long x130), (9, .int (nI (mview v n6))), (8, .int (nI (mcol v n6))), (7, .int (nI (mrow v n6))), (6, .int (nI (n6 % 6))), (5, .int (nI (n6 / 6))), (4, .int (nI n6)), (0, .ref h0), (1, .int (nI v))]) hx hb dX7_codeOf_131 rfl hl (by decide) rfl (fun ls hl => ?_)
                  obtain ⟨x132, ex132⟩ : ∃ y : Int32, y = (nI n6) + (-1) := ⟨_, rfl⟩
                  refine lv_iinc (v := x132) (lv' := [(4, .int x132), (2, .long x130), (9, .int (nI (mview v n6))), (8, .int (nI (mcol v n6))), (7, .int (nI (mrow v n6))), (6, .int (nI (n6 % 6))), (5, .int (nI (n6 / 6))), (0, .ref h0), (1, .int (nI v))]) hx hb dX7_codeOf_132 hl (k := 6) rfl (by rw [ex132]; rfl) (by decide) rfl (fun ls hl => ?_)
                  refine lv_goto (tgt := 6) hx hb dX7_codeOf_135 (by decide) ?_
                  exact ih6 (i6 + 1) (by omega) ls (by { rw [← (show x132 = _ from (ex132).trans (pm_dec _))]; have e9 : (x130 : Int64) = (mcode (fo 1) (fo 2) v (i6 + 1)) := by { obtain rfl : n6 = 35 - i6 := (by omega); obtain rfl := ex90.symm; obtain rfl := ex130.symm; obtain rfl := ex132.symm; first | exact mcode_1 b99 | exact mcode_2 b99 b117 | exact mcode_3 b99 b117 }; rw [← e9]; exact lv_sub hl [0, 1, 7, 8] rfl })
              · refine lv_if_eq (tgt := 109) hx hb dX7_codeOf_102 (by decide) (fun c102 => ?_) (fun c102 => ?_)
                · refine lv_aload_n hx hb dX7_codeOf_109 rfl (lv_at hl 7 rfl) ?_
                  refine va_get (D := D) (ci := 4) (v := .ref ow) (C := RX7) (T := TX7) (N := 15) hx hb hts hinX7 hown hK hP 0 rfl rfl 1 (by decide) hfl7 (fun _ h9 => h9) rfl dX7_codeOf_110 ?_
                  refine lv_iconst (v := 2) hx hb dX7_codeOf_113 (by decide) ?_
                  refine va_lald hx hb hK hP 1 1 rfl rfl (vp_in_nI (n := 2) (N := 3) (by omega) (by decide)) dX7_codeOf_114 ?_
                  refine pk_tl (y := (fo 2)) (congrArg fo (pk_cl 2)) ?_
                  refine lv_iload hx hb dX7_codeOf_115 (lv_at hl 0 rfl) ?_
                  refine vp_callSi (W.runS (As := [.long (fo 2), .int (nI (mview v n6))]) (rest := [.long x90]) ⟨hx, hb, hml, hown, hts⟩ (c_X7_has l (fo 2) (mview v n6) (by omega)) (va_cwS 2 hts gX7_codeOf_X7_has rfl rfl rfl (by decide +kernel) ⟨Nat.le_of_ble_eq_true rfl, Nat.le_of_ble_eq_true rfl⟩) ⟨px_blind0, fun U hU hW => ⟨rfl, trivial⟩⟩ rfl rfl hl.1 rfl (lv_room (Nat.le_of_ble_eq_true rfl)) dX7_codeOf_117 ⟨(Nat.le_of_ble_eq_true rfl), (Nat.le_of_ble_eq_true rfl)⟩) (fun r117 er117 => ?_)
                  obtain rfl := er117.symm
                  refine pk_b (P := bt (fo 2) (mview v n6) = true) (fun b117 => ?_) (fun b117 => ?_)
                  · refine lv_if_eq (tgt := 129) hx hb dX7_codeOf_120 (by decide) (fun c120 => ?_) (fun c120 => ?_)
                    · exact absurd c120 (by decide)
                    · refine lv_ldc2 (v := 2) hx hb hown (hts (.constantLong RX7 114 (2)) (by decide +kernel)) dX7_codeOf_123 ?_
                      refine lv_goto (tgt := 130) hx hb dX7_codeOf_126 (by decide) ?_
                      refine lv_ladd hx hb dX7_codeOf_130 ?_
                      refine lv_topl (fun x130 ex130 => ?_)
                      refine lv_lstore_n (lv' := [(2, .long x130), (9, .int (nI (mview v n6))), (8, .int (nI (mcol v n6))), (7, .int (nI (mrow v n6))), (6, .int (nI (n6 % 6))), (5, .int (nI (n6 / 6))), (4, .int (nI n6)), (0, .ref h0), (1, .int (nI v))]) hx hb dX7_codeOf_131 rfl hl (by decide) rfl (fun ls hl => ?_)
                      obtain ⟨x132, ex132⟩ : ∃ y : Int32, y = (nI n6) + (-1) := ⟨_, rfl⟩
                      refine lv_iinc (v := x132) (lv' := [(4, .int x132), (2, .long x130), (9, .int (nI (mview v n6))), (8, .int (nI (mcol v n6))), (7, .int (nI (mrow v n6))), (6, .int (nI (n6 % 6))), (5, .int (nI (n6 / 6))), (0, .ref h0), (1, .int (nI v))]) hx hb dX7_codeOf_132 hl (k := 6) rfl (by rw [ex132]; rfl) (by decide) rfl (fun ls hl => ?_)
                      refine lv_goto (tgt := 6) hx hb dX7_codeOf_135 (by decide) ?_
                      exact ih6 (i6 + 1) (by omega) ls (by { rw [← (show x132 = _ from (ex132).trans (pm_dec _))]; have e9 : (x130 : Int64) = (mcode (fo 1) (fo 2) v (i6 + 1)) := by { obtain rfl : n6 = 35 - i6 := (by omega); obtain rfl := ex90.symm; obtain rfl := ex130.symm; obtain rfl := ex132.symm; first | exact mcode_1 b99 | exact mcode_2 b99 b117 | exact mcode_3 b99 b117 }; rw [← e9]; exact lv_sub hl [0, 1, 7, 8] rfl })
                  · refine lv_if_eq (tgt := 129) hx hb dX7_codeOf_120 (by decide) (fun c120 => ?_) (fun c120 => ?_)
                    · refine lv_lconst (v := 0) hx hb dX7_codeOf_129 (by decide) ?_
                      refine lv_ladd hx hb dX7_codeOf_130 ?_
                      refine lv_topl (fun x130 ex130 => ?_)
                      refine lv_lstore_n (lv' := [(2, .long x130), (9, .int (nI (mview v n6))), (8, .int (nI (mcol v n6))), (7, .int (nI (mrow v n6))), (6, .int (nI (n6 % 6))), (5, .int (nI (n6 / 6))), (4, .int (nI n6)), (0, .ref h0), (1, .int (nI v))]) hx hb dX7_codeOf_131 rfl hl (by decide) rfl (fun ls hl => ?_)
                      obtain ⟨x132, ex132⟩ : ∃ y : Int32, y = (nI n6) + (-1) := ⟨_, rfl⟩
                      refine lv_iinc (v := x132) (lv' := [(4, .int x132), (2, .long x130), (9, .int (nI (mview v n6))), (8, .int (nI (mcol v n6))), (7, .int (nI (mrow v n6))), (6, .int (nI (n6 % 6))), (5, .int (nI (n6 / 6))), (0, .ref h0), (1, .int (nI v))]) hx hb dX7_codeOf_132 hl (k := 6) rfl (by rw [ex132]; rfl) (by decide) rfl (fun ls hl => ?_)
                      refine lv_goto (tgt := 6) hx hb dX7_codeOf_135 (by decide) ?_
                      exact ih6 (i6 + 1) (by omega) ls (by { rw [← (show x132 = _ from (ex132).trans (pm_dec _))]; have e9 : (x130 : Int64) = (mcode (fo 1) (fo 2) v (i6 + 1)) := by { obtain rfl : n6 = 35 - i6 := (by omega); obtain rfl := ex90.symm; obtain rfl := ex130.symm; obtain rfl := ex132.symm; first | exact mcode_1 b99 | exact mcode_2 b99 b117 | exact mcode_3 b99 b117 }; rw [← e9]; exact lv_sub hl [0, 1, 7, 8] rfl })
                    · exact absurd c120 (by decide)
                · exact absurd c102 (by decide)
            · have c62 : (v / 4 % 2 * 4) = 0 := (nq_eq (a := (v / 4 % 2 * 4)) (b := 0) (by omega) (by omega)).mp c62
              refine lv_bipush (v := 6) hx hb dX7_codeOf_65 (by decide) ?_
              refine lv_iload hx hb dX7_codeOf_67 (lv_at hl 1 rfl) ?_
              refine lv_imul hx hb dX7_codeOf_69 ?_
              refine pk_ti (y := nI (6 * (mrow v n6))) (pk_mul 6 (mrow v n6)) ?_
              refine lv_iload hx hb dX7_codeOf_70 (lv_at hl 0 rfl) ?_
              refine lv_iadd hx hb dX7_codeOf_72 ?_
              refine pk_ti (y := nI ((6 * (mrow v n6)) + (mcol v n6))) (nI_add (6 * (mrow v n6)) (mcol v n6)) ?_
              refine lv_goto (tgt := 84) hx hb dX7_codeOf_73 (by decide) ?_
              refine pk_ti (y := nI (mview v n6)) (congrArg nI (by unfold mview; first | exact (if_pos (by assumption)).symm | exact (if_neg (by assumption)).symm)) ?_
              refine lv_istore (lv' := [(9, .int (nI (mview v n6))), (8, .int (nI (mcol v n6))), (7, .int (nI (mrow v n6))), (6, .int (nI (n6 % 6))), (5, .int (nI (n6 / 6))), (4, .int (nI n6)), (2, .long (mcode (fo 1) (fo 2) v i6)), (0, .ref h0), (1, .int (nI v))]) hx hb dX7_codeOf_84 hl (by decide) rfl (fun ls hl => ?_)
              refine lv_ldc2 (v := 3) hx hb hown (hts (.constantLong RX7 112 (3)) (by decide +kernel)) dX7_codeOf_86 ?_
              refine lv_lload_n hx hb dX7_codeOf_89 rfl (lv_at hl 6 rfl) ?_
              refine lv_lmul hx hb dX7_codeOf_90 ?_
              refine lv_topl (fun x90 ex90 => ?_)
              refine lv_aload_n hx hb dX7_codeOf_91 rfl (lv_at hl 7 rfl) ?_
              refine va_get (D := D) (ci := 4) (v := .ref ow) (C := RX7) (T := TX7) (N := 15) hx hb hts hinX7 hown hK hP 0 rfl rfl 1 (by decide) hfl7 (fun _ h9 => h9) rfl dX7_codeOf_92 ?_
              refine lv_iconst (v := 1) hx hb dX7_codeOf_95 (by decide) ?_
              refine va_lald hx hb hK hP 1 1 rfl rfl (vp_in_nI (n := 1) (N := 3) (by omega) (by decide)) dX7_codeOf_96 ?_
              refine pk_tl (y := (fo 1)) (congrArg fo (pk_cl 1)) ?_
              refine lv_iload hx hb dX7_codeOf_97 (lv_at hl 0 rfl) ?_
              refine vp_callSi (W.runS (As := [.long (fo 1), .int (nI (mview v n6))]) (rest := [.long x90]) ⟨hx, hb, hml, hown, hts⟩ (c_X7_has l (fo 1) (mview v n6) (by omega)) (va_cwS 2 hts gX7_codeOf_X7_has rfl rfl rfl (by decide +kernel) ⟨Nat.le_of_ble_eq_true rfl, Nat.le_of_ble_eq_true rfl⟩) ⟨px_blind0, fun U hU hW => ⟨rfl, trivial⟩⟩ rfl rfl hl.1 rfl (lv_room (Nat.le_of_ble_eq_true rfl)) dX7_codeOf_99 ⟨(Nat.le_of_ble_eq_true rfl), (Nat.le_of_ble_eq_true rfl)⟩) (fun r99 er99 => ?_)
              obtain rfl := er99.symm
              refine pk_b (P := bt (fo 1) (mview v n6) = true) (fun b99 => ?_) (fun b99 => ?_)
              · refine lv_if_eq (tgt := 109) hx hb dX7_codeOf_102 (by decide) (fun c102 => ?_) (fun c102 => ?_)
                · exact absurd c102 (by decide)
                · refine lv_lconst (v := 1) hx hb dX7_codeOf_105 (by decide) ?_
                  refine lv_goto (tgt := 130) hx hb dX7_codeOf_106 (by decide) ?_
                  refine lv_ladd hx hb dX7_codeOf_130 ?_
                  refine lv_topl (fun x130 ex130 => ?_)
                  refine lv_lstore_n (lv' := [(2, .long x130), (9, .int (nI (mview v n6))), (8, .int (nI (mcol v n6))), (7, .int (nI (mrow v n6))), (6, .int (nI (n6 % 6))), (5, .int (nI (n6 / 6))), (4, .int (nI n6)), (0, .ref h0), (1, .int (nI v))]) hx hb dX7_codeOf_131 rfl hl (by decide) rfl (fun ls hl => ?_)
                  obtain ⟨x132, ex132⟩ : ∃ y : Int32, y = (nI n6) + (-1) := ⟨_, rfl⟩
                  refine lv_iinc (v := x132) (lv' := [(4, .int x132), (2, .long x130), (9, .int (nI (mview v n6))), (8, .int (nI (mcol v n6))), (7, .int (nI (mrow v n6))), (6, .int (nI (n6 % 6))), (5, .int (nI (n6 / 6))), (0, .ref h0), (1, .int (nI v))]) hx hb dX7_codeOf_132 hl (k := 6) rfl (by rw [ex132]; rfl) (by decide) rfl (fun ls hl => ?_)
                  refine lv_goto (tgt := 6) hx hb dX7_codeOf_135 (by decide) ?_
                  exact ih6 (i6 + 1) (by omega) ls (by { rw [← (show x132 = _ from (ex132).trans (pm_dec _))]; have e9 : (x130 : Int64) = (mcode (fo 1) (fo 2) v (i6 + 1)) := by { obtain rfl : n6 = 35 - i6 := (by omega); obtain rfl := ex90.symm; obtain rfl := ex130.symm; obtain rfl := ex132.symm; first | exact mcode_1 b99 | exact mcode_2 b99 b117 | exact mcode_3 b99 b117 }; rw [← e9]; exact lv_sub hl [0, 1, 7, 8] rfl })
              · refine lv_if_eq (tgt := 109) hx hb dX7_codeOf_102 (by decide) (fun c102 => ?_) (fun c102 => ?_)
                · refine lv_aload_n hx hb dX7_codeOf_109 rfl (lv_at hl 7 rfl) ?_
                  refine va_get (D := D) (ci := 4) (v := .ref ow) (C := RX7) (T := TX7) (N := 15) hx hb hts hinX7 hown hK hP 0 rfl rfl 1 (by decide) hfl7 (fun _ h9 => h9) rfl dX7_codeOf_110 ?_
                  refine lv_iconst (v := 2) hx hb dX7_codeOf_113 (by decide) ?_
                  refine va_lald hx hb hK hP 1 1 rfl rfl (vp_in_nI (n := 2) (N := 3) (by omega) (by decide)) dX7_codeOf_114 ?_
                  refine pk_tl (y := (fo 2)) (congrArg fo (pk_cl 2)) ?_
                  refine lv_iload hx hb dX7_codeOf_115 (lv_at hl 0 rfl) ?_
                  refine vp_callSi (W.runS (As := [.long (fo 2), .int (nI (mview v n6))]) (rest := [.long x90]) ⟨hx, hb, hml, hown, hts⟩ (c_X7_has l (fo 2) (mview v n6) (by omega)) (va_cwS 2 hts gX7_codeOf_X7_has rfl rfl rfl (by decide +kernel) ⟨Nat.le_of_ble_eq_true rfl, Nat.le_of_ble_eq_true rfl⟩) ⟨px_blind0, fun U hU hW => ⟨rfl, trivial⟩⟩ rfl rfl hl.1 rfl (lv_room (Nat.le_of_ble_eq_true rfl)) dX7_codeOf_117 ⟨(Nat.le_of_ble_eq_true rfl), (Nat.le_of_ble_eq_true rfl)⟩) (fun r117 er117 => ?_)
                  obtain rfl := er117.symm
                  refine pk_b (P := bt (fo 2) (mview v n6) = true) (fun b117 => ?_) (fun b117 => ?_)
                  · refine lv_if_eq (tgt := 129) hx hb dX7_codeOf_120 (by decide) (fun c120 => ?_) (fun c120 => ?_)
                    · exact absurd c120 (by decide)
                    · refine lv_ldc2 (v := 2) hx hb hown (hts (.constantLong RX7 114 (2)) (by decide +kernel)) dX7_codeOf_123 ?_
                      refine lv_goto (tgt := 130) hx hb dX7_codeOf_126 (by decide) ?_
                      refine lv_ladd hx hb dX7_codeOf_130 ?_
                      refine lv_topl (fun x130 ex130 => ?_)
                      refine lv_lstore_n (lv' := [(2, .long x130), (9, .int (nI (mview v n6))), (8, .int (nI (mcol v n6))), (7, .int (nI (mrow v n6))), (6, .int (nI (n6 % 6))), (5, .int (nI (n6 / 6))), (4, .int (nI n6)), (0, .ref h0), (1, .int (nI v))]) hx hb dX7_codeOf_131 rfl hl (by decide) rfl (fun ls hl => ?_)
                      obtain ⟨x132, ex132⟩ : ∃ y : Int32, y = (nI n6) + (-1) := ⟨_, rfl⟩
                      refine lv_iinc (v := x132) (lv' := [(4, .int x132), (2, .long x130), (9, .int (nI (mview v n6))), (8, .int (nI (mcol v n6))), (7, .int (nI (mrow v n6))), (6, .int (nI (n6 % 6))), (5, .int (nI (n6 / 6))), (0, .ref h0), (1, .int (nI v))]) hx hb dX7_codeOf_132 hl (k := 6) rfl (by rw [ex132]; rfl) (by decide) rfl (fun ls hl => ?_)
                      refine lv_goto (tgt := 6) hx hb dX7_codeOf_135 (by decide) ?_
                      exact ih6 (i6 + 1) (by omega) ls (by { rw [← (show x132 = _ from (ex132).trans (pm_dec _))]; have e9 : (x130 : Int64) = (mcode (fo 1) (fo 2) v (i6 + 1)) := by { obtain rfl : n6 = 35 - i6 := (by omega); obtain rfl := ex90.symm; obtain rfl := ex130.symm; obtain rfl := ex132.symm; first | exact mcode_1 b99 | exact mcode_2 b99 b117 | exact mcode_3 b99 b117 }; rw [← e9]; exact lv_sub hl [0, 1, 7, 8] rfl })
                  · refine lv_if_eq (tgt := 129) hx hb dX7_codeOf_120 (by decide) (fun c120 => ?_) (fun c120 => ?_)
                    · refine lv_lconst (v := 0) hx hb dX7_codeOf_129 (by decide) ?_
                      refine lv_ladd hx hb dX7_codeOf_130 ?_
                      refine lv_topl (fun x130 ex130 => ?_)
                      refine lv_lstore_n (lv' := [(2, .long x130), (9, .int (nI (mview v n6))), (8, .int (nI (mcol v n6))), (7, .int (nI (mrow v n6))), (6, .int (nI (n6 % 6))), (5, .int (nI (n6 / 6))), (4, .int (nI n6)), (0, .ref h0), (1, .int (nI v))]) hx hb dX7_codeOf_131 rfl hl (by decide) rfl (fun ls hl => ?_)
                      obtain ⟨x132, ex132⟩ : ∃ y : Int32, y = (nI n6) + (-1) := ⟨_, rfl⟩
                      refine lv_iinc (v := x132) (lv' := [(4, .int x132), (2, .long x130), (9, .int (nI (mview v n6))), (8, .int (nI (mcol v n6))), (7, .int (nI (mrow v n6))), (6, .int (nI (n6 % 6))), (5, .int (nI (n6 / 6))), (0, .ref h0), (1, .int (nI v))]) hx hb dX7_codeOf_132 hl (k := 6) rfl (by rw [ex132]; rfl) (by decide) rfl (fun ls hl => ?_)
                      refine lv_goto (tgt := 6) hx hb dX7_codeOf_135 (by decide) ?_
                      exact ih6 (i6 + 1) (by omega) ls (by { rw [← (show x132 = _ from (ex132).trans (pm_dec _))]; have e9 : (x130 : Int64) = (mcode (fo 1) (fo 2) v (i6 + 1)) := by { obtain rfl : n6 = 35 - i6 := (by omega); obtain rfl := ex90.symm; obtain rfl := ex130.symm; obtain rfl := ex132.symm; first | exact mcode_1 b99 | exact mcode_2 b99 b117 | exact mcode_3 b99 b117 }; rw [← e9]; exact lv_sub hl [0, 1, 7, 8] rfl })
                    · exact absurd c120 (by decide)
                · exact absurd c102 (by decide)
          · have c45 : (v / 2 % 2 * 2) = 0 := (nq_eq (a := (v / 2 % 2 * 2)) (b := 0) (by omega) (by omega)).mp c45
            refine lv_iload hx hb dX7_codeOf_48 (lv_at hl 1 rfl) ?_
            refine lv_goto (tgt := 57) hx hb dX7_codeOf_50 (by decide) ?_
            refine pk_ti (y := nI (mcol v n6)) (congrArg nI (by unfold mcol; first | exact (if_pos (by assumption)).symm | exact (if_neg (by assumption)).symm)) ?_
            refine lv_istore (lv' := [(8, .int (nI (mcol v n6))), (7, .int (nI (mrow v n6))), (6, .int (nI (n6 % 6))), (5, .int (nI (n6 / 6))), (4, .int (nI n6)), (2, .long (mcode (fo 1) (fo 2) v i6)), (0, .ref h0), (1, .int (nI v))]) hx hb dX7_codeOf_57 hl (by decide) rfl (fun ls hl => ?_)
            refine lv_iload_n hx hb dX7_codeOf_59 rfl (lv_at hl 7 rfl) ?_
            refine lv_iconst (v := 4) hx hb dX7_codeOf_60 (by decide) ?_
            refine lv_iand hx hb dX7_codeOf_61 ?_
            refine pk_ti (y := nI (v / 4 % 2 * 4)) (view4 v hv) ?_
            refine lv_if_ne (tgt := 76) hx hb dX7_codeOf_62 (by decide) (fun c62 => ?_) (fun c62 => ?_)
            · have c62 : ¬ (v / 4 % 2 * 4) = 0 := _root_.mt (nq_eq (a := (v / 4 % 2 * 4)) (b := 0) (by omega) (by omega)).mpr c62
              refine lv_bipush (v := 6) hx hb dX7_codeOf_76 (by decide) ?_
              refine lv_iload hx hb dX7_codeOf_78 (lv_at hl 0 rfl) ?_
              refine lv_imul hx hb dX7_codeOf_80 ?_
              refine pk_ti (y := nI (6 * (mcol v n6))) (pk_mul 6 (mcol v n6)) ?_
              refine lv_iload hx hb dX7_codeOf_81 (lv_at hl 1 rfl) ?_
              refine lv_iadd hx hb dX7_codeOf_83 ?_
              refine pk_ti (y := nI ((6 * (mcol v n6)) + (mrow v n6))) (nI_add (6 * (mcol v n6)) (mrow v n6)) ?_
              refine pk_ti (y := nI (mview v n6)) (congrArg nI (by unfold mview; first | exact (if_pos (by assumption)).symm | exact (if_neg (by assumption)).symm)) ?_
              refine lv_istore (lv' := [(9, .int (nI (mview v n6))), (8, .int (nI (mcol v n6))), (7, .int (nI (mrow v n6))), (6, .int (nI (n6 % 6))), (5, .int (nI (n6 / 6))), (4, .int (nI n6)), (2, .long (mcode (fo 1) (fo 2) v i6)), (0, .ref h0), (1, .int (nI v))]) hx hb dX7_codeOf_84 hl (by decide) rfl (fun ls hl => ?_)
              refine lv_ldc2 (v := 3) hx hb hown (hts (.constantLong RX7 112 (3)) (by decide +kernel)) dX7_codeOf_86 ?_
              refine lv_lload_n hx hb dX7_codeOf_89 rfl (lv_at hl 6 rfl) ?_
              refine lv_lmul hx hb dX7_codeOf_90 ?_
              refine lv_topl (fun x90 ex90 => ?_)
              refine lv_aload_n hx hb dX7_codeOf_91 rfl (lv_at hl 7 rfl) ?_
              refine va_get (D := D) (ci := 4) (v := .ref ow) (C := RX7) (T := TX7) (N := 15) hx hb hts hinX7 hown hK hP 0 rfl rfl 1 (by decide) hfl7 (fun _ h9 => h9) rfl dX7_codeOf_92 ?_
              refine lv_iconst (v := 1) hx hb dX7_codeOf_95 (by decide) ?_
              refine va_lald hx hb hK hP 1 1 rfl rfl (vp_in_nI (n := 1) (N := 3) (by omega) (by decide)) dX7_codeOf_96 ?_
              refine pk_tl (y := (fo 1)) (congrArg fo (pk_cl 1)) ?_
              refine lv_iload hx hb dX7_codeOf_97 (lv_at hl 0 rfl) ?_
              refine vp_callSi (W.runS (As := [.long (fo 1), .int (nI (mview v n6))]) (rest := [.long x90]) ⟨hx, hb, hml, hown, hts⟩ (c_X7_has l (fo 1) (mview v n6) (by omega)) (va_cwS 2 hts gX7_codeOf_X7_has rfl rfl rfl (by decide +kernel) ⟨Nat.le_of_ble_eq_true rfl, Nat.le_of_ble_eq_true rfl⟩) ⟨px_blind0, fun U hU hW => ⟨rfl, trivial⟩⟩ rfl rfl hl.1 rfl (lv_room (Nat.le_of_ble_eq_true rfl)) dX7_codeOf_99 ⟨(Nat.le_of_ble_eq_true rfl), (Nat.le_of_ble_eq_true rfl)⟩) (fun r99 er99 => ?_)
              obtain rfl := er99.symm
              refine pk_b (P := bt (fo 1) (mview v n6) = true) (fun b99 => ?_) (fun b99 => ?_)
              · refine lv_if_eq (tgt := 109) hx hb dX7_codeOf_102 (by decide) (fun c102 => ?_) (fun c102 => ?_)
                · exact absurd c102 (by decide)
                · refine lv_lconst (v := 1) hx hb dX7_codeOf_105 (by decide) ?_
                  refine lv_goto (tgt := 130) hx hb dX7_codeOf_106 (by decide) ?_
                  refine lv_ladd hx hb dX7_codeOf_130 ?_
                  refine lv_topl (fun x130 ex130 => ?_)
                  refine lv_lstore_n (lv' := [(2, .long x130), (9, .int (nI (mview v n6))), (8, .int (nI (mcol v n6))), (7, .int (nI (mrow v n6))), (6, .int (nI (n6 % 6))), (5, .int (nI (n6 / 6))), (4, .int (nI n6)), (0, .ref h0), (1, .int (nI v))]) hx hb dX7_codeOf_131 rfl hl (by decide) rfl (fun ls hl => ?_)
                  obtain ⟨x132, ex132⟩ : ∃ y : Int32, y = (nI n6) + (-1) := ⟨_, rfl⟩
                  refine lv_iinc (v := x132) (lv' := [(4, .int x132), (2, .long x130), (9, .int (nI (mview v n6))), (8, .int (nI (mcol v n6))), (7, .int (nI (mrow v n6))), (6, .int (nI (n6 % 6))), (5, .int (nI (n6 / 6))), (0, .ref h0), (1, .int (nI v))]) hx hb dX7_codeOf_132 hl (k := 6) rfl (by rw [ex132]; rfl) (by decide) rfl (fun ls hl => ?_)
                  refine lv_goto (tgt := 6) hx hb dX7_codeOf_135 (by decide) ?_
                  exact ih6 (i6 + 1) (by omega) ls (by { rw [← (show x132 = _ from (ex132).trans (pm_dec _))]; have e9 : (x130 : Int64) = (mcode (fo 1) (fo 2) v (i6 + 1)) := by { obtain rfl : n6 = 35 - i6 := (by omega); obtain rfl := ex90.symm; obtain rfl := ex130.symm; obtain rfl := ex132.symm; first | exact mcode_1 b99 | exact mcode_2 b99 b117 | exact mcode_3 b99 b117 }; rw [← e9]; exact lv_sub hl [0, 1, 7, 8] rfl })
              · refine lv_if_eq (tgt := 109) hx hb dX7_codeOf_102 (by decide) (fun c102 => ?_) (fun c102 => ?_)
                · refine lv_aload_n hx hb dX7_codeOf_109 rfl (lv_at hl 7 rfl) ?_
                  refine va_get (D := D) (ci := 4) (v := .ref ow) (C := RX7) (T := TX7) (N := 15) hx hb hts hinX7 hown hK hP 0 rfl rfl 1 (by decide) hfl7 (fun _ h9 => h9) rfl dX7_codeOf_110 ?_
                  refine lv_iconst (v := 2) hx hb dX7_codeOf_113 (by decide) ?_
                  refine va_lald hx hb hK hP 1 1 rfl rfl (vp_in_nI (n := 2) (N := 3) (by omega) (by decide)) dX7_codeOf_114 ?_
                  refine pk_tl (y := (fo 2)) (congrArg fo (pk_cl 2)) ?_
                  refine lv_iload hx hb dX7_codeOf_115 (lv_at hl 0 rfl) ?_
                  refine vp_callSi (W.runS (As := [.long (fo 2), .int (nI (mview v n6))]) (rest := [.long x90]) ⟨hx, hb, hml, hown, hts⟩ (c_X7_has l (fo 2) (mview v n6) (by omega)) (va_cwS 2 hts gX7_codeOf_X7_has rfl rfl rfl (by decide +kernel) ⟨Nat.le_of_ble_eq_true rfl, Nat.le_of_ble_eq_true rfl⟩) ⟨px_blind0, fun U hU hW => ⟨rfl, trivial⟩⟩ rfl rfl hl.1 rfl (lv_room (Nat.le_of_ble_eq_true rfl)) dX7_codeOf_117 ⟨(Nat.le_of_ble_eq_true rfl), (Nat.le_of_ble_eq_true rfl)⟩) (fun r117 er117 => ?_)
                  obtain rfl := er117.symm
                  refine pk_b (P := bt (fo 2) (mview v n6) = true) (fun b117 => ?_) (fun b117 => ?_)
                  · refine lv_if_eq (tgt := 129) hx hb dX7_codeOf_120 (by decide) (fun c120 => ?_) (fun c120 => ?_)
                    · exact absurd c120 (by decide)
                    · refine lv_ldc2 (v := 2) hx hb hown (hts (.constantLong RX7 114 (2)) (by decide +kernel)) dX7_codeOf_123 ?_
                      refine lv_goto (tgt := 130) hx hb dX7_codeOf_126 (by decide) ?_
                      refine lv_ladd hx hb dX7_codeOf_130 ?_
                      refine lv_topl (fun x130 ex130 => ?_)
                      refine lv_lstore_n (lv' := [(2, .long x130), (9, .int (nI (mview v n6))), (8, .int (nI (mcol v n6))), (7, .int (nI (mrow v n6))), (6, .int (nI (n6 % 6))), (5, .int (nI (n6 / 6))), (4, .int (nI n6)), (0, .ref h0), (1, .int (nI v))]) hx hb dX7_codeOf_131 rfl hl (by decide) rfl (fun ls hl => ?_)
                      obtain ⟨x132, ex132⟩ : ∃ y : Int32, y = (nI n6) + (-1) := ⟨_, rfl⟩
                      refine lv_iinc (v := x132) (lv' := [(4, .int x132), (2, .long x130), (9, .int (nI (mview v n6))), (8, .int (nI (mcol v n6))), (7, .int (nI (mrow v n6))), (6, .int (nI (n6 % 6))), (5, .int (nI (n6 / 6))), (0, .ref h0), (1, .int (nI v))]) hx hb dX7_codeOf_132 hl (k := 6) rfl (by rw [ex132]; rfl) (by decide) rfl (fun ls hl => ?_)
                      refine lv_goto (tgt := 6) hx hb dX7_codeOf_135 (by decide) ?_
                      exact ih6 (i6 + 1) (by omega) ls (by { rw [← (show x132 = _ from (ex132).trans (pm_dec _))]; have e9 : (x130 : Int64) = (mcode (fo 1) (fo 2) v (i6 + 1)) := by { obtain rfl : n6 = 35 - i6 := (by omega); obtain rfl := ex90.symm; obtain rfl := ex130.symm; obtain rfl := ex132.symm; first | exact mcode_1 b99 | exact mcode_2 b99 b117 | exact mcode_3 b99 b117 }; rw [← e9]; exact lv_sub hl [0, 1, 7, 8] rfl })
                  · refine lv_if_eq (tgt := 129) hx hb dX7_codeOf_120 (by decide) (fun c120 => ?_) (fun c120 => ?_)
                    · refine lv_lconst (v := 0) hx hb dX7_codeOf_129 (by decide) ?_
                      refine lv_ladd hx hb dX7_codeOf_130 ?_
                      refine lv_topl (fun x130 ex130 => ?_)
                      refine lv_lstore_n (lv' := [(2, .long x130), (9, .int (nI (mview v n6))), (8, .int (nI (mcol v n6))), (7, .int (nI (mrow v n6))), (6, .int (nI (n6 % 6))), (5, .int (nI (n6 / 6))), (4, .int (nI n6)), (0, .ref h0), (1, .int (nI v))]) hx hb dX7_codeOf_131 rfl hl (by decide) rfl (fun ls hl => ?_)
                      obtain ⟨x132, ex132⟩ : ∃ y : Int32, y = (nI n6) + (-1) := ⟨_, rfl⟩
                      refine lv_iinc (v := x132) (lv' := [(4, .int x132), (2, .long x130), (9, .int (nI (mview v n6))), (8, .int (nI (mcol v n6))), (7, .int (nI (mrow v n6))), (6, .int (nI (n6 % 6))), (5, .int (nI (n6 / 6))), (0, .ref h0), (1, .int (nI v))]) hx hb dX7_codeOf_132 hl (k := 6) rfl (by rw [ex132]; rfl) (by decide) rfl (fun ls hl => ?_)
                      refine lv_goto (tgt := 6) hx hb dX7_codeOf_135 (by decide) ?_
                      exact ih6 (i6 + 1) (by omega) ls (by { rw [← (show x132 = _ from (ex132).trans (pm_dec _))]; have e9 : (x130 : Int64) = (mcode (fo 1) (fo 2) v (i6 + 1)) := by { obtain rfl : n6 = 35 - i6 := (by omega); obtain rfl := ex90.symm; obtain rfl := ex130.symm; obtain rfl := ex132.symm; first | exact mcode_1 b99 | exact mcode_2 b99 b117 | exact mcode_3 b99 b117 }; rw [← e9]; exact lv_sub hl [0, 1, 7, 8] rfl })
                    · exact absurd c120 (by decide)
                · exact absurd c102 (by decide)
            · have c62 : (v / 4 % 2 * 4) = 0 := (nq_eq (a := (v / 4 % 2 * 4)) (b := 0) (by omega) (by omega)).mp c62
              refine lv_bipush (v := 6) hx hb dX7_codeOf_65 (by decide) ?_
              refine lv_iload hx hb dX7_codeOf_67 (lv_at hl 1 rfl) ?_
              refine lv_imul hx hb dX7_codeOf_69 ?_
              refine pk_ti (y := nI (6 * (mrow v n6))) (pk_mul 6 (mrow v n6)) ?_
              refine lv_iload hx hb dX7_codeOf_70 (lv_at hl 0 rfl) ?_
              refine lv_iadd hx hb dX7_codeOf_72 ?_
              refine pk_ti (y := nI ((6 * (mrow v n6)) + (mcol v n6))) (nI_add (6 * (mrow v n6)) (mcol v n6)) ?_
              refine lv_goto (tgt := 84) hx hb dX7_codeOf_73 (by decide) ?_
              refine pk_ti (y := nI (mview v n6)) (congrArg nI (by unfold mview; first | exact (if_pos (by assumption)).symm | exact (if_neg (by assumption)).symm)) ?_
              refine lv_istore (lv' := [(9, .int (nI (mview v n6))), (8, .int (nI (mcol v n6))), (7, .int (nI (mrow v n6))), (6, .int (nI (n6 % 6))), (5, .int (nI (n6 / 6))), (4, .int (nI n6)), (2, .long (mcode (fo 1) (fo 2) v i6)), (0, .ref h0), (1, .int (nI v))]) hx hb dX7_codeOf_84 hl (by decide) rfl (fun ls hl => ?_)
              refine lv_ldc2 (v := 3) hx hb hown (hts (.constantLong RX7 112 (3)) (by decide +kernel)) dX7_codeOf_86 ?_
              refine lv_lload_n hx hb dX7_codeOf_89 rfl (lv_at hl 6 rfl) ?_
              refine lv_lmul hx hb dX7_codeOf_90 ?_
              refine lv_topl (fun x90 ex90 => ?_)
              refine lv_aload_n hx hb dX7_codeOf_91 rfl (lv_at hl 7 rfl) ?_
              refine va_get (D := D) (ci := 4) (v := .ref ow) (C := RX7) (T := TX7) (N := 15) hx hb hts hinX7 hown hK hP 0 rfl rfl 1 (by decide) hfl7 (fun _ h9 => h9) rfl dX7_codeOf_92 ?_
              refine lv_iconst (v := 1) hx hb dX7_codeOf_95 (by decide) ?_
              refine va_lald hx hb hK hP 1 1 rfl rfl (vp_in_nI (n := 1) (N := 3) (by omega) (by decide)) dX7_codeOf_96 ?_
              refine pk_tl (y := (fo 1)) (congrArg fo (pk_cl 1)) ?_
              refine lv_iload hx hb dX7_codeOf_97 (lv_at hl 0 rfl) ?_
              refine vp_callSi (W.runS (As := [.long (fo 1), .int (nI (mview v n6))]) (rest := [.long x90]) ⟨hx, hb, hml, hown, hts⟩ (c_X7_has l (fo 1) (mview v n6) (by omega)) (va_cwS 2 hts gX7_codeOf_X7_has rfl rfl rfl (by decide +kernel) ⟨Nat.le_of_ble_eq_true rfl, Nat.le_of_ble_eq_true rfl⟩) ⟨px_blind0, fun U hU hW => ⟨rfl, trivial⟩⟩ rfl rfl hl.1 rfl (lv_room (Nat.le_of_ble_eq_true rfl)) dX7_codeOf_99 ⟨(Nat.le_of_ble_eq_true rfl), (Nat.le_of_ble_eq_true rfl)⟩) (fun r99 er99 => ?_)
              obtain rfl := er99.symm
              refine pk_b (P := bt (fo 1) (mview v n6) = true) (fun b99 => ?_) (fun b99 => ?_)
              · refine lv_if_eq (tgt := 109) hx hb dX7_codeOf_102 (by decide) (fun c102 => ?_) (fun c102 => ?_)
                · exact absurd c102 (by decide)
                · refine lv_lconst (v := 1) hx hb dX7_codeOf_105 (by decide) ?_
                  refine lv_goto (tgt := 130) hx hb dX7_codeOf_106 (by decide) ?_
                  refine lv_ladd hx hb dX7_codeOf_130 ?_
                  refine lv_topl (fun x130 ex130 => ?_)
                  refine lv_lstore_n (lv' := [(2, .long x130), (9, .int (nI (mview v n6))), (8, .int (nI (mcol v n6))), (7, .int (nI (mrow v n6))), (6, .int (nI (n6 % 6))), (5, .int (nI (n6 / 6))), (4, .int (nI n6)), (0, .ref h0), (1, .int (nI v))]) hx hb dX7_codeOf_131 rfl hl (by decide) rfl (fun ls hl => ?_)
                  obtain ⟨x132, ex132⟩ : ∃ y : Int32, y = (nI n6) + (-1) := ⟨_, rfl⟩
                  refine lv_iinc (v := x132) (lv' := [(4, .int x132), (2, .long x130), (9, .int (nI (mview v n6))), (8, .int (nI (mcol v n6))), (7, .int (nI (mrow v n6))), (6, .int (nI (n6 % 6))), (5, .int (nI (n6 / 6))), (0, .ref h0), (1, .int (nI v))]) hx hb dX7_codeOf_132 hl (k := 6) rfl (by rw [ex132]; rfl) (by decide) rfl (fun ls hl => ?_)
                  refine lv_goto (tgt := 6) hx hb dX7_codeOf_135 (by decide) ?_
                  exact ih6 (i6 + 1) (by omega) ls (by { rw [← (show x132 = _ from (ex132).trans (pm_dec _))]; have e9 : (x130 : Int64) = (mcode (fo 1) (fo 2) v (i6 + 1)) := by { obtain rfl : n6 = 35 - i6 := (by omega); obtain rfl := ex90.symm; obtain rfl := ex130.symm; obtain rfl := ex132.symm; first | exact mcode_1 b99 | exact mcode_2 b99 b117 | exact mcode_3 b99 b117 }; rw [← e9]; exact lv_sub hl [0, 1, 7, 8] rfl })
              · refine lv_if_eq (tgt := 109) hx hb dX7_codeOf_102 (by decide) (fun c102 => ?_) (fun c102 => ?_)
                · refine lv_aload_n hx hb dX7_codeOf_109 rfl (lv_at hl 7 rfl) ?_
                  refine va_get (D := D) (ci := 4) (v := .ref ow) (C := RX7) (T := TX7) (N := 15) hx hb hts hinX7 hown hK hP 0 rfl rfl 1 (by decide) hfl7 (fun _ h9 => h9) rfl dX7_codeOf_110 ?_
                  refine lv_iconst (v := 2) hx hb dX7_codeOf_113 (by decide) ?_
                  refine va_lald hx hb hK hP 1 1 rfl rfl (vp_in_nI (n := 2) (N := 3) (by omega) (by decide)) dX7_codeOf_114 ?_
                  refine pk_tl (y := (fo 2)) (congrArg fo (pk_cl 2)) ?_
                  refine lv_iload hx hb dX7_codeOf_115 (lv_at hl 0 rfl) ?_
                  refine vp_callSi (W.runS (As := [.long (fo 2), .int (nI (mview v n6))]) (rest := [.long x90]) ⟨hx, hb, hml, hown, hts⟩ (c_X7_has l (fo 2) (mview v n6) (by omega)) (va_cwS 2 hts gX7_codeOf_X7_has rfl rfl rfl (by decide +kernel) ⟨Nat.le_of_ble_eq_true rfl, Nat.le_of_ble_eq_true rfl⟩) ⟨px_blind0, fun U hU hW => ⟨rfl, trivial⟩⟩ rfl rfl hl.1 rfl (lv_room (Nat.le_of_ble_eq_true rfl)) dX7_codeOf_117 ⟨(Nat.le_of_ble_eq_true rfl), (Nat.le_of_ble_eq_true rfl)⟩) (fun r117 er117 => ?_)
                  obtain rfl := er117.symm
                  refine pk_b (P := bt (fo 2) (mview v n6) = true) (fun b117 => ?_) (fun b117 => ?_)
                  · refine lv_if_eq (tgt := 129) hx hb dX7_codeOf_120 (by decide) (fun c120 => ?_) (fun c120 => ?_)
                    · exact absurd c120 (by decide)
                    · refine lv_ldc2 (v := 2) hx hb hown (hts (.constantLong RX7 114 (2)) (by decide +kernel)) dX7_codeOf_123 ?_
                      refine lv_goto (tgt := 130) hx hb dX7_codeOf_126 (by decide) ?_
                      refine lv_ladd hx hb dX7_codeOf_130 ?_
                      refine lv_topl (fun x130 ex130 => ?_)
                      refine lv_lstore_n (lv' := [(2, .long x130), (9, .int (nI (mview v n6))), (8, .int (nI (mcol v n6))), (7, .int (nI (mrow v n6))), (6, .int (nI (n6 % 6))), (5, .int (nI (n6 / 6))), (4, .int (nI n6)), (0, .ref h0), (1, .int (nI v))]) hx hb dX7_codeOf_131 rfl hl (by decide) rfl (fun ls hl => ?_)
                      obtain ⟨x132, ex132⟩ : ∃ y : Int32, y = (nI n6) + (-1) := ⟨_, rfl⟩
                      refine lv_iinc (v := x132) (lv' := [(4, .int x132), (2, .long x130), (9, .int (nI (mview v n6))), (8, .int (nI (mcol v n6))), (7, .int (nI (mrow v n6))), (6, .int (nI (n6 % 6))), (5, .int (nI (n6 / 6))), (0, .ref h0), (1, .int (nI v))]) hx hb dX7_codeOf_132 hl (k := 6) rfl (by rw [ex132]; rfl) (by decide) rfl (fun ls hl => ?_)
                      refine lv_goto (tgt := 6) hx hb dX7_codeOf_135 (by decide) ?_
                      exact ih6 (i6 + 1) (by omega) ls (by { rw [← (show x132 = _ from (ex132).trans (pm_dec _))]; have e9 : (x130 : Int64) = (mcode (fo 1) (fo 2) v (i6 + 1)) := by { obtain rfl : n6 = 35 - i6 := (by omega); obtain rfl := ex90.symm; obtain rfl := ex130.symm; obtain rfl := ex132.symm; first | exact mcode_1 b99 | exact mcode_2 b99 b117 | exact mcode_3 b99 b117 }; rw [← e9]; exact lv_sub hl [0, 1, 7, 8] rfl })
                  · refine lv_if_eq (tgt := 129) hx hb dX7_codeOf_120 (by decide) (fun c120 => ?_) (fun c120 => ?_)
                    · refine lv_lconst (v := 0) hx hb dX7_codeOf_129 (by decide) ?_
                      refine lv_ladd hx hb dX7_codeOf_130 ?_
                      refine lv_topl (fun x130 ex130 => ?_)
                      refine lv_lstore_n (lv' := [(2, .long x130), (9, .int (nI (mview v n6))), (8, .int (nI (mcol v n6))), (7, .int (nI (mrow v n6))), (6, .int (nI (n6 % 6))), (5, .int (nI (n6 / 6))), (4, .int (nI n6)), (0, .ref h0), (1, .int (nI v))]) hx hb dX7_codeOf_131 rfl hl (by decide) rfl (fun ls hl => ?_)
                      obtain ⟨x132, ex132⟩ : ∃ y : Int32, y = (nI n6) + (-1) := ⟨_, rfl⟩
                      refine lv_iinc (v := x132) (lv' := [(4, .int x132), (2, .long x130), (9, .int (nI (mview v n6))), (8, .int (nI (mcol v n6))), (7, .int (nI (mrow v n6))), (6, .int (nI (n6 % 6))), (5, .int (nI (n6 / 6))), (0, .ref h0), (1, .int (nI v))]) hx hb dX7_codeOf_132 hl (k := 6) rfl (by rw [ex132]; rfl) (by decide) rfl (fun ls hl => ?_)
                      refine lv_goto (tgt := 6) hx hb dX7_codeOf_135 (by decide) ?_
                      exact ih6 (i6 + 1) (by omega) ls (by { rw [← (show x132 = _ from (ex132).trans (pm_dec _))]; have e9 : (x130 : Int64) = (mcode (fo 1) (fo 2) v (i6 + 1)) := by { obtain rfl : n6 = 35 - i6 := (by omega); obtain rfl := ex90.symm; obtain rfl := ex130.symm; obtain rfl := ex132.symm; first | exact mcode_1 b99 | exact mcode_2 b99 b117 | exact mcode_3 b99 b117 }; rw [← e9]; exact lv_sub hl [0, 1, 7, 8] rfl })
                    · exact absurd c120 (by decide)
                · exact absurd c102 (by decide)
        · have c28 : (v % 2) = 0 := (nq_eq (a := (v % 2)) (b := 0) (by omega) (by omega)).mp c28
          refine lv_iload hx hb dX7_codeOf_31 (lv_at hl 1 rfl) ?_
          refine lv_goto (tgt := 40) hx hb dX7_codeOf_33 (by decide) ?_
          refine pk_ti (y := nI (mrow v n6)) (congrArg nI (by unfold mrow; first | exact (if_pos (by assumption)).symm | exact (if_neg (by assumption)).symm)) ?_
          refine lv_istore (lv' := [(7, .int (nI (mrow v n6))), (6, .int (nI (n6 % 6))), (5, .int (nI (n6 / 6))), (4, .int (nI n6)), (2, .long (mcode (fo 1) (fo 2) v i6)), (0, .ref h0), (1, .int (nI v))]) hx hb dX7_codeOf_40 hl (by decide) rfl (fun ls hl => ?_)
          refine lv_iload_n hx hb dX7_codeOf_42 rfl (lv_at hl 6 rfl) ?_
          refine lv_iconst (v := 2) hx hb dX7_codeOf_43 (by decide) ?_
          refine lv_iand hx hb dX7_codeOf_44 ?_
          refine pk_ti (y := nI (v / 2 % 2 * 2)) (view2 v hv) ?_
          refine lv_if_ne (tgt := 53) hx hb dX7_codeOf_45 (by decide) (fun c45 => ?_) (fun c45 => ?_)
          · have c45 : ¬ (v / 2 % 2 * 2) = 0 := _root_.mt (nq_eq (a := (v / 2 % 2 * 2)) (b := 0) (by omega) (by omega)).mpr c45
            refine lv_iconst (v := 5) hx hb dX7_codeOf_53 (by decide) ?_
            refine lv_iload hx hb dX7_codeOf_54 (lv_at hl 1 rfl) ?_
            refine lv_isub hx hb dX7_codeOf_56 ?_
            refine pk_ti (y := nI (5 - (n6 % 6))) (pk_sub (a := 5) (b := (n6 % 6)) (by omega)) ?_
            refine pk_ti (y := nI (mcol v n6)) (congrArg nI (by unfold mcol; first | exact (if_pos (by assumption)).symm | exact (if_neg (by assumption)).symm)) ?_
            refine lv_istore (lv' := [(8, .int (nI (mcol v n6))), (7, .int (nI (mrow v n6))), (6, .int (nI (n6 % 6))), (5, .int (nI (n6 / 6))), (4, .int (nI n6)), (2, .long (mcode (fo 1) (fo 2) v i6)), (0, .ref h0), (1, .int (nI v))]) hx hb dX7_codeOf_57 hl (by decide) rfl (fun ls hl => ?_)
            refine lv_iload_n hx hb dX7_codeOf_59 rfl (lv_at hl 7 rfl) ?_
            refine lv_iconst (v := 4) hx hb dX7_codeOf_60 (by decide) ?_
            refine lv_iand hx hb dX7_codeOf_61 ?_
            refine pk_ti (y := nI (v / 4 % 2 * 4)) (view4 v hv) ?_
            refine lv_if_ne (tgt := 76) hx hb dX7_codeOf_62 (by decide) (fun c62 => ?_) (fun c62 => ?_)
            · have c62 : ¬ (v / 4 % 2 * 4) = 0 := _root_.mt (nq_eq (a := (v / 4 % 2 * 4)) (b := 0) (by omega) (by omega)).mpr c62
              refine lv_bipush (v := 6) hx hb dX7_codeOf_76 (by decide) ?_
              refine lv_iload hx hb dX7_codeOf_78 (lv_at hl 0 rfl) ?_
              refine lv_imul hx hb dX7_codeOf_80 ?_
              refine pk_ti (y := nI (6 * (mcol v n6))) (pk_mul 6 (mcol v n6)) ?_
              refine lv_iload hx hb dX7_codeOf_81 (lv_at hl 1 rfl) ?_
              refine lv_iadd hx hb dX7_codeOf_83 ?_
              refine pk_ti (y := nI ((6 * (mcol v n6)) + (mrow v n6))) (nI_add (6 * (mcol v n6)) (mrow v n6)) ?_
              refine pk_ti (y := nI (mview v n6)) (congrArg nI (by unfold mview; first | exact (if_pos (by assumption)).symm | exact (if_neg (by assumption)).symm)) ?_
              refine lv_istore (lv' := [(9, .int (nI (mview v n6))), (8, .int (nI (mcol v n6))), (7, .int (nI (mrow v n6))), (6, .int (nI (n6 % 6))), (5, .int (nI (n6 / 6))), (4, .int (nI n6)), (2, .long (mcode (fo 1) (fo 2) v i6)), (0, .ref h0), (1, .int (nI v))]) hx hb dX7_codeOf_84 hl (by decide) rfl (fun ls hl => ?_)
              refine lv_ldc2 (v := 3) hx hb hown (hts (.constantLong RX7 112 (3)) (by decide +kernel)) dX7_codeOf_86 ?_
              refine lv_lload_n hx hb dX7_codeOf_89 rfl (lv_at hl 6 rfl) ?_
              refine lv_lmul hx hb dX7_codeOf_90 ?_
              refine lv_topl (fun x90 ex90 => ?_)
              refine lv_aload_n hx hb dX7_codeOf_91 rfl (lv_at hl 7 rfl) ?_
              refine va_get (D := D) (ci := 4) (v := .ref ow) (C := RX7) (T := TX7) (N := 15) hx hb hts hinX7 hown hK hP 0 rfl rfl 1 (by decide) hfl7 (fun _ h9 => h9) rfl dX7_codeOf_92 ?_
              refine lv_iconst (v := 1) hx hb dX7_codeOf_95 (by decide) ?_
              refine va_lald hx hb hK hP 1 1 rfl rfl (vp_in_nI (n := 1) (N := 3) (by omega) (by decide)) dX7_codeOf_96 ?_
              refine pk_tl (y := (fo 1)) (congrArg fo (pk_cl 1)) ?_
              refine lv_iload hx hb dX7_codeOf_97 (lv_at hl 0 rfl) ?_
              refine vp_callSi (W.runS (As := [.long (fo 1), .int (nI (mview v n6))]) (rest := [.long x90]) ⟨hx, hb, hml, hown, hts⟩ (c_X7_has l (fo 1) (mview v n6) (by omega)) (va_cwS 2 hts gX7_codeOf_X7_has rfl rfl rfl (by decide +kernel) ⟨Nat.le_of_ble_eq_true rfl, Nat.le_of_ble_eq_true rfl⟩) ⟨px_blind0, fun U hU hW => ⟨rfl, trivial⟩⟩ rfl rfl hl.1 rfl (lv_room (Nat.le_of_ble_eq_true rfl)) dX7_codeOf_99 ⟨(Nat.le_of_ble_eq_true rfl), (Nat.le_of_ble_eq_true rfl)⟩) (fun r99 er99 => ?_)
              obtain rfl := er99.symm
              refine pk_b (P := bt (fo 1) (mview v n6) = true) (fun b99 => ?_) (fun b99 => ?_)
              · refine lv_if_eq (tgt := 109) hx hb dX7_codeOf_102 (by decide) (fun c102 => ?_) (fun c102 => ?_)
                · exact absurd c102 (by decide)
                · refine lv_lconst (v := 1) hx hb dX7_codeOf_105 (by decide) ?_
                  refine lv_goto (tgt := 130) hx hb dX7_codeOf_106 (by decide) ?_
                  refine lv_ladd hx hb dX7_codeOf_130 ?_
                  refine lv_topl (fun x130 ex130 => ?_)
                  refine lv_lstore_n (lv' := [(2, .long x130), (9, .int (nI (mview v n6))), (8, .int (nI (mcol v n6))), (7, .int (nI (mrow v n6))), (6, .int (nI (n6 % 6))), (5, .int (nI (n6 / 6))), (4, .int (nI n6)), (0, .ref h0), (1, .int (nI v))]) hx hb dX7_codeOf_131 rfl hl (by decide) rfl (fun ls hl => ?_)
                  obtain ⟨x132, ex132⟩ : ∃ y : Int32, y = (nI n6) + (-1) := ⟨_, rfl⟩
                  refine lv_iinc (v := x132) (lv' := [(4, .int x132), (2, .long x130), (9, .int (nI (mview v n6))), (8, .int (nI (mcol v n6))), (7, .int (nI (mrow v n6))), (6, .int (nI (n6 % 6))), (5, .int (nI (n6 / 6))), (0, .ref h0), (1, .int (nI v))]) hx hb dX7_codeOf_132 hl (k := 6) rfl (by rw [ex132]; rfl) (by decide) rfl (fun ls hl => ?_)
                  refine lv_goto (tgt := 6) hx hb dX7_codeOf_135 (by decide) ?_
                  exact ih6 (i6 + 1) (by omega) ls (by { rw [← (show x132 = _ from (ex132).trans (pm_dec _))]; have e9 : (x130 : Int64) = (mcode (fo 1) (fo 2) v (i6 + 1)) := by { obtain rfl : n6 = 35 - i6 := (by omega); obtain rfl := ex90.symm; obtain rfl := ex130.symm; obtain rfl := ex132.symm; first | exact mcode_1 b99 | exact mcode_2 b99 b117 | exact mcode_3 b99 b117 }; rw [← e9]; exact lv_sub hl [0, 1, 7, 8] rfl })
              · refine lv_if_eq (tgt := 109) hx hb dX7_codeOf_102 (by decide) (fun c102 => ?_) (fun c102 => ?_)
                · refine lv_aload_n hx hb dX7_codeOf_109 rfl (lv_at hl 7 rfl) ?_
                  refine va_get (D := D) (ci := 4) (v := .ref ow) (C := RX7) (T := TX7) (N := 15) hx hb hts hinX7 hown hK hP 0 rfl rfl 1 (by decide) hfl7 (fun _ h9 => h9) rfl dX7_codeOf_110 ?_
                  refine lv_iconst (v := 2) hx hb dX7_codeOf_113 (by decide) ?_
                  refine va_lald hx hb hK hP 1 1 rfl rfl (vp_in_nI (n := 2) (N := 3) (by omega) (by decide)) dX7_codeOf_114 ?_
                  refine pk_tl (y := (fo 2)) (congrArg fo (pk_cl 2)) ?_
                  refine lv_iload hx hb dX7_codeOf_115 (lv_at hl 0 rfl) ?_
                  refine vp_callSi (W.runS (As := [.long (fo 2), .int (nI (mview v n6))]) (rest := [.long x90]) ⟨hx, hb, hml, hown, hts⟩ (c_X7_has l (fo 2) (mview v n6) (by omega)) (va_cwS 2 hts gX7_codeOf_X7_has rfl rfl rfl (by decide +kernel) ⟨Nat.le_of_ble_eq_true rfl, Nat.le_of_ble_eq_true rfl⟩) ⟨px_blind0, fun U hU hW => ⟨rfl, trivial⟩⟩ rfl rfl hl.1 rfl (lv_room (Nat.le_of_ble_eq_true rfl)) dX7_codeOf_117 ⟨(Nat.le_of_ble_eq_true rfl), (Nat.le_of_ble_eq_true rfl)⟩) (fun r117 er117 => ?_)
                  obtain rfl := er117.symm
                  refine pk_b (P := bt (fo 2) (mview v n6) = true) (fun b117 => ?_) (fun b117 => ?_)
                  · refine lv_if_eq (tgt := 129) hx hb dX7_codeOf_120 (by decide) (fun c120 => ?_) (fun c120 => ?_)
                    · exact absurd c120 (by decide)
                    · refine lv_ldc2 (v := 2) hx hb hown (hts (.constantLong RX7 114 (2)) (by decide +kernel)) dX7_codeOf_123 ?_
                      refine lv_goto (tgt := 130) hx hb dX7_codeOf_126 (by decide) ?_
                      refine lv_ladd hx hb dX7_codeOf_130 ?_
                      refine lv_topl (fun x130 ex130 => ?_)
                      refine lv_lstore_n (lv' := [(2, .long x130), (9, .int (nI (mview v n6))), (8, .int (nI (mcol v n6))), (7, .int (nI (mrow v n6))), (6, .int (nI (n6 % 6))), (5, .int (nI (n6 / 6))), (4, .int (nI n6)), (0, .ref h0), (1, .int (nI v))]) hx hb dX7_codeOf_131 rfl hl (by decide) rfl (fun ls hl => ?_)
                      obtain ⟨x132, ex132⟩ : ∃ y : Int32, y = (nI n6) + (-1) := ⟨_, rfl⟩
                      refine lv_iinc (v := x132) (lv' := [(4, .int x132), (2, .long x130), (9, .int (nI (mview v n6))), (8, .int (nI (mcol v n6))), (7, .int (nI (mrow v n6))), (6, .int (nI (n6 % 6))), (5, .int (nI (n6 / 6))), (0, .ref h0), (1, .int (nI v))]) hx hb dX7_codeOf_132 hl (k := 6) rfl (by rw [ex132]; rfl) (by decide) rfl (fun ls hl => ?_)
                      refine lv_goto (tgt := 6) hx hb dX7_codeOf_135 (by decide) ?_
                      exact ih6 (i6 + 1) (by omega) ls (by { rw [← (show x132 = _ from (ex132).trans (pm_dec _))]; have e9 : (x130 : Int64) = (mcode (fo 1) (fo 2) v (i6 + 1)) := by { obtain rfl : n6 = 35 - i6 := (by omega); obtain rfl := ex90.symm; obtain rfl := ex130.symm; obtain rfl := ex132.symm; first | exact mcode_1 b99 | exact mcode_2 b99 b117 | exact mcode_3 b99 b117 }; rw [← e9]; exact lv_sub hl [0, 1, 7, 8] rfl })
                  · refine lv_if_eq (tgt := 129) hx hb dX7_codeOf_120 (by decide) (fun c120 => ?_) (fun c120 => ?_)
                    · refine lv_lconst (v := 0) hx hb dX7_codeOf_129 (by decide) ?_
                      refine lv_ladd hx hb dX7_codeOf_130 ?_
                      refine lv_topl (fun x130 ex130 => ?_)
                      refine lv_lstore_n (lv' := [(2, .long x130), (9, .int (nI (mview v n6))), (8, .int (nI (mcol v n6))), (7, .int (nI (mrow v n6))), (6, .int (nI (n6 % 6))), (5, .int (nI (n6 / 6))), (4, .int (nI n6)), (0, .ref h0), (1, .int (nI v))]) hx hb dX7_codeOf_131 rfl hl (by decide) rfl (fun ls hl => ?_)
                      obtain ⟨x132, ex132⟩ : ∃ y : Int32, y = (nI n6) + (-1) := ⟨_, rfl⟩
                      refine lv_iinc (v := x132) (lv' := [(4, .int x132), (2, .long x130), (9, .int (nI (mview v n6))), (8, .int (nI (mcol v n6))), (7, .int (nI (mrow v n6))), (6, .int (nI (n6 % 6))), (5, .int (nI (n6 / 6))), (0, .ref h0), (1, .int (nI v))]) hx hb dX7_codeOf_132 hl (k := 6) rfl (by rw [ex132]; rfl) (by decide) rfl (fun ls hl => ?_)
                      refine lv_goto (tgt := 6) hx hb dX7_codeOf_135 (by decide) ?_
                      exact ih6 (i6 + 1) (by omega) ls (by { rw [← (show x132 = _ from (ex132).trans (pm_dec _))]; have e9 : (x130 : Int64) = (mcode (fo 1) (fo 2) v (i6 + 1)) := by { obtain rfl : n6 = 35 - i6 := (by omega); obtain rfl := ex90.symm; obtain rfl := ex130.symm; obtain rfl := ex132.symm; first | exact mcode_1 b99 | exact mcode_2 b99 b117 | exact mcode_3 b99 b117 }; rw [← e9]; exact lv_sub hl [0, 1, 7, 8] rfl })
                    · exact absurd c120 (by decide)
                · exact absurd c102 (by decide)
            · have c62 : (v / 4 % 2 * 4) = 0 := (nq_eq (a := (v / 4 % 2 * 4)) (b := 0) (by omega) (by omega)).mp c62
              refine lv_bipush (v := 6) hx hb dX7_codeOf_65 (by decide) ?_
              refine lv_iload hx hb dX7_codeOf_67 (lv_at hl 1 rfl) ?_
              refine lv_imul hx hb dX7_codeOf_69 ?_
              refine pk_ti (y := nI (6 * (mrow v n6))) (pk_mul 6 (mrow v n6)) ?_
              refine lv_iload hx hb dX7_codeOf_70 (lv_at hl 0 rfl) ?_
              refine lv_iadd hx hb dX7_codeOf_72 ?_
              refine pk_ti (y := nI ((6 * (mrow v n6)) + (mcol v n6))) (nI_add (6 * (mrow v n6)) (mcol v n6)) ?_
              refine lv_goto (tgt := 84) hx hb dX7_codeOf_73 (by decide) ?_
              refine pk_ti (y := nI (mview v n6)) (congrArg nI (by unfold mview; first | exact (if_pos (by assumption)).symm | exact (if_neg (by assumption)).symm)) ?_
              refine lv_istore (lv' := [(9, .int (nI (mview v n6))), (8, .int (nI (mcol v n6))), (7, .int (nI (mrow v n6))), (6, .int (nI (n6 % 6))), (5, .int (nI (n6 / 6))), (4, .int (nI n6)), (2, .long (mcode (fo 1) (fo 2) v i6)), (0, .ref h0), (1, .int (nI v))]) hx hb dX7_codeOf_84 hl (by decide) rfl (fun ls hl => ?_)
              refine lv_ldc2 (v := 3) hx hb hown (hts (.constantLong RX7 112 (3)) (by decide +kernel)) dX7_codeOf_86 ?_
              refine lv_lload_n hx hb dX7_codeOf_89 rfl (lv_at hl 6 rfl) ?_
              refine lv_lmul hx hb dX7_codeOf_90 ?_
              refine lv_topl (fun x90 ex90 => ?_)
              refine lv_aload_n hx hb dX7_codeOf_91 rfl (lv_at hl 7 rfl) ?_
              refine va_get (D := D) (ci := 4) (v := .ref ow) (C := RX7) (T := TX7) (N := 15) hx hb hts hinX7 hown hK hP 0 rfl rfl 1 (by decide) hfl7 (fun _ h9 => h9) rfl dX7_codeOf_92 ?_
              refine lv_iconst (v := 1) hx hb dX7_codeOf_95 (by decide) ?_
              refine va_lald hx hb hK hP 1 1 rfl rfl (vp_in_nI (n := 1) (N := 3) (by omega) (by decide)) dX7_codeOf_96 ?_
              refine pk_tl (y := (fo 1)) (congrArg fo (pk_cl 1)) ?_
              refine lv_iload hx hb dX7_codeOf_97 (lv_at hl 0 rfl) ?_
              refine vp_callSi (W.runS (As := [.long (fo 1), .int (nI (mview v n6))]) (rest := [.long x90]) ⟨hx, hb, hml, hown, hts⟩ (c_X7_has l (fo 1) (mview v n6) (by omega)) (va_cwS 2 hts gX7_codeOf_X7_has rfl rfl rfl (by decide +kernel) ⟨Nat.le_of_ble_eq_true rfl, Nat.le_of_ble_eq_true rfl⟩) ⟨px_blind0, fun U hU hW => ⟨rfl, trivial⟩⟩ rfl rfl hl.1 rfl (lv_room (Nat.le_of_ble_eq_true rfl)) dX7_codeOf_99 ⟨(Nat.le_of_ble_eq_true rfl), (Nat.le_of_ble_eq_true rfl)⟩) (fun r99 er99 => ?_)
              obtain rfl := er99.symm
              refine pk_b (P := bt (fo 1) (mview v n6) = true) (fun b99 => ?_) (fun b99 => ?_)
              · refine lv_if_eq (tgt := 109) hx hb dX7_codeOf_102 (by decide) (fun c102 => ?_) (fun c102 => ?_)
                · exact absurd c102 (by decide)
                · refine lv_lconst (v := 1) hx hb dX7_codeOf_105 (by decide) ?_
                  refine lv_goto (tgt := 130) hx hb dX7_codeOf_106 (by decide) ?_
                  refine lv_ladd hx hb dX7_codeOf_130 ?_
                  refine lv_topl (fun x130 ex130 => ?_)
                  refine lv_lstore_n (lv' := [(2, .long x130), (9, .int (nI (mview v n6))), (8, .int (nI (mcol v n6))), (7, .int (nI (mrow v n6))), (6, .int (nI (n6 % 6))), (5, .int (nI (n6 / 6))), (4, .int (nI n6)), (0, .ref h0), (1, .int (nI v))]) hx hb dX7_codeOf_131 rfl hl (by decide) rfl (fun ls hl => ?_)
                  obtain ⟨x132, ex132⟩ : ∃ y : Int32, y = (nI n6) + (-1) := ⟨_, rfl⟩
                  refine lv_iinc (v := x132) (lv' := [(4, .int x132), (2, .long x130), (9, .int (nI (mview v n6))), (8, .int (nI (mcol v n6))), (7, .int (nI (mrow v n6))), (6, .int (nI (n6 % 6))), (5, .int (nI (n6 / 6))), (0, .ref h0), (1, .int (nI v))]) hx hb dX7_codeOf_132 hl (k := 6) rfl (by rw [ex132]; rfl) (by decide) rfl (fun ls hl => ?_)
                  refine lv_goto (tgt := 6) hx hb dX7_codeOf_135 (by decide) ?_
                  exact ih6 (i6 + 1) (by omega) ls (by { rw [← (show x132 = _ from (ex132).trans (pm_dec _))]; have e9 : (x130 : Int64) = (mcode (fo 1) (fo 2) v (i6 + 1)) := by { obtain rfl : n6 = 35 - i6 := (by omega); obtain rfl := ex90.symm; obtain rfl := ex130.symm; obtain rfl := ex132.symm; first | exact mcode_1 b99 | exact mcode_2 b99 b117 | exact mcode_3 b99 b117 }; rw [← e9]; exact lv_sub hl [0, 1, 7, 8] rfl })
              · refine lv_if_eq (tgt := 109) hx hb dX7_codeOf_102 (by decide) (fun c102 => ?_) (fun c102 => ?_)
                · refine lv_aload_n hx hb dX7_codeOf_109 rfl (lv_at hl 7 rfl) ?_
                  refine va_get (D := D) (ci := 4) (v := .ref ow) (C := RX7) (T := TX7) (N := 15) hx hb hts hinX7 hown hK hP 0 rfl rfl 1 (by decide) hfl7 (fun _ h9 => h9) rfl dX7_codeOf_110 ?_
                  refine lv_iconst (v := 2) hx hb dX7_codeOf_113 (by decide) ?_
                  refine va_lald hx hb hK hP 1 1 rfl rfl (vp_in_nI (n := 2) (N := 3) (by omega) (by decide)) dX7_codeOf_114 ?_
                  refine pk_tl (y := (fo 2)) (congrArg fo (pk_cl 2)) ?_
                  refine lv_iload hx hb dX7_codeOf_115 (lv_at hl 0 rfl) ?_
                  refine vp_callSi (W.runS (As := [.long (fo 2), .int (nI (mview v n6))]) (rest := [.long x90]) ⟨hx, hb, hml, hown, hts⟩ (c_X7_has l (fo 2) (mview v n6) (by omega)) (va_cwS 2 hts gX7_codeOf_X7_has rfl rfl rfl (by decide +kernel) ⟨Nat.le_of_ble_eq_true rfl, Nat.le_of_ble_eq_true rfl⟩) ⟨px_blind0, fun U hU hW => ⟨rfl, trivial⟩⟩ rfl rfl hl.1 rfl (lv_room (Nat.le_of_ble_eq_true rfl)) dX7_codeOf_117 ⟨(Nat.le_of_ble_eq_true rfl), (Nat.le_of_ble_eq_true rfl)⟩) (fun r117 er117 => ?_)
                  obtain rfl := er117.symm
                  refine pk_b (P := bt (fo 2) (mview v n6) = true) (fun b117 => ?_) (fun b117 => ?_)
                  · refine lv_if_eq (tgt := 129) hx hb dX7_codeOf_120 (by decide) (fun c120 => ?_) (fun c120 => ?_)
                    · exact absurd c120 (by decide)
                    · refine lv_ldc2 (v := 2) hx hb hown (hts (.constantLong RX7 114 (2)) (by decide +kernel)) dX7_codeOf_123 ?_
                      refine lv_goto (tgt := 130) hx hb dX7_codeOf_126 (by decide) ?_
                      refine lv_ladd hx hb dX7_codeOf_130 ?_
                      refine lv_topl (fun x130 ex130 => ?_)
                      refine lv_lstore_n (lv' := [(2, .long x130), (9, .int (nI (mview v n6))), (8, .int (nI (mcol v n6))), (7, .int (nI (mrow v n6))), (6, .int (nI (n6 % 6))), (5, .int (nI (n6 / 6))), (4, .int (nI n6)), (0, .ref h0), (1, .int (nI v))]) hx hb dX7_codeOf_131 rfl hl (by decide) rfl (fun ls hl => ?_)
                      obtain ⟨x132, ex132⟩ : ∃ y : Int32, y = (nI n6) + (-1) := ⟨_, rfl⟩
                      refine lv_iinc (v := x132) (lv' := [(4, .int x132), (2, .long x130), (9, .int (nI (mview v n6))), (8, .int (nI (mcol v n6))), (7, .int (nI (mrow v n6))), (6, .int (nI (n6 % 6))), (5, .int (nI (n6 / 6))), (0, .ref h0), (1, .int (nI v))]) hx hb dX7_codeOf_132 hl (k := 6) rfl (by rw [ex132]; rfl) (by decide) rfl (fun ls hl => ?_)
                      refine lv_goto (tgt := 6) hx hb dX7_codeOf_135 (by decide) ?_
                      exact ih6 (i6 + 1) (by omega) ls (by { rw [← (show x132 = _ from (ex132).trans (pm_dec _))]; have e9 : (x130 : Int64) = (mcode (fo 1) (fo 2) v (i6 + 1)) := by { obtain rfl : n6 = 35 - i6 := (by omega); obtain rfl := ex90.symm; obtain rfl := ex130.symm; obtain rfl := ex132.symm; first | exact mcode_1 b99 | exact mcode_2 b99 b117 | exact mcode_3 b99 b117 }; rw [← e9]; exact lv_sub hl [0, 1, 7, 8] rfl })
                  · refine lv_if_eq (tgt := 129) hx hb dX7_codeOf_120 (by decide) (fun c120 => ?_) (fun c120 => ?_)
                    · refine lv_lconst (v := 0) hx hb dX7_codeOf_129 (by decide) ?_
                      refine lv_ladd hx hb dX7_codeOf_130 ?_
                      refine lv_topl (fun x130 ex130 => ?_)
                      refine lv_lstore_n (lv' := [(2, .long x130), (9, .int (nI (mview v n6))), (8, .int (nI (mcol v n6))), (7, .int (nI (mrow v n6))), (6, .int (nI (n6 % 6))), (5, .int (nI (n6 / 6))), (4, .int (nI n6)), (0, .ref h0), (1, .int (nI v))]) hx hb dX7_codeOf_131 rfl hl (by decide) rfl (fun ls hl => ?_)
                      obtain ⟨x132, ex132⟩ : ∃ y : Int32, y = (nI n6) + (-1) := ⟨_, rfl⟩
                      refine lv_iinc (v := x132) (lv' := [(4, .int x132), (2, .long x130), (9, .int (nI (mview v n6))), (8, .int (nI (mcol v n6))), (7, .int (nI (mrow v n6))), (6, .int (nI (n6 % 6))), (5, .int (nI (n6 / 6))), (0, .ref h0), (1, .int (nI v))]) hx hb dX7_codeOf_132 hl (k := 6) rfl (by rw [ex132]; rfl) (by decide) rfl (fun ls hl => ?_)
                      refine lv_goto (tgt := 6) hx hb dX7_codeOf_135 (by decide) ?_
                      exact ih6 (i6 + 1) (by omega) ls (by { rw [← (show x132 = _ from (ex132).trans (pm_dec _))]; have e9 : (x130 : Int64) = (mcode (fo 1) (fo 2) v (i6 + 1)) := by { obtain rfl : n6 = 35 - i6 := (by omega); obtain rfl := ex90.symm; obtain rfl := ex130.symm; obtain rfl := ex132.symm; first | exact mcode_1 b99 | exact mcode_2 b99 b117 | exact mcode_3 b99 b117 }; rw [← e9]; exact lv_sub hl [0, 1, 7, 8] rfl })
                    · exact absurd c120 (by decide)
                · exact absurd c102 (by decide)
          · have c45 : (v / 2 % 2 * 2) = 0 := (nq_eq (a := (v / 2 % 2 * 2)) (b := 0) (by omega) (by omega)).mp c45
            refine lv_iload hx hb dX7_codeOf_48 (lv_at hl 1 rfl) ?_
            refine lv_goto (tgt := 57) hx hb dX7_codeOf_50 (by decide) ?_
            refine pk_ti (y := nI (mcol v n6)) (congrArg nI (by unfold mcol; first | exact (if_pos (by assumption)).symm | exact (if_neg (by assumption)).symm)) ?_
            refine lv_istore (lv' := [(8, .int (nI (mcol v n6))), (7, .int (nI (mrow v n6))), (6, .int (nI (n6 % 6))), (5, .int (nI (n6 / 6))), (4, .int (nI n6)), (2, .long (mcode (fo 1) (fo 2) v i6)), (0, .ref h0), (1, .int (nI v))]) hx hb dX7_codeOf_57 hl (by decide) rfl (fun ls hl => ?_)
            refine lv_iload_n hx hb dX7_codeOf_59 rfl (lv_at hl 7 rfl) ?_
            refine lv_iconst (v := 4) hx hb dX7_codeOf_60 (by decide) ?_
            refine lv_iand hx hb dX7_codeOf_61 ?_
            refine pk_ti (y := nI (v / 4 % 2 * 4)) (view4 v hv) ?_
            refine lv_if_ne (tgt := 76) hx hb dX7_codeOf_62 (by decide) (fun c62 => ?_) (fun c62 => ?_)
            · have c62 : ¬ (v / 4 % 2 * 4) = 0 := _root_.mt (nq_eq (a := (v / 4 % 2 * 4)) (b := 0) (by omega) (by omega)).mpr c62
              refine lv_bipush (v := 6) hx hb dX7_codeOf_76 (by decide) ?_
              refine lv_iload hx hb dX7_codeOf_78 (lv_at hl 0 rfl) ?_
              refine lv_imul hx hb dX7_codeOf_80 ?_
              refine pk_ti (y := nI (6 * (mcol v n6))) (pk_mul 6 (mcol v n6)) ?_
              refine lv_iload hx hb dX7_codeOf_81 (lv_at hl 1 rfl) ?_
              refine lv_iadd hx hb dX7_codeOf_83 ?_
              refine pk_ti (y := nI ((6 * (mcol v n6)) + (mrow v n6))) (nI_add (6 * (mcol v n6)) (mrow v n6)) ?_
              refine pk_ti (y := nI (mview v n6)) (congrArg nI (by unfold mview; first | exact (if_pos (by assumption)).symm | exact (if_neg (by assumption)).symm)) ?_
              refine lv_istore (lv' := [(9, .int (nI (mview v n6))), (8, .int (nI (mcol v n6))), (7, .int (nI (mrow v n6))), (6, .int (nI (n6 % 6))), (5, .int (nI (n6 / 6))), (4, .int (nI n6)), (2, .long (mcode (fo 1) (fo 2) v i6)), (0, .ref h0), (1, .int (nI v))]) hx hb dX7_codeOf_84 hl (by decide) rfl (fun ls hl => ?_)
              refine lv_ldc2 (v := 3) hx hb hown (hts (.constantLong RX7 112 (3)) (by decide +kernel)) dX7_codeOf_86 ?_
              refine lv_lload_n hx hb dX7_codeOf_89 rfl (lv_at hl 6 rfl) ?_
              refine lv_lmul hx hb dX7_codeOf_90 ?_
              refine lv_topl (fun x90 ex90 => ?_)
              refine lv_aload_n hx hb dX7_codeOf_91 rfl (lv_at hl 7 rfl) ?_
              refine va_get (D := D) (ci := 4) (v := .ref ow) (C := RX7) (T := TX7) (N := 15) hx hb hts hinX7 hown hK hP 0 rfl rfl 1 (by decide) hfl7 (fun _ h9 => h9) rfl dX7_codeOf_92 ?_
              refine lv_iconst (v := 1) hx hb dX7_codeOf_95 (by decide) ?_
              refine va_lald hx hb hK hP 1 1 rfl rfl (vp_in_nI (n := 1) (N := 3) (by omega) (by decide)) dX7_codeOf_96 ?_
              refine pk_tl (y := (fo 1)) (congrArg fo (pk_cl 1)) ?_
              refine lv_iload hx hb dX7_codeOf_97 (lv_at hl 0 rfl) ?_
              refine vp_callSi (W.runS (As := [.long (fo 1), .int (nI (mview v n6))]) (rest := [.long x90]) ⟨hx, hb, hml, hown, hts⟩ (c_X7_has l (fo 1) (mview v n6) (by omega)) (va_cwS 2 hts gX7_codeOf_X7_has rfl rfl rfl (by decide +kernel) ⟨Nat.le_of_ble_eq_true rfl, Nat.le_of_ble_eq_true rfl⟩) ⟨px_blind0, fun U hU hW => ⟨rfl, trivial⟩⟩ rfl rfl hl.1 rfl (lv_room (Nat.le_of_ble_eq_true rfl)) dX7_codeOf_99 ⟨(Nat.le_of_ble_eq_true rfl), (Nat.le_of_ble_eq_true rfl)⟩) (fun r99 er99 => ?_)
              obtain rfl := er99.symm
              refine pk_b (P := bt (fo 1) (mview v n6) = true) (fun b99 => ?_) (fun b99 => ?_)
              · refine lv_if_eq (tgt := 109) hx hb dX7_codeOf_102 (by decide) (fun c102 => ?_) (fun c102 => ?_)
                · exact absurd c102 (by decide)
                · refine lv_lconst (v := 1) hx hb dX7_codeOf_105 (by decide) ?_
                  refine lv_goto (tgt := 130) hx hb dX7_codeOf_106 (by decide) ?_
                  refine lv_ladd hx hb dX7_codeOf_130 ?_
                  refine lv_topl (fun x130 ex130 => ?_)
                  refine lv_lstore_n (lv' := [(2, .long x130), (9, .int (nI (mview v n6))), (8, .int (nI (mcol v n6))), (7, .int (nI (mrow v n6))), (6, .int (nI (n6 % 6))), (5, .int (nI (n6 / 6))), (4, .int (nI n6)), (0, .ref h0), (1, .int (nI v))]) hx hb dX7_codeOf_131 rfl hl (by decide) rfl (fun ls hl => ?_)
                  obtain ⟨x132, ex132⟩ : ∃ y : Int32, y = (nI n6) + (-1) := ⟨_, rfl⟩
                  refine lv_iinc (v := x132) (lv' := [(4, .int x132), (2, .long x130), (9, .int (nI (mview v n6))), (8, .int (nI (mcol v n6))), (7, .int (nI (mrow v n6))), (6, .int (nI (n6 % 6))), (5, .int (nI (n6 / 6))), (0, .ref h0), (1, .int (nI v))]) hx hb dX7_codeOf_132 hl (k := 6) rfl (by rw [ex132]; rfl) (by decide) rfl (fun ls hl => ?_)
                  refine lv_goto (tgt := 6) hx hb dX7_codeOf_135 (by decide) ?_
                  exact ih6 (i6 + 1) (by omega) ls (by { rw [← (show x132 = _ from (ex132).trans (pm_dec _))]; have e9 : (x130 : Int64) = (mcode (fo 1) (fo 2) v (i6 + 1)) := by { obtain rfl : n6 = 35 - i6 := (by omega); obtain rfl := ex90.symm; obtain rfl := ex130.symm; obtain rfl := ex132.symm; first | exact mcode_1 b99 | exact mcode_2 b99 b117 | exact mcode_3 b99 b117 }; rw [← e9]; exact lv_sub hl [0, 1, 7, 8] rfl })
              · refine lv_if_eq (tgt := 109) hx hb dX7_codeOf_102 (by decide) (fun c102 => ?_) (fun c102 => ?_)
                · refine lv_aload_n hx hb dX7_codeOf_109 rfl (lv_at hl 7 rfl) ?_
                  refine va_get (D := D) (ci := 4) (v := .ref ow) (C := RX7) (T := TX7) (N := 15) hx hb hts hinX7 hown hK hP 0 rfl rfl 1 (by decide) hfl7 (fun _ h9 => h9) rfl dX7_codeOf_110 ?_
                  refine lv_iconst (v := 2) hx hb dX7_codeOf_113 (by decide) ?_
                  refine va_lald hx hb hK hP 1 1 rfl rfl (vp_in_nI (n := 2) (N := 3) (by omega) (by decide)) dX7_codeOf_114 ?_
                  refine pk_tl (y := (fo 2)) (congrArg fo (pk_cl 2)) ?_
                  refine lv_iload hx hb dX7_codeOf_115 (lv_at hl 0 rfl) ?_
                  refine vp_callSi (W.runS (As := [.long (fo 2), .int (nI (mview v n6))]) (rest := [.long x90]) ⟨hx, hb, hml, hown, hts⟩ (c_X7_has l (fo 2) (mview v n6) (by omega)) (va_cwS 2 hts gX7_codeOf_X7_has rfl rfl rfl (by decide +kernel) ⟨Nat.le_of_ble_eq_true rfl, Nat.le_of_ble_eq_true rfl⟩) ⟨px_blind0, fun U hU hW => ⟨rfl, trivial⟩⟩ rfl rfl hl.1 rfl (lv_room (Nat.le_of_ble_eq_true rfl)) dX7_codeOf_117 ⟨(Nat.le_of_ble_eq_true rfl), (Nat.le_of_ble_eq_true rfl)⟩) (fun r117 er117 => ?_)
                  obtain rfl := er117.symm
                  refine pk_b (P := bt (fo 2) (mview v n6) = true) (fun b117 => ?_) (fun b117 => ?_)
                  · refine lv_if_eq (tgt := 129) hx hb dX7_codeOf_120 (by decide) (fun c120 => ?_) (fun c120 => ?_)
                    · exact absurd c120 (by decide)
                    · refine lv_ldc2 (v := 2) hx hb hown (hts (.constantLong RX7 114 (2)) (by decide +kernel)) dX7_codeOf_123 ?_
                      refine lv_goto (tgt := 130) hx hb dX7_codeOf_126 (by decide) ?_
                      refine lv_ladd hx hb dX7_codeOf_130 ?_
                      refine lv_topl (fun x130 ex130 => ?_)
                      refine lv_lstore_n (lv' := [(2, .long x130), (9, .int (nI (mview v n6))), (8, .int (nI (mcol v n6))), (7, .int (nI (mrow v n6))), (6, .int (nI (n6 % 6))), (5, .int (nI (n6 / 6))), (4, .int (nI n6)), (0, .ref h0), (1, .int (nI v))]) hx hb dX7_codeOf_131 rfl hl (by decide) rfl (fun ls hl => ?_)
                      obtain ⟨x132, ex132⟩ : ∃ y : Int32, y = (nI n6) + (-1) := ⟨_, rfl⟩
                      refine lv_iinc (v := x132) (lv' := [(4, .int x132), (2, .long x130), (9, .int (nI (mview v n6))), (8, .int (nI (mcol v n6))), (7, .int (nI (mrow v n6))), (6, .int (nI (n6 % 6))), (5, .int (nI (n6 / 6))), (0, .ref h0), (1, .int (nI v))]) hx hb dX7_codeOf_132 hl (k := 6) rfl (by rw [ex132]; rfl) (by decide) rfl (fun ls hl => ?_)
                      refine lv_goto (tgt := 6) hx hb dX7_codeOf_135 (by decide) ?_
                      exact ih6 (i6 + 1) (by omega) ls (by { rw [← (show x132 = _ from (ex132).trans (pm_dec _))]; have e9 : (x130 : Int64) = (mcode (fo 1) (fo 2) v (i6 + 1)) := by { obtain rfl : n6 = 35 - i6 := (by omega); obtain rfl := ex90.symm; obtain rfl := ex130.symm; obtain rfl := ex132.symm; first | exact mcode_1 b99 | exact mcode_2 b99 b117 | exact mcode_3 b99 b117 }; rw [← e9]; exact lv_sub hl [0, 1, 7, 8] rfl })
                  · refine lv_if_eq (tgt := 129) hx hb dX7_codeOf_120 (by decide) (fun c120 => ?_) (fun c120 => ?_)
                    · refine lv_lconst (v := 0) hx hb dX7_codeOf_129 (by decide) ?_
                      refine lv_ladd hx hb dX7_codeOf_130 ?_
                      refine lv_topl (fun x130 ex130 => ?_)
                      refine lv_lstore_n (lv' := [(2, .long x130), (9, .int (nI (mview v n6))), (8, .int (nI (mcol v n6))), (7, .int (nI (mrow v n6))), (6, .int (nI (n6 % 6))), (5, .int (nI (n6 / 6))), (4, .int (nI n6)), (0, .ref h0), (1, .int (nI v))]) hx hb dX7_codeOf_131 rfl hl (by decide) rfl (fun ls hl => ?_)
                      obtain ⟨x132, ex132⟩ : ∃ y : Int32, y = (nI n6) + (-1) := ⟨_, rfl⟩
                      refine lv_iinc (v := x132) (lv' := [(4, .int x132), (2, .long x130), (9, .int (nI (mview v n6))), (8, .int (nI (mcol v n6))), (7, .int (nI (mrow v n6))), (6, .int (nI (n6 % 6))), (5, .int (nI (n6 / 6))), (0, .ref h0), (1, .int (nI v))]) hx hb dX7_codeOf_132 hl (k := 6) rfl (by rw [ex132]; rfl) (by decide) rfl (fun ls hl => ?_)
                      refine lv_goto (tgt := 6) hx hb dX7_codeOf_135 (by decide) ?_
                      exact ih6 (i6 + 1) (by omega) ls (by { rw [← (show x132 = _ from (ex132).trans (pm_dec _))]; have e9 : (x130 : Int64) = (mcode (fo 1) (fo 2) v (i6 + 1)) := by { obtain rfl : n6 = 35 - i6 := (by omega); obtain rfl := ex90.symm; obtain rfl := ex130.symm; obtain rfl := ex132.symm; first | exact mcode_1 b99 | exact mcode_2 b99 b117 | exact mcode_3 b99 b117 }; rw [← e9]; exact lv_sub hl [0, 1, 7, 8] rfl })
                    · exact absurd c120 (by decide)
                · exact absurd c102 (by decide)
            · have c62 : (v / 4 % 2 * 4) = 0 := (nq_eq (a := (v / 4 % 2 * 4)) (b := 0) (by omega) (by omega)).mp c62
              refine lv_bipush (v := 6) hx hb dX7_codeOf_65 (by decide) ?_
              refine lv_iload hx hb dX7_codeOf_67 (lv_at hl 1 rfl) ?_
              refine lv_imul hx hb dX7_codeOf_69 ?_
              refine pk_ti (y := nI (6 * (mrow v n6))) (pk_mul 6 (mrow v n6)) ?_
              refine lv_iload hx hb dX7_codeOf_70 (lv_at hl 0 rfl) ?_
              refine lv_iadd hx hb dX7_codeOf_72 ?_
              refine pk_ti (y := nI ((6 * (mrow v n6)) + (mcol v n6))) (nI_add (6 * (mrow v n6)) (mcol v n6)) ?_
              refine lv_goto (tgt := 84) hx hb dX7_codeOf_73 (by decide) ?_
              refine pk_ti (y := nI (mview v n6)) (congrArg nI (by unfold mview; first | exact (if_pos (by assumption)).symm | exact (if_neg (by assumption)).symm)) ?_
              refine lv_istore (lv' := [(9, .int (nI (mview v n6))), (8, .int (nI (mcol v n6))), (7, .int (nI (mrow v n6))), (6, .int (nI (n6 % 6))), (5, .int (nI (n6 / 6))), (4, .int (nI n6)), (2, .long (mcode (fo 1) (fo 2) v i6)), (0, .ref h0), (1, .int (nI v))]) hx hb dX7_codeOf_84 hl (by decide) rfl (fun ls hl => ?_)
              refine lv_ldc2 (v := 3) hx hb hown (hts (.constantLong RX7 112 (3)) (by decide +kernel)) dX7_codeOf_86 ?_
              refine lv_lload_n hx hb dX7_codeOf_89 rfl (lv_at hl 6 rfl) ?_
              refine lv_lmul hx hb dX7_codeOf_90 ?_
              refine lv_topl (fun x90 ex90 => ?_)
              refine lv_aload_n hx hb dX7_codeOf_91 rfl (lv_at hl 7 rfl) ?_
              refine va_get (D := D) (ci := 4) (v := .ref ow) (C := RX7) (T := TX7) (N := 15) hx hb hts hinX7 hown hK hP 0 rfl rfl 1 (by decide) hfl7 (fun _ h9 => h9) rfl dX7_codeOf_92 ?_
              refine lv_iconst (v := 1) hx hb dX7_codeOf_95 (by decide) ?_
              refine va_lald hx hb hK hP 1 1 rfl rfl (vp_in_nI (n := 1) (N := 3) (by omega) (by decide)) dX7_codeOf_96 ?_
              refine pk_tl (y := (fo 1)) (congrArg fo (pk_cl 1)) ?_
              refine lv_iload hx hb dX7_codeOf_97 (lv_at hl 0 rfl) ?_
              refine vp_callSi (W.runS (As := [.long (fo 1), .int (nI (mview v n6))]) (rest := [.long x90]) ⟨hx, hb, hml, hown, hts⟩ (c_X7_has l (fo 1) (mview v n6) (by omega)) (va_cwS 2 hts gX7_codeOf_X7_has rfl rfl rfl (by decide +kernel) ⟨Nat.le_of_ble_eq_true rfl, Nat.le_of_ble_eq_true rfl⟩) ⟨px_blind0, fun U hU hW => ⟨rfl, trivial⟩⟩ rfl rfl hl.1 rfl (lv_room (Nat.le_of_ble_eq_true rfl)) dX7_codeOf_99 ⟨(Nat.le_of_ble_eq_true rfl), (Nat.le_of_ble_eq_true rfl)⟩) (fun r99 er99 => ?_)
              obtain rfl := er99.symm
              refine pk_b (P := bt (fo 1) (mview v n6) = true) (fun b99 => ?_) (fun b99 => ?_)
              · refine lv_if_eq (tgt := 109) hx hb dX7_codeOf_102 (by decide) (fun c102 => ?_) (fun c102 => ?_)
                · exact absurd c102 (by decide)
                · refine lv_lconst (v := 1) hx hb dX7_codeOf_105 (by decide) ?_
                  refine lv_goto (tgt := 130) hx hb dX7_codeOf_106 (by decide) ?_
                  refine lv_ladd hx hb dX7_codeOf_130 ?_
                  refine lv_topl (fun x130 ex130 => ?_)
                  refine lv_lstore_n (lv' := [(2, .long x130), (9, .int (nI (mview v n6))), (8, .int (nI (mcol v n6))), (7, .int (nI (mrow v n6))), (6, .int (nI (n6 % 6))), (5, .int (nI (n6 / 6))), (4, .int (nI n6)), (0, .ref h0), (1, .int (nI v))]) hx hb dX7_codeOf_131 rfl hl (by decide) rfl (fun ls hl => ?_)
                  obtain ⟨x132, ex132⟩ : ∃ y : Int32, y = (nI n6) + (-1) := ⟨_, rfl⟩
                  refine lv_iinc (v := x132) (lv' := [(4, .int x132), (2, .long x130), (9, .int (nI (mview v n6))), (8, .int (nI (mcol v n6))), (7, .int (nI (mrow v n6))), (6, .int (nI (n6 % 6))), (5, .int (nI (n6 / 6))), (0, .ref h0), (1, .int (nI v))]) hx hb dX7_codeOf_132 hl (k := 6) rfl (by rw [ex132]; rfl) (by decide) rfl (fun ls hl => ?_)
                  refine lv_goto (tgt := 6) hx hb dX7_codeOf_135 (by decide) ?_
                  exact ih6 (i6 + 1) (by omega) ls (by { rw [← (show x132 = _ from (ex132).trans (pm_dec _))]; have e9 : (x130 : Int64) = (mcode (fo 1) (fo 2) v (i6 + 1)) := by { obtain rfl : n6 = 35 - i6 := (by omega); obtain rfl := ex90.symm; obtain rfl := ex130.symm; obtain rfl := ex132.symm; first | exact mcode_1 b99 | exact mcode_2 b99 b117 | exact mcode_3 b99 b117 }; rw [← e9]; exact lv_sub hl [0, 1, 7, 8] rfl })
              · refine lv_if_eq (tgt := 109) hx hb dX7_codeOf_102 (by decide) (fun c102 => ?_) (fun c102 => ?_)
                · refine lv_aload_n hx hb dX7_codeOf_109 rfl (lv_at hl 7 rfl) ?_
                  refine va_get (D := D) (ci := 4) (v := .ref ow) (C := RX7) (T := TX7) (N := 15) hx hb hts hinX7 hown hK hP 0 rfl rfl 1 (by decide) hfl7 (fun _ h9 => h9) rfl dX7_codeOf_110 ?_
                  refine lv_iconst (v := 2) hx hb dX7_codeOf_113 (by decide) ?_
                  refine va_lald hx hb hK hP 1 1 rfl rfl (vp_in_nI (n := 2) (N := 3) (by omega) (by decide)) dX7_codeOf_114 ?_
                  refine pk_tl (y := (fo 2)) (congrArg fo (pk_cl 2)) ?_
                  refine lv_iload hx hb dX7_codeOf_115 (lv_at hl 0 rfl) ?_
                  refine vp_callSi (W.runS (As := [.long (fo 2), .int (nI (mview v n6))]) (rest := [.long x90]) ⟨hx, hb, hml, hown, hts⟩ (c_X7_has l (fo 2) (mview v n6) (by omega)) (va_cwS 2 hts gX7_codeOf_X7_has rfl rfl rfl (by decide +kernel) ⟨Nat.le_of_ble_eq_true rfl, Nat.le_of_ble_eq_true rfl⟩) ⟨px_blind0, fun U hU hW => ⟨rfl, trivial⟩⟩ rfl rfl hl.1 rfl (lv_room (Nat.le_of_ble_eq_true rfl)) dX7_codeOf_117 ⟨(Nat.le_of_ble_eq_true rfl), (Nat.le_of_ble_eq_true rfl)⟩) (fun r117 er117 => ?_)
                  obtain rfl := er117.symm
                  refine pk_b (P := bt (fo 2) (mview v n6) = true) (fun b117 => ?_) (fun b117 => ?_)
                  · refine lv_if_eq (tgt := 129) hx hb dX7_codeOf_120 (by decide) (fun c120 => ?_) (fun c120 => ?_)
                    · exact absurd c120 (by decide)
                    · refine lv_ldc2 (v := 2) hx hb hown (hts (.constantLong RX7 114 (2)) (by decide +kernel)) dX7_codeOf_123 ?_
                      refine lv_goto (tgt := 130) hx hb dX7_codeOf_126 (by decide) ?_
                      refine lv_ladd hx hb dX7_codeOf_130 ?_
                      refine lv_topl (fun x130 ex130 => ?_)
                      refine lv_lstore_n (lv' := [(2, .long x130), (9, .int (nI (mview v n6))), (8, .int (nI (mcol v n6))), (7, .int (nI (mrow v n6))), (6, .int (nI (n6 % 6))), (5, .int (nI (n6 / 6))), (4, .int (nI n6)), (0, .ref h0), (1, .int (nI v))]) hx hb dX7_codeOf_131 rfl hl (by decide) rfl (fun ls hl => ?_)
                      obtain ⟨x132, ex132⟩ : ∃ y : Int32, y = (nI n6) + (-1) := ⟨_, rfl⟩
                      refine lv_iinc (v := x132) (lv' := [(4, .int x132), (2, .long x130), (9, .int (nI (mview v n6))), (8, .int (nI (mcol v n6))), (7, .int (nI (mrow v n6))), (6, .int (nI (n6 % 6))), (5, .int (nI (n6 / 6))), (0, .ref h0), (1, .int (nI v))]) hx hb dX7_codeOf_132 hl (k := 6) rfl (by rw [ex132]; rfl) (by decide) rfl (fun ls hl => ?_)
                      refine lv_goto (tgt := 6) hx hb dX7_codeOf_135 (by decide) ?_
                      exact ih6 (i6 + 1) (by omega) ls (by { rw [← (show x132 = _ from (ex132).trans (pm_dec _))]; have e9 : (x130 : Int64) = (mcode (fo 1) (fo 2) v (i6 + 1)) := by { obtain rfl : n6 = 35 - i6 := (by omega); obtain rfl := ex90.symm; obtain rfl := ex130.symm; obtain rfl := ex132.symm; first | exact mcode_1 b99 | exact mcode_2 b99 b117 | exact mcode_3 b99 b117 }; rw [← e9]; exact lv_sub hl [0, 1, 7, 8] rfl })
                  · refine lv_if_eq (tgt := 129) hx hb dX7_codeOf_120 (by decide) (fun c120 => ?_) (fun c120 => ?_)
                    · refine lv_lconst (v := 0) hx hb dX7_codeOf_129 (by decide) ?_
                      refine lv_ladd hx hb dX7_codeOf_130 ?_
                      refine lv_topl (fun x130 ex130 => ?_)
                      refine lv_lstore_n (lv' := [(2, .long x130), (9, .int (nI (mview v n6))), (8, .int (nI (mcol v n6))), (7, .int (nI (mrow v n6))), (6, .int (nI (n6 % 6))), (5, .int (nI (n6 / 6))), (4, .int (nI n6)), (0, .ref h0), (1, .int (nI v))]) hx hb dX7_codeOf_131 rfl hl (by decide) rfl (fun ls hl => ?_)
                      obtain ⟨x132, ex132⟩ : ∃ y : Int32, y = (nI n6) + (-1) := ⟨_, rfl⟩
                      refine lv_iinc (v := x132) (lv' := [(4, .int x132), (2, .long x130), (9, .int (nI (mview v n6))), (8, .int (nI (mcol v n6))), (7, .int (nI (mrow v n6))), (6, .int (nI (n6 % 6))), (5, .int (nI (n6 / 6))), (0, .ref h0), (1, .int (nI v))]) hx hb dX7_codeOf_132 hl (k := 6) rfl (by rw [ex132]; rfl) (by decide) rfl (fun ls hl => ?_)
                      refine lv_goto (tgt := 6) hx hb dX7_codeOf_135 (by decide) ?_
                      exact ih6 (i6 + 1) (by omega) ls (by { rw [← (show x132 = _ from (ex132).trans (pm_dec _))]; have e9 : (x130 : Int64) = (mcode (fo 1) (fo 2) v (i6 + 1)) := by { obtain rfl : n6 = 35 - i6 := (by omega); obtain rfl := ex90.symm; obtain rfl := ex130.symm; obtain rfl := ex132.symm; first | exact mcode_1 b99 | exact mcode_2 b99 b117 | exact mcode_3 b99 b117 }; rw [← e9]; exact lv_sub hl [0, 1, 7, 8] rfl })
                    · exact absurd c120 (by decide)
                · exact absurd c102 (by decide)
  exact loop6 36 0 (by omega) ls (lv_sub hl [0, 1, 2, 3] rfl)

set_option maxHeartbeats 400000 in
set_option maxRecDepth 100000 in
theorem c_X7_form_r (l : Launch) (D : va_G) (cI cJ : ClassId) (sz : Nat) (h0 ow cl tu lk f1 s2 ms nx bs : Nat) (th re mt fd : Int32) (w k : Nat) (fo lo ff sf : Nat → Int64) (cs ts mm nf bf : Nat → Int32)  : Met l yX7_form wsX7_form ({ frames := 2, cells := 0, slots := 0, locals := 51 } : Room) (va_Pc [.ref h0] (pv_C D cI cJ [(h0, .inr (4, [.int th, .ref ow, .int re, .int (nI w), .int mt, .ref cl, .ref tu, .int (nI k), .ref lk, .ref f1, .ref s2, .ref ms, .ref nx, .ref bs, .int fd])), (ow, .inl (cJ, 3, .inr (.inl fo))), (cl, .inl (cI, 36, .inl cs)), (tu, .inl (cI, 36, .inl ts)), (lk, .inl (cJ, 3, .inr (.inl lo))), (f1, .inl (cJ, 6, .inr (.inl ff))), (s2, .inl (cJ, 6, .inr (.inl sf))), (ms, .inl (cI, 6, .inl mm)), (nx, .inl (cI, 6, .inl nf)), (bs, .inl (cI, 6, .inl bf))] sz)) (va_Ql (fun (r : Int64) (u : Unit) => r = mleast (fo 1) (fo 2) 8) (fun (u : Unit) => pv_B D cI cJ (va_A [(h0, .inr (4, [.int th, .ref ow, .int re, .int (nI w), .int mt, .ref cl, .ref tu, .int (nI k), .ref lk, .ref f1, .ref s2, .ref ms, .ref nx, .ref bs, .int fd])), (ow, .inl (cJ, 3, .inr (.inl fo))), (cl, .inl (cI, 36, .inl cs)), (tu, .inl (cI, 36, .inl ts)), (lk, .inl (cJ, 3, .inr (.inl lo))), (f1, .inl (cJ, 6, .inr (.inl ff))), (s2, .inl (cJ, 6, .inr (.inl sf))), (ms, .inl (cI, 6, .inl mm)), (nx, .inl (cI, 6, .inl nf)), (bs, .inl (cI, 6, .inl bf))] sz) [(h0, .inr (4, [.int 0, .ref ow, .int re, .int (nI w), .int mt, .ref cl, .ref tu, .int (nI k), .ref lk, .ref f1, .ref s2, .ref ms, .ref nx, .ref bs, .int fd])), (ow, .inl (cJ, 3, .inr (.inl fo))), (cl, .inl (cI, 36, .inl cs)), (tu, .inl (cI, 36, .inl ts)), (lk, .inl (cJ, 3, .inr (.inl lo))), (f1, .inl (cJ, 6, .inr (.inl ff))), (s2, .inl (cJ, 6, .inr (.inl sf))), (ms, .inl (cI, 6, .inl mm)), (nx, .inl (cI, 6, .inl nf)), (bs, .inl (cI, 6, .inl bf))]) (va_A [(h0, .inr (4, [.int th, .ref ow, .int re, .int (nI w), .int mt, .ref cl, .ref tu, .int (nI k), .ref lk, .ref f1, .ref s2, .ref ms, .ref nx, .ref bs, .int fd])), (ow, .inl (cJ, 3, .inr (.inl fo))), (cl, .inl (cI, 36, .inl cs)), (tu, .inl (cI, 36, .inl ts)), (lk, .inl (cJ, 3, .inr (.inl lo))), (f1, .inl (cJ, 6, .inr (.inl ff))), (s2, .inl (cJ, 6, .inr (.inl sf))), (ms, .inl (cI, 6, .inl mm)), (nx, .inl (cI, 6, .inl nf)), (bs, .inl (cI, 6, .inl bf))] sz)) 0 0 (va_A [(h0, .inr (4, [.int th, .ref ow, .int re, .int (nI w), .int mt, .ref cl, .ref tu, .int (nI k), .ref lk, .ref f1, .ref s2, .ref ms, .ref nx, .ref bs, .int fd])), (ow, .inl (cJ, 3, .inr (.inl fo))), (cl, .inl (cI, 36, .inl cs)), (tu, .inl (cI, 36, .inl ts)), (lk, .inl (cJ, 3, .inr (.inl lo))), (f1, .inl (cJ, 6, .inr (.inl ff))), (s2, .inl (cJ, 6, .inr (.inl sf))), (ms, .inl (cI, 6, .inl mm)), (nx, .inl (cI, 6, .inl nf)), (bs, .inl (cI, 6, .inl bf))] sz) := by
  refine Met.ofW (cc := cX7_form) (maxL := 6) (ret := (some .long)) (by decide) rfl ?_
  intro p e s m args below meth c s₁ B hml hv
  obtain ⟨rfl, rfl, hP, hK, hD0⟩ := hv
  have hx := B.exec
  have hb := B.bytes
  have hr := B.returns
  have hts := atoms_spec (ws := wsX7_form) B.pre
  have hown : s.vm.findClass RX7 = some m.cls := findClass_of_methodNamed B.named
  have hlocks := B.notSynchronized
  have hD := hD0.self (sz := s.heap.size)
  generalize hAe : va_A [(h0, .inr (4, [.int th, .ref ow, .int re, .int (nI w), .int mt, .ref cl, .ref tu, .int (nI k), .ref lk, .ref f1, .ref s2, .ref ms, .ref nx, .ref bs, .int fd])), (ow, .inl (cJ, 3, .inr (.inl fo))), (cl, .inl (cI, 36, .inl cs)), (tu, .inl (cI, 36, .inl ts)), (lk, .inl (cJ, 3, .inr (.inl lo))), (f1, .inl (cJ, 6, .inr (.inl ff))), (s2, .inl (cJ, 6, .inr (.inl sf))), (ms, .inl (cI, 6, .inl mm)), (nx, .inl (cI, 6, .inl nf)), (bs, .inl (cI, 6, .inl bf))] s.heap.size = A at hD ⊢
  have hA : ∀ q : Nat, s.heap.size ≤ q → A q := fun q h => by rw [← hAe]; exact Or.inr h
  have hS : va_S A s.heap s.heap [] := va_S.rf
  have hinX7 : ∀ w ∈ wsX70, w ∈ wsX7_form := by decide +kernel
  have hfl42 : (Cond.fieldLink RX7 42 "TwistquadModel" "thrown" "I").before ([.ref h0] : List Value).toArray s = true := hts _ (by decide +kernel)
  have hl := lv_entry ([.ref h0]) (n := 6) (Nat.le_of_ble_eq_true rfl)
  rw [lg_entry_eq]
  generalize (lg_sl ([.ref h0]) ++ List.replicate (6 - (lg_sl ([.ref h0])).length) Slot.unset).toArray = ls at hl ⊢
  have hl : lv_has ls 6 [(0, .ref h0)] := hl
  refine lv_aload_n hx hb dX7_form_0 rfl (lv_at hl 0 rfl) ?_
  refine lv_iconst (v := 0) hx hb dX7_form_1 (by decide) ?_
  refine va_put (D := D) (ci := 4) (v := .int 0) (ty := .int) (C := RX7) (T := TX7) (N := 15) hx hb hts hinX7 tyX7 tyX7_ok nmX7 hown hK hP hD hS 0 rfl rfl 0 (by decide) hfl42 (fun _ h9 => h9) rfl (by decide +kernel) rfl rfl (Nat.le_of_ble_eq_true rfl) dX7_form_2 (fun H locs hP hD hS => ?_)
  have hP : va_P D vwCl [(h0, .inr (4, [.int 0, .ref ow, .int re, .int (nI w), .int mt, .ref cl, .ref tu, .int (nI k), .ref lk, .ref f1, .ref s2, .ref ms, .ref nx, .ref bs, .int fd])), (ow, .inl (cJ, 3, .inr (.inl fo))), (cl, .inl (cI, 36, .inl cs)), (tu, .inl (cI, 36, .inl ts)), (lk, .inl (cJ, 3, .inr (.inl lo))), (f1, .inl (cJ, 6, .inr (.inl ff))), (s2, .inl (cJ, 6, .inr (.inl sf))), (ms, .inl (cI, 6, .inl mm)), (nx, .inl (cI, 6, .inl nf)), (bs, .inl (cI, 6, .inl bf))] H := hP
  have hD : va_D A [(h0, .inr (4, [.int 0, .ref ow, .int re, .int (nI w), .int mt, .ref cl, .ref tu, .int (nI k), .ref lk, .ref f1, .ref s2, .ref ms, .ref nx, .ref bs, .int fd])), (ow, .inl (cJ, 3, .inr (.inl fo))), (cl, .inl (cI, 36, .inl cs)), (tu, .inl (cI, 36, .inl ts)), (lk, .inl (cJ, 3, .inr (.inl lo))), (f1, .inl (cJ, 6, .inr (.inl ff))), (s2, .inl (cJ, 6, .inr (.inl sf))), (ms, .inl (cI, 6, .inl mm)), (nx, .inl (cI, 6, .inl nf)), (bs, .inl (cI, 6, .inl bf))] := hD
  refine lv_aload_n hx hb dX7_form_5 rfl (lv_at hl 0 rfl) ?_
  refine lv_iconst (v := 0) hx hb dX7_form_6 (by decide) ?_
  refine vp_callSl (W.runV (As := [.int 0]) (rest := []) ⟨hx, hb, hml, hown, hts⟩ (c_X7_codeOf l D cI cJ h0 ow cl tu lk f1 s2 ms nx bs 0 re mt fd w k fo lo ff sf cs ts mm nf bf 0 (by omega)) (cwV 1 hts gX7_form_X7_codeOf rfl rfl rfl (by decide +kernel) ⟨Nat.le_of_ble_eq_true rfl, Nat.le_of_ble_eq_true rfl⟩) ⟨px_blindW, va_recv hK hP (ci := 4) (q0 := 0) rfl rfl, fun U hU hW => ⟨rfl, by rw [hU]; exact hP.sub (ws' := [(h0, .inr (4, [.int 0, .ref ow, .int re, .int (nI w), .int mt, .ref cl, .ref tu, .int (nI k), .ref lk, .ref f1, .ref s2, .ref ms, .ref nx, .ref bs, .int fd])), (ow, .inl (cJ, 3, .inr (.inl fo))), (cl, .inl (cI, 36, .inl cs)), (tu, .inl (cI, 36, .inl ts)), (lk, .inl (cJ, 3, .inr (.inl lo))), (f1, .inl (cJ, 6, .inr (.inl ff))), (s2, .inl (cJ, 6, .inr (.inl sf))), (ms, .inl (cI, 6, .inl mm)), (nx, .inl (cI, 6, .inl nf)), (bs, .inl (cI, 6, .inl bf))]) [0, 1, 2, 3, 4, 5, 6, 7, 8, 9] rfl, va_K.moved hW.alike hK⟩⟩ rfl rfl hl.1 rfl (lv_room (Nat.le_of_ble_eq_true rfl)) dX7_form_7 ⟨(Nat.le_of_ble_eq_true rfl), (Nat.le_of_ble_eq_true rfl)⟩) (fun r7 er7 => ?_)
  obtain rfl := er7.symm
  refine lv_lstore_n (lv' := [(1, .long (mcode (fo 1) (fo 2) 0 36)), (0, .ref h0)]) hx hb dX7_form_10 rfl hl (by decide) rfl (fun ls hl => ?_)
  refine lv_iconst (v := 1) hx hb dX7_form_11 (by decide) ?_
  refine lv_istore_n (lv' := [(3, .int 1), (1, .long (mcode (fo 1) (fo 2) 0 36)), (0, .ref h0)]) hx hb dX7_form_12 rfl hl (by decide) rfl (fun ls hl => ?_)
  have loop13 : ∀ (nn i13 : Nat), i13 + nn = 8 → ∀ ls, lv_has ls 6 [(3, .int (nI i13)), (1, .long (mleast (fo 1) (fo 2) i13)), (0, .ref h0)] → W p l e (headSpec wsX7_form ({ frames := 2, cells := 0, slots := 0, locals := 51 } : Room)).room s m ([.ref h0] : List Value).toArray below meth c H locs 0 0 (MQ below (va_Ql (fun (r : Int64) (u : Unit) => r = mleast (fo 1) (fo 2) 8) (fun (u : Unit) => pv_B D cI cJ (A) [(h0, .inr (4, [.int 0, .ref ow, .int re, .int (nI w), .int mt, .ref cl, .ref tu, .int (nI k), .ref lk, .ref f1, .ref s2, .ref ms, .ref nx, .ref bs, .int fd])), (ow, .inl (cJ, 3, .inr (.inl fo))), (cl, .inl (cI, 36, .inl cs)), (tu, .inl (cI, 36, .inl ts)), (lk, .inl (cJ, 3, .inr (.inl lo))), (f1, .inl (cJ, 6, .inr (.inl ff))), (s2, .inl (cJ, 6, .inr (.inl sf))), (ms, .inl (cI, 6, .inl mm)), (nx, .inl (cI, 6, .inl nf)), (bs, .inl (cI, 6, .inl bf))]) (A)) ([.ref h0] : List Value).toArray s 0 0 A) (F0 m 13 ls []) := by
    intro nn
    induction nn with
    | zero =>
      intro i13 hi13 ls hl
      obtain rfl : i13 = 8 := by omega
      refine lv_iload_n hx hb dX7_form_13 rfl (lv_at hl 0 rfl) ?_
      refine lv_bipush (v := 8) hx hb dX7_form_14 (by decide) ?_
      refine lv_icmp_ge (tgt := 46) hx hb dX7_form_16 (by decide) (fun c16 => ?_) (fun c16 => ?_)
      · have c16 : 8 ≤ 8 := (nq_le (a := 8) (b := 8) (by omega) (by omega)).mp c16
        refine lv_lload_n hx hb dX7_form_46 rfl (lv_at hl 1 rfl) ?_
        refine W.lret (v := (mleast (fo 1) (fo 2) 8)) hx hb hr (fun tt ht hW => ⟨⟨(mleast (fo 1) (fo 2) 8), (), rfl, ?_, by rw [ht]; exact hP, va_K.moved hW.alike hK, hD⟩, hS.F ht⟩) hS.2.2 dX7_form_47
        exact rfl
      · have c16 : ¬ 8 ≤ 8 := _root_.mt (nq_le (a := 8) (b := 8) (by omega) (by omega)).mpr c16
        omega
    | succ nn ih13 =>
      intro i13 hi13 ls hl
      refine lv_iload_n hx hb dX7_form_13 rfl (lv_at hl 0 rfl) ?_
      refine lv_bipush (v := 8) hx hb dX7_form_14 (by decide) ?_
      refine lv_icmp_ge (tgt := 46) hx hb dX7_form_16 (by decide) (fun c16 => ?_) (fun c16 => ?_)
      · have c16 : 8 ≤ i13 := (nq_le (a := 8) (b := i13) (by omega) (by omega)).mp c16
        omega
      · have c16 : ¬ 8 ≤ i13 := _root_.mt (nq_le (a := 8) (b := i13) (by omega) (by omega)).mpr c16
        refine lv_aload_n hx hb dX7_form_19 rfl (lv_at hl 2 rfl) ?_
        refine lv_iload_n hx hb dX7_form_20 rfl (lv_at hl 0 rfl) ?_
        refine vp_callSl (W.runV (As := [.int (nI i13)]) (rest := []) ⟨hx, hb, hml, hown, hts⟩ (c_X7_codeOf l D cI cJ h0 ow cl tu lk f1 s2 ms nx bs 0 re mt fd w k fo lo ff sf cs ts mm nf bf i13 (by omega)) (cwV 1 hts gX7_form_X7_codeOf rfl rfl rfl (by decide +kernel) ⟨Nat.le_of_ble_eq_true rfl, Nat.le_of_ble_eq_true rfl⟩) ⟨px_blindW, va_recv hK hP (ci := 4) (q0 := 0) rfl rfl, fun U hU hW => ⟨rfl, by rw [hU]; exact hP.sub (ws' := [(h0, .inr (4, [.int 0, .ref ow, .int re, .int (nI w), .int mt, .ref cl, .ref tu, .int (nI k), .ref lk, .ref f1, .ref s2, .ref ms, .ref nx, .ref bs, .int fd])), (ow, .inl (cJ, 3, .inr (.inl fo))), (cl, .inl (cI, 36, .inl cs)), (tu, .inl (cI, 36, .inl ts)), (lk, .inl (cJ, 3, .inr (.inl lo))), (f1, .inl (cJ, 6, .inr (.inl ff))), (s2, .inl (cJ, 6, .inr (.inl sf))), (ms, .inl (cI, 6, .inl mm)), (nx, .inl (cI, 6, .inl nf)), (bs, .inl (cI, 6, .inl bf))]) [0, 1, 2, 3, 4, 5, 6, 7, 8, 9] rfl, va_K.moved hW.alike hK⟩⟩ rfl rfl hl.1 rfl (lv_room (Nat.le_of_ble_eq_true rfl)) dX7_form_21 ⟨(Nat.le_of_ble_eq_true rfl), (Nat.le_of_ble_eq_true rfl)⟩) (fun r21 er21 => ?_)
        obtain rfl := er21.symm
        refine lv_lstore (lv' := [(4, .long (mcode (fo 1) (fo 2) i13 36)), (3, .int (nI i13)), (1, .long (mleast (fo 1) (fo 2) i13)), (0, .ref h0)]) hx hb dX7_form_24 hl (by decide) rfl (fun ls hl => ?_)
        refine lv_lload hx hb dX7_form_26 (lv_at hl 0 rfl) ?_
        refine lv_lload_n hx hb dX7_form_28 rfl (lv_at hl 2 rfl) ?_
        refine W.lcmp hx hb dX7_form_29 ?_
        refine lv_if_ge (tgt := 38) hx hb dX7_form_30 (by decide) (fun c30 => ?_) (fun c30 => ?_)
        · rw [lg_cmp_ge] at c30
          refine lv_lload_n hx hb dX7_form_38 rfl (lv_at hl 2 rfl) ?_
          refine lv_lstore_n (lv' := [(1, .long (mleast (fo 1) (fo 2) i13)), (4, .long (mcode (fo 1) (fo 2) i13 36)), (3, .int (nI i13)), (0, .ref h0)]) hx hb dX7_form_39 rfl hl (by decide) rfl (fun ls hl => ?_)
          refine lv_iinc (v := nI (i13 + 1)) (lv' := [(3, .int (nI (i13 + 1))), (1, .long (mleast (fo 1) (fo 2) i13)), (4, .long (mcode (fo 1) (fo 2) i13 36)), (0, .ref h0)]) hx hb dX7_form_40 hl (k := 2) rfl (nI_add i13 1) (by decide) rfl (fun ls hl => ?_)
          refine lv_goto (tgt := 13) hx hb dX7_form_43 (by decide) ?_
          exact ih13 (i13 + 1) (by omega) ls (by { have e9 : ((mleast (fo 1) (fo 2) i13) : Int64) = (mleast (fo 1) (fo 2) (i13 + 1)) := by { first | exact mleast_1 c30 | exact mleast_2 c30 }; rw [← e9]; exact lv_sub hl [0, 1, 3] rfl })
        · rw [lg_cmp_ge] at c30
          refine lv_lload hx hb dX7_form_33 (lv_at hl 0 rfl) ?_
          refine lv_goto (tgt := 39) hx hb dX7_form_35 (by decide) ?_
          refine lv_lstore_n (lv' := [(1, .long (mcode (fo 1) (fo 2) i13 36)), (4, .long (mcode (fo 1) (fo 2) i13 36)), (3, .int (nI i13)), (0, .ref h0)]) hx hb dX7_form_39 rfl hl (by decide) rfl (fun ls hl => ?_)
          refine lv_iinc (v := nI (i13 + 1)) (lv' := [(3, .int (nI (i13 + 1))), (1, .long (mcode (fo 1) (fo 2) i13 36)), (4, .long (mcode (fo 1) (fo 2) i13 36)), (0, .ref h0)]) hx hb dX7_form_40 hl (k := 2) rfl (nI_add i13 1) (by decide) rfl (fun ls hl => ?_)
          refine lv_goto (tgt := 13) hx hb dX7_form_43 (by decide) ?_
          exact ih13 (i13 + 1) (by omega) ls (by { have e9 : ((mcode (fo 1) (fo 2) i13 36) : Int64) = (mleast (fo 1) (fo 2) (i13 + 1)) := by { first | exact mleast_1 c30 | exact mleast_2 c30 }; rw [← e9]; exact lv_sub hl [0, 1, 3] rfl })
  exact loop13 (8 - 1) 1 (by omega) ls (by { have e9 : ((mcode (fo 1) (fo 2) 0 36) : Int64) = (mleast (fo 1) (fo 2) 1) := by { exact mleast_0 }; rw [← e9]; exact lv_sub hl [0, 1, 2] rfl })

set_option maxHeartbeats 400000 in
set_option maxRecDepth 100000 in
theorem c_X7_symmetries_r (l : Launch) (D : va_G) (cI cJ : ClassId) (sz : Nat) (h0 ow cl tu lk f1 s2 ms nx bs : Nat) (th re mt fd : Int32) (w k : Nat) (fo lo ff sf : Nat → Int64) (cs ts mm nf bf : Nat → Int32)  : Met l yX7_symmetries wsX7_symmetries ({ frames := 2, cells := 0, slots := 0, locals := 51 } : Room) (va_Pc [.ref h0] (pv_C D cI cJ [(h0, .inr (4, [.int th, .ref ow, .int re, .int (nI w), .int mt, .ref cl, .ref tu, .int (nI k), .ref lk, .ref f1, .ref s2, .ref ms, .ref nx, .ref bs, .int fd])), (ow, .inl (cJ, 3, .inr (.inl fo))), (cl, .inl (cI, 36, .inl cs)), (tu, .inl (cI, 36, .inl ts)), (lk, .inl (cJ, 3, .inr (.inl lo))), (f1, .inl (cJ, 6, .inr (.inl ff))), (s2, .inl (cJ, 6, .inr (.inl sf))), (ms, .inl (cI, 6, .inl mm)), (nx, .inl (cI, 6, .inl nf)), (bs, .inl (cI, 6, .inl bf))] sz)) (va_Qi (fun (r : Int32) (u : Unit) => r = msym (fo 1) (fo 2) 8) (fun (u : Unit) => pv_B D cI cJ (va_A [(h0, .inr (4, [.int th, .ref ow, .int re, .int (nI w), .int mt, .ref cl, .ref tu, .int (nI k), .ref lk, .ref f1, .ref s2, .ref ms, .ref nx, .ref bs, .int fd])), (ow, .inl (cJ, 3, .inr (.inl fo))), (cl, .inl (cI, 36, .inl cs)), (tu, .inl (cI, 36, .inl ts)), (lk, .inl (cJ, 3, .inr (.inl lo))), (f1, .inl (cJ, 6, .inr (.inl ff))), (s2, .inl (cJ, 6, .inr (.inl sf))), (ms, .inl (cI, 6, .inl mm)), (nx, .inl (cI, 6, .inl nf)), (bs, .inl (cI, 6, .inl bf))] sz) [(h0, .inr (4, [.int 0, .ref ow, .int re, .int (nI w), .int mt, .ref cl, .ref tu, .int (nI k), .ref lk, .ref f1, .ref s2, .ref ms, .ref nx, .ref bs, .int fd])), (ow, .inl (cJ, 3, .inr (.inl fo))), (cl, .inl (cI, 36, .inl cs)), (tu, .inl (cI, 36, .inl ts)), (lk, .inl (cJ, 3, .inr (.inl lo))), (f1, .inl (cJ, 6, .inr (.inl ff))), (s2, .inl (cJ, 6, .inr (.inl sf))), (ms, .inl (cI, 6, .inl mm)), (nx, .inl (cI, 6, .inl nf)), (bs, .inl (cI, 6, .inl bf))]) (va_A [(h0, .inr (4, [.int th, .ref ow, .int re, .int (nI w), .int mt, .ref cl, .ref tu, .int (nI k), .ref lk, .ref f1, .ref s2, .ref ms, .ref nx, .ref bs, .int fd])), (ow, .inl (cJ, 3, .inr (.inl fo))), (cl, .inl (cI, 36, .inl cs)), (tu, .inl (cI, 36, .inl ts)), (lk, .inl (cJ, 3, .inr (.inl lo))), (f1, .inl (cJ, 6, .inr (.inl ff))), (s2, .inl (cJ, 6, .inr (.inl sf))), (ms, .inl (cI, 6, .inl mm)), (nx, .inl (cI, 6, .inl nf)), (bs, .inl (cI, 6, .inl bf))] sz)) 0 0 (va_A [(h0, .inr (4, [.int th, .ref ow, .int re, .int (nI w), .int mt, .ref cl, .ref tu, .int (nI k), .ref lk, .ref f1, .ref s2, .ref ms, .ref nx, .ref bs, .int fd])), (ow, .inl (cJ, 3, .inr (.inl fo))), (cl, .inl (cI, 36, .inl cs)), (tu, .inl (cI, 36, .inl ts)), (lk, .inl (cJ, 3, .inr (.inl lo))), (f1, .inl (cJ, 6, .inr (.inl ff))), (s2, .inl (cJ, 6, .inr (.inl sf))), (ms, .inl (cI, 6, .inl mm)), (nx, .inl (cI, 6, .inl nf)), (bs, .inl (cI, 6, .inl bf))] sz) := by
  refine Met.ofW (cc := cX7_symmetries) (maxL := 3) (ret := (some .int)) (by decide) rfl ?_
  intro p e s m args below meth c s₁ B hml hv
  obtain ⟨rfl, rfl, hP, hK, hD0⟩ := hv
  have hx := B.exec
  have hb := B.bytes
  have hr := B.returns
  have hts := atoms_spec (ws := wsX7_symmetries) B.pre
  have hown : s.vm.findClass RX7 = some m.cls := findClass_of_methodNamed B.named
  have hlocks := B.notSynchronized
  have hD := hD0.self (sz := s.heap.size)
  generalize hAe : va_A [(h0, .inr (4, [.int th, .ref ow, .int re, .int (nI w), .int mt, .ref cl, .ref tu, .int (nI k), .ref lk, .ref f1, .ref s2, .ref ms, .ref nx, .ref bs, .int fd])), (ow, .inl (cJ, 3, .inr (.inl fo))), (cl, .inl (cI, 36, .inl cs)), (tu, .inl (cI, 36, .inl ts)), (lk, .inl (cJ, 3, .inr (.inl lo))), (f1, .inl (cJ, 6, .inr (.inl ff))), (s2, .inl (cJ, 6, .inr (.inl sf))), (ms, .inl (cI, 6, .inl mm)), (nx, .inl (cI, 6, .inl nf)), (bs, .inl (cI, 6, .inl bf))] s.heap.size = A at hD ⊢
  have hA : ∀ q : Nat, s.heap.size ≤ q → A q := fun q h => by rw [← hAe]; exact Or.inr h
  have hS : va_S A s.heap s.heap [] := va_S.rf
  have hinX7 : ∀ w ∈ wsX70, w ∈ wsX7_symmetries := by decide +kernel
  have hfl42 : (Cond.fieldLink RX7 42 "TwistquadModel" "thrown" "I").before ([.ref h0] : List Value).toArray s = true := hts _ (by decide +kernel)
  have hl := lv_entry ([.ref h0]) (n := 3) (Nat.le_of_ble_eq_true rfl)
  rw [lg_entry_eq]
  generalize (lg_sl ([.ref h0]) ++ List.replicate (3 - (lg_sl ([.ref h0])).length) Slot.unset).toArray = ls at hl ⊢
  have hl : lv_has ls 3 [(0, .ref h0)] := hl
  refine lv_aload_n hx hb dX7_symmetries_0 rfl (lv_at hl 0 rfl) ?_
  refine lv_iconst (v := 0) hx hb dX7_symmetries_1 (by decide) ?_
  refine va_put (D := D) (ci := 4) (v := .int 0) (ty := .int) (C := RX7) (T := TX7) (N := 15) hx hb hts hinX7 tyX7 tyX7_ok nmX7 hown hK hP hD hS 0 rfl rfl 0 (by decide) hfl42 (fun _ h9 => h9) rfl (by decide +kernel) rfl rfl (Nat.le_of_ble_eq_true rfl) dX7_symmetries_2 (fun H locs hP hD hS => ?_)
  have hP : va_P D vwCl [(h0, .inr (4, [.int 0, .ref ow, .int re, .int (nI w), .int mt, .ref cl, .ref tu, .int (nI k), .ref lk, .ref f1, .ref s2, .ref ms, .ref nx, .ref bs, .int fd])), (ow, .inl (cJ, 3, .inr (.inl fo))), (cl, .inl (cI, 36, .inl cs)), (tu, .inl (cI, 36, .inl ts)), (lk, .inl (cJ, 3, .inr (.inl lo))), (f1, .inl (cJ, 6, .inr (.inl ff))), (s2, .inl (cJ, 6, .inr (.inl sf))), (ms, .inl (cI, 6, .inl mm)), (nx, .inl (cI, 6, .inl nf)), (bs, .inl (cI, 6, .inl bf))] H := hP
  have hD : va_D A [(h0, .inr (4, [.int 0, .ref ow, .int re, .int (nI w), .int mt, .ref cl, .ref tu, .int (nI k), .ref lk, .ref f1, .ref s2, .ref ms, .ref nx, .ref bs, .int fd])), (ow, .inl (cJ, 3, .inr (.inl fo))), (cl, .inl (cI, 36, .inl cs)), (tu, .inl (cI, 36, .inl ts)), (lk, .inl (cJ, 3, .inr (.inl lo))), (f1, .inl (cJ, 6, .inr (.inl ff))), (s2, .inl (cJ, 6, .inr (.inl sf))), (ms, .inl (cI, 6, .inl mm)), (nx, .inl (cI, 6, .inl nf)), (bs, .inl (cI, 6, .inl bf))] := hD
  refine lv_iconst (v := 0) hx hb dX7_symmetries_5 (by decide) ?_
  refine lv_istore_n (lv' := [(1, .int 0), (0, .ref h0)]) hx hb dX7_symmetries_6 rfl hl (by decide) rfl (fun ls hl => ?_)
  refine lv_iconst (v := 0) hx hb dX7_symmetries_7 (by decide) ?_
  refine lv_istore_n (lv' := [(2, .int 0), (1, .int 0), (0, .ref h0)]) hx hb dX7_symmetries_8 rfl hl (by decide) rfl (fun ls hl => ?_)
  have loop9 : ∀ (nn i9 : Nat), i9 + nn = 8 → ∀ ls, lv_has ls 3 [(2, .int (nI i9)), (1, .int (msym (fo 1) (fo 2) i9)), (0, .ref h0)] → W p l e (headSpec wsX7_symmetries ({ frames := 2, cells := 0, slots := 0, locals := 51 } : Room)).room s m ([.ref h0] : List Value).toArray below meth c H locs 0 0 (MQ below (va_Qi (fun (r : Int32) (u : Unit) => r = msym (fo 1) (fo 2) 8) (fun (u : Unit) => pv_B D cI cJ (A) [(h0, .inr (4, [.int 0, .ref ow, .int re, .int (nI w), .int mt, .ref cl, .ref tu, .int (nI k), .ref lk, .ref f1, .ref s2, .ref ms, .ref nx, .ref bs, .int fd])), (ow, .inl (cJ, 3, .inr (.inl fo))), (cl, .inl (cI, 36, .inl cs)), (tu, .inl (cI, 36, .inl ts)), (lk, .inl (cJ, 3, .inr (.inl lo))), (f1, .inl (cJ, 6, .inr (.inl ff))), (s2, .inl (cJ, 6, .inr (.inl sf))), (ms, .inl (cI, 6, .inl mm)), (nx, .inl (cI, 6, .inl nf)), (bs, .inl (cI, 6, .inl bf))]) (A)) ([.ref h0] : List Value).toArray s 0 0 A) (F0 m 9 ls []) := by
    intro nn
    induction nn with
    | zero =>
      intro i9 hi9 ls hl
      obtain rfl : i9 = 8 := by omega
      refine lv_iload_n hx hb dX7_symmetries_9 rfl (lv_at hl 0 rfl) ?_
      refine lv_bipush (v := 8) hx hb dX7_symmetries_10 (by decide) ?_
      refine lv_icmp_ge (tgt := 43) hx hb dX7_symmetries_12 (by decide) (fun c12 => ?_) (fun c12 => ?_)
      · have c12 : 8 ≤ 8 := (nq_le (a := 8) (b := 8) (by omega) (by omega)).mp c12
        refine lv_iload_n hx hb dX7_symmetries_43 rfl (lv_at hl 1 rfl) ?_
        refine W.iret (v := (msym (fo 1) (fo 2) 8)) hx hb hr (fun tt ht hW => ⟨⟨(msym (fo 1) (fo 2) 8), (), rfl, ?_, by rw [ht]; exact hP, va_K.moved hW.alike hK, hD⟩, hS.F ht⟩) hS.2.2 dX7_symmetries_44
        exact rfl
      · have c12 : ¬ 8 ≤ 8 := _root_.mt (nq_le (a := 8) (b := 8) (by omega) (by omega)).mpr c12
        omega
    | succ nn ih9 =>
      intro i9 hi9 ls hl
      refine lv_iload_n hx hb dX7_symmetries_9 rfl (lv_at hl 0 rfl) ?_
      refine lv_bipush (v := 8) hx hb dX7_symmetries_10 (by decide) ?_
      refine lv_icmp_ge (tgt := 43) hx hb dX7_symmetries_12 (by decide) (fun c12 => ?_) (fun c12 => ?_)
      · have c12 : 8 ≤ i9 := (nq_le (a := 8) (b := i9) (by omega) (by omega)).mp c12
        omega
      · have c12 : ¬ 8 ≤ i9 := _root_.mt (nq_le (a := 8) (b := i9) (by omega) (by omega)).mpr c12
        refine lv_iload_n hx hb dX7_symmetries_15 rfl (lv_at hl 1 rfl) ?_
        refine lv_aload_n hx hb dX7_symmetries_16 rfl (lv_at hl 2 rfl) ?_
        refine lv_iload_n hx hb dX7_symmetries_17 rfl (lv_at hl 0 rfl) ?_
        refine vp_callSl (W.runV (As := [.int (nI i9)]) (rest := [.int (msym (fo 1) (fo 2) i9)]) ⟨hx, hb, hml, hown, hts⟩ (c_X7_codeOf l D cI cJ h0 ow cl tu lk f1 s2 ms nx bs 0 re mt fd w k fo lo ff sf cs ts mm nf bf i9 (by omega)) (cwV 1 hts gX7_symmetries_X7_codeOf rfl rfl rfl (by decide +kernel) ⟨Nat.le_of_ble_eq_true rfl, Nat.le_of_ble_eq_true rfl⟩) ⟨px_blindW, va_recv hK hP (ci := 4) (q0 := 0) rfl rfl, fun U hU hW => ⟨rfl, by rw [hU]; exact hP.sub (ws' := [(h0, .inr (4, [.int 0, .ref ow, .int re, .int (nI w), .int mt, .ref cl, .ref tu, .int (nI k), .ref lk, .ref f1, .ref s2, .ref ms, .ref nx, .ref bs, .int fd])), (ow, .inl (cJ, 3, .inr (.inl fo))), (cl, .inl (cI, 36, .inl cs)), (tu, .inl (cI, 36, .inl ts)), (lk, .inl (cJ, 3, .inr (.inl lo))), (f1, .inl (cJ, 6, .inr (.inl ff))), (s2, .inl (cJ, 6, .inr (.inl sf))), (ms, .inl (cI, 6, .inl mm)), (nx, .inl (cI, 6, .inl nf)), (bs, .inl (cI, 6, .inl bf))]) [0, 1, 2, 3, 4, 5, 6, 7, 8, 9] rfl, va_K.moved hW.alike hK⟩⟩ rfl rfl hl.1 rfl (lv_room (Nat.le_of_ble_eq_true rfl)) dX7_symmetries_18 ⟨(Nat.le_of_ble_eq_true rfl), (Nat.le_of_ble_eq_true rfl)⟩) (fun r18 er18 => ?_)
        obtain rfl := er18.symm
        refine lv_aload_n hx hb dX7_symmetries_21 rfl (lv_at hl 2 rfl) ?_
        refine lv_iconst (v := 0) hx hb dX7_symmetries_22 (by decide) ?_
        refine vp_callSl (W.runV (As := [.int 0]) (rest := [.long (mcode (fo 1) (fo 2) i9 36), .int (msym (fo 1) (fo 2) i9)]) ⟨hx, hb, hml, hown, hts⟩ (c_X7_codeOf l D cI cJ h0 ow cl tu lk f1 s2 ms nx bs 0 re mt fd w k fo lo ff sf cs ts mm nf bf 0 (by omega)) (cwV 1 hts gX7_symmetries_X7_codeOf rfl rfl rfl (by decide +kernel) ⟨Nat.le_of_ble_eq_true rfl, Nat.le_of_ble_eq_true rfl⟩) ⟨px_blindW, va_recv hK hP (ci := 4) (q0 := 0) rfl rfl, fun U hU hW => ⟨rfl, by rw [hU]; exact hP.sub (ws' := [(h0, .inr (4, [.int 0, .ref ow, .int re, .int (nI w), .int mt, .ref cl, .ref tu, .int (nI k), .ref lk, .ref f1, .ref s2, .ref ms, .ref nx, .ref bs, .int fd])), (ow, .inl (cJ, 3, .inr (.inl fo))), (cl, .inl (cI, 36, .inl cs)), (tu, .inl (cI, 36, .inl ts)), (lk, .inl (cJ, 3, .inr (.inl lo))), (f1, .inl (cJ, 6, .inr (.inl ff))), (s2, .inl (cJ, 6, .inr (.inl sf))), (ms, .inl (cI, 6, .inl mm)), (nx, .inl (cI, 6, .inl nf)), (bs, .inl (cI, 6, .inl bf))]) [0, 1, 2, 3, 4, 5, 6, 7, 8, 9] rfl, va_K.moved hW.alike hK⟩⟩ rfl rfl hl.1 rfl (lv_room (Nat.le_of_ble_eq_true rfl)) dX7_symmetries_23 ⟨(Nat.le_of_ble_eq_true rfl), (Nat.le_of_ble_eq_true rfl)⟩) (fun r23 er23 => ?_)
        obtain rfl := er23.symm
        refine W.lcmp hx hb dX7_symmetries_26 ?_
        refine lv_if_ne (tgt := 34) hx hb dX7_symmetries_27 (by decide) (fun c27 => ?_) (fun c27 => ?_)
        · rw [lg_cmp_eq] at c27
          refine lv_iconst (v := 0) hx hb dX7_symmetries_34 (by decide) ?_
          refine lv_iadd hx hb dX7_symmetries_35 ?_
          refine lv_topi (fun x35 ex35 => ?_)
          refine lv_istore_n (lv' := [(1, .int x35), (2, .int (nI i9)), (0, .ref h0)]) hx hb dX7_symmetries_36 rfl hl (by decide) rfl (fun ls hl => ?_)
          refine lv_iinc (v := nI (i9 + 1)) (lv' := [(2, .int (nI (i9 + 1))), (1, .int x35), (0, .ref h0)]) hx hb dX7_symmetries_37 hl (k := 1) rfl (nI_add i9 1) (by decide) rfl (fun ls hl => ?_)
          refine lv_goto (tgt := 9) hx hb dX7_symmetries_40 (by decide) ?_
          exact ih9 (i9 + 1) (by omega) ls (by { have e9 : (x35 : Int32) = (msym (fo 1) (fo 2) (i9 + 1)) := by { obtain rfl := ex35.symm; first | exact msym_1 c27 | exact msym_2 c27 }; rw [← e9]; exact lv_sub hl [0, 1, 2] rfl })
        · rw [lg_cmp_eq] at c27
          refine lv_iconst (v := 1) hx hb dX7_symmetries_30 (by decide) ?_
          refine lv_goto (tgt := 35) hx hb dX7_symmetries_31 (by decide) ?_
          refine lv_iadd hx hb dX7_symmetries_35 ?_
          refine lv_topi (fun x35 ex35 => ?_)
          refine lv_istore_n (lv' := [(1, .int x35), (2, .int (nI i9)), (0, .ref h0)]) hx hb dX7_symmetries_36 rfl hl (by decide) rfl (fun ls hl => ?_)
          refine lv_iinc (v := nI (i9 + 1)) (lv' := [(2, .int (nI (i9 + 1))), (1, .int x35), (0, .ref h0)]) hx hb dX7_symmetries_37 hl (k := 1) rfl (nI_add i9 1) (by decide) rfl (fun ls hl => ?_)
          refine lv_goto (tgt := 9) hx hb dX7_symmetries_40 (by decide) ?_
          exact ih9 (i9 + 1) (by omega) ls (by { have e9 : (x35 : Int32) = (msym (fo 1) (fo 2) (i9 + 1)) := by { obtain rfl := ex35.symm; first | exact msym_1 c27 | exact msym_2 c27 }; rw [← e9]; exact lv_sub hl [0, 1, 2] rfl })
  exact loop9 8 0 (by omega) ls (lv_sub hl [0, 1, 2] rfl)

set_option maxHeartbeats 400000 in
set_option maxRecDepth 100000 in
theorem c_X7_winningCells_bad (l : Launch) (D : va_G) (cI cJ : ClassId) (sz : Nat) (h0 ow cl tu lk f1 s2 ms nx bs : Nat) (th re mt fd : Int32) (w k : Nat) (fo lo ff sf : Nat → Int64) (cs ts mm nf bf : Nat → Int32) (hbad : ¬ (re = 0 ∧ mt = 0)) : Met l yX7_winningCells wsX7_winningCells ({ frames := 4, cells := 0, slots := 0, locals := 93 } : Room) (va_Pc [.ref h0] (pv_C D cI cJ [(h0, .inr (4, [.int th, .ref ow, .int re, .int (nI w), .int mt, .ref cl, .ref tu, .int (nI k), .ref lk, .ref f1, .ref s2, .ref ms, .ref nx, .ref bs, .int fd])), (ow, .inl (cJ, 3, .inr (.inl fo))), (cl, .inl (cI, 36, .inl cs)), (tu, .inl (cI, 36, .inl ts)), (lk, .inl (cJ, 3, .inr (.inl lo))), (f1, .inl (cJ, 6, .inr (.inl ff))), (s2, .inl (cJ, 6, .inr (.inl sf))), (ms, .inl (cI, 6, .inl mm)), (nx, .inl (cI, 6, .inl nf)), (bs, .inl (cI, 6, .inl bf))] sz)) (va_Qi (fun (r : Int32) (u : Unit) => r = 0) (fun (u : Unit) => pv_B D cI cJ (va_A [(h0, .inr (4, [.int th, .ref ow, .int re, .int (nI w), .int mt, .ref cl, .ref tu, .int (nI k), .ref lk, .ref f1, .ref s2, .ref ms, .ref nx, .ref bs, .int fd])), (ow, .inl (cJ, 3, .inr (.inl fo))), (cl, .inl (cI, 36, .inl cs)), (tu, .inl (cI, 36, .inl ts)), (lk, .inl (cJ, 3, .inr (.inl lo))), (f1, .inl (cJ, 6, .inr (.inl ff))), (s2, .inl (cJ, 6, .inr (.inl sf))), (ms, .inl (cI, 6, .inl mm)), (nx, .inl (cI, 6, .inl nf)), (bs, .inl (cI, 6, .inl bf))] sz) [(h0, .inr (4, [.int 1, .ref ow, .int re, .int (nI w), .int mt, .ref cl, .ref tu, .int (nI k), .ref lk, .ref f1, .ref s2, .ref ms, .ref nx, .ref bs, .int fd])), (ow, .inl (cJ, 3, .inr (.inl fo))), (cl, .inl (cI, 36, .inl cs)), (tu, .inl (cI, 36, .inl ts)), (lk, .inl (cJ, 3, .inr (.inl lo))), (f1, .inl (cJ, 6, .inr (.inl ff))), (s2, .inl (cJ, 6, .inr (.inl sf))), (ms, .inl (cI, 6, .inl mm)), (nx, .inl (cI, 6, .inl nf)), (bs, .inl (cI, 6, .inl bf))]) (va_A [(h0, .inr (4, [.int th, .ref ow, .int re, .int (nI w), .int mt, .ref cl, .ref tu, .int (nI k), .ref lk, .ref f1, .ref s2, .ref ms, .ref nx, .ref bs, .int fd])), (ow, .inl (cJ, 3, .inr (.inl fo))), (cl, .inl (cI, 36, .inl cs)), (tu, .inl (cI, 36, .inl ts)), (lk, .inl (cJ, 3, .inr (.inl lo))), (f1, .inl (cJ, 6, .inr (.inl ff))), (s2, .inl (cJ, 6, .inr (.inl sf))), (ms, .inl (cI, 6, .inl mm)), (nx, .inl (cI, 6, .inl nf)), (bs, .inl (cI, 6, .inl bf))] sz)) 0 0 (va_A [(h0, .inr (4, [.int th, .ref ow, .int re, .int (nI w), .int mt, .ref cl, .ref tu, .int (nI k), .ref lk, .ref f1, .ref s2, .ref ms, .ref nx, .ref bs, .int fd])), (ow, .inl (cJ, 3, .inr (.inl fo))), (cl, .inl (cI, 36, .inl cs)), (tu, .inl (cI, 36, .inl ts)), (lk, .inl (cJ, 3, .inr (.inl lo))), (f1, .inl (cJ, 6, .inr (.inl ff))), (s2, .inl (cJ, 6, .inr (.inl sf))), (ms, .inl (cI, 6, .inl mm)), (nx, .inl (cI, 6, .inl nf)), (bs, .inl (cI, 6, .inl bf))] sz) := by
  refine Met.ofW (cc := cX7_winningCells) (maxL := 3) (ret := (some .int)) (by decide) rfl ?_
  intro p e s m args below meth c s₁ B hml hv
  obtain ⟨rfl, rfl, hP, hK, hD0⟩ := hv
  have hx := B.exec
  have hb := B.bytes
  have hr := B.returns
  have hts := atoms_spec (ws := wsX7_winningCells) B.pre
  have hown : s.vm.findClass RX7 = some m.cls := findClass_of_methodNamed B.named
  have hlocks := B.notSynchronized
  have hD := hD0.self (sz := s.heap.size)
  generalize hAe : va_A [(h0, .inr (4, [.int th, .ref ow, .int re, .int (nI w), .int mt, .ref cl, .ref tu, .int (nI k), .ref lk, .ref f1, .ref s2, .ref ms, .ref nx, .ref bs, .int fd])), (ow, .inl (cJ, 3, .inr (.inl fo))), (cl, .inl (cI, 36, .inl cs)), (tu, .inl (cI, 36, .inl ts)), (lk, .inl (cJ, 3, .inr (.inl lo))), (f1, .inl (cJ, 6, .inr (.inl ff))), (s2, .inl (cJ, 6, .inr (.inl sf))), (ms, .inl (cI, 6, .inl mm)), (nx, .inl (cI, 6, .inl nf)), (bs, .inl (cI, 6, .inl bf))] s.heap.size = A at hD ⊢
  have hA : ∀ q : Nat, s.heap.size ≤ q → A q := fun q h => by rw [← hAe]; exact Or.inr h
  have hS : va_S A s.heap s.heap [] := va_S.rf
  have hinX7 : ∀ w ∈ wsX70, w ∈ wsX7_winningCells := by decide +kernel
  have hfl73 : (Cond.fieldLink RX7 73 "TwistquadModel" "result" "I").before ([.ref h0] : List Value).toArray s = true := hts _ (by decide +kernel)
  have hfl76 : (Cond.fieldLink RX7 76 "TwistquadModel" "mustTurn" "Z").before ([.ref h0] : List Value).toArray s = true := hts _ (by decide +kernel)
  have hl := lv_entry ([.ref h0]) (n := 3) (Nat.le_of_ble_eq_true rfl)
  rw [lg_entry_eq]
  generalize (lg_sl ([.ref h0]) ++ List.replicate (3 - (lg_sl ([.ref h0])).length) Slot.unset).toArray = ls at hl ⊢
  have hl : lv_has ls 3 [(0, .ref h0)] := hl
  refine lv_aload_n hx hb dX7_winningCells_0 rfl (lv_at hl 0 rfl) ?_
  refine lv_aload_n hx hb dX7_winningCells_1 rfl (lv_at hl 0 rfl) ?_
  refine va_get (D := D) (ci := 4) (v := .int re) (C := RX7) (T := TX7) (N := 15) hx hb hts hinX7 hown hK hP 0 rfl rfl 2 (by decide) hfl73 (fun _ h9 => h9) rfl dX7_winningCells_2 ?_
  refine lv_if_ne (tgt := 15) hx hb dX7_winningCells_5 (by decide) (fun c5 => ?_) (fun c5 => ?_)
  · refine lv_iconst (v := 1) hx hb dX7_winningCells_15 (by decide) ?_
    refine lv_goto (tgt := 20) hx hb dX7_winningCells_16 (by decide) ?_
    have hPc := hP.sub (ws' := [(h0, .inr (4, [.int th, .ref ow, .int re, .int (nI w), .int mt, .ref cl, .ref tu, .int (nI k), .ref lk, .ref f1, .ref s2, .ref ms, .ref nx, .ref bs, .int fd])), (ow, .inl (cJ, 3, .inr (.inl fo))), (cl, .inl (cI, 36, .inl cs)), (tu, .inl (cI, 36, .inl ts)), (lk, .inl (cJ, 3, .inr (.inl lo))), (f1, .inl (cJ, 6, .inr (.inl ff))), (s2, .inl (cJ, 6, .inr (.inl sf))), (ms, .inl (cI, 6, .inl mm)), (nx, .inl (cI, 6, .inl nf)), (bs, .inl (cI, 6, .inl bf))]) [0, 1, 2, 3, 4, 5, 6, 7, 8, 9] rfl
    have hDc := hD.sub (ws' := [(h0, .inr (4, [.int th, .ref ow, .int re, .int (nI w), .int mt, .ref cl, .ref tu, .int (nI k), .ref lk, .ref f1, .ref s2, .ref ms, .ref nx, .ref bs, .int fd])), (ow, .inl (cJ, 3, .inr (.inl fo))), (cl, .inl (cI, 36, .inl cs)), (tu, .inl (cI, 36, .inl ts)), (lk, .inl (cJ, 3, .inr (.inl lo))), (f1, .inl (cJ, 6, .inr (.inl ff))), (s2, .inl (cJ, 6, .inr (.inl sf))), (ms, .inl (cI, 6, .inl mm)), (nx, .inl (cI, 6, .inl nf)), (bs, .inl (cI, 6, .inl bf))]) [0, 1, 2, 3, 4, 5, 6, 7, 8, 9] (by decide) rfl
    have hFc := va_free (wc := [(h0, .inr (4, [.int th, .ref ow, .int re, .int (nI w), .int mt, .ref cl, .ref tu, .int (nI k), .ref lk, .ref f1, .ref s2, .ref ms, .ref nx, .ref bs, .int fd])), (ow, .inl (cJ, 3, .inr (.inl fo))), (cl, .inl (cI, 36, .inl cs)), (tu, .inl (cI, 36, .inl ts)), (lk, .inl (cJ, 3, .inr (.inl lo))), (f1, .inl (cJ, 6, .inr (.inl ff))), (s2, .inl (cJ, 6, .inr (.inl sf))), (ms, .inl (cI, 6, .inl mm)), (nx, .inl (cI, 6, .inl nf)), (bs, .inl (cI, 6, .inl bf))]) hD hS hA [0, 1, 2, 3, 4, 5, 6, 7, 8, 9] rfl
    refine va_calli (va_runV (As := [.int 1]) (rest := []) ⟨hx, hb, hml, hown, hts⟩ (c_X7_goesWell l D cI cJ s.heap.size  h0 ow cl tu lk f1 s2 ms nx bs th re mt fd w k fo lo ff sf cs ts mm nf bf 1) (cwV 1 hts gX7_winningCells_X7_goesWell rfl rfl rfl (by decide +kernel) ⟨Nat.le_of_ble_eq_true rfl, Nat.le_of_ble_eq_true rfl⟩) ⟨pv_blind, va_recv hK hPc (ci := 4) (q0 := 0) rfl rfl, fun U hU hW => ⟨rfl, by rw [hU], by rw [hU]; exact hPc, va_K.moved hW.alike hK, hDc.weaken (fun _ _ _ _ => trivial)⟩⟩ rfl rfl hl.1 rfl (lv_room (Nat.le_of_ble_eq_true rfl)) dX7_winningCells_20 ⟨(Nat.le_of_ble_eq_true rfl), (Nat.le_of_ble_eq_true rfl)⟩) hS (fun q _ h => hFc q h) hFc (fun r20 u t9 H1 locs hth hvm hw20 hB hz1 hk1 hS => ?_)
    try dsimp only at hw20
    obtain ⟨hP1, hK1, hD1⟩ := hB
    rw [hth] at hP1
    obtain ⟨hP, hD⟩ := va_join (wr := []) (w1 := [(h0, .inr (4, [.int 1, .ref ow, .int re, .int (nI w), .int mt, .ref cl, .ref tu, .int (nI k), .ref lk, .ref f1, .ref s2, .ref ms, .ref nx, .ref bs, .int fd])), (ow, .inl (cJ, 3, .inr (.inl fo))), (cl, .inl (cI, 36, .inl cs)), (tu, .inl (cI, 36, .inl ts)), (lk, .inl (cJ, 3, .inr (.inl lo))), (f1, .inl (cJ, 6, .inr (.inl ff))), (s2, .inl (cJ, 6, .inr (.inl sf))), (ms, .inl (cI, 6, .inl mm)), (nx, .inl (cI, 6, .inl nf)), (bs, .inl (cI, 6, .inl bf))]) hP hD [0, 1, 2, 3, 4, 5, 6, 7, 8, 9] [] rfl rfl (by decide) (by decide) hk1 hFc hP1 hD1
    generalize H1 = H at hP hS ⊢
    have hP : va_P D vwCl [(h0, .inr (4, [.int 1, .ref ow, .int re, .int (nI w), .int mt, .ref cl, .ref tu, .int (nI k), .ref lk, .ref f1, .ref s2, .ref ms, .ref nx, .ref bs, .int fd])), (ow, .inl (cJ, 3, .inr (.inl fo))), (cl, .inl (cI, 36, .inl cs)), (tu, .inl (cI, 36, .inl ts)), (lk, .inl (cJ, 3, .inr (.inl lo))), (f1, .inl (cJ, 6, .inr (.inl ff))), (s2, .inl (cJ, 6, .inr (.inl sf))), (ms, .inl (cI, 6, .inl mm)), (nx, .inl (cI, 6, .inl nf)), (bs, .inl (cI, 6, .inl bf))] H := hP.sub (ws' := [(h0, .inr (4, [.int 1, .ref ow, .int re, .int (nI w), .int mt, .ref cl, .ref tu, .int (nI k), .ref lk, .ref f1, .ref s2, .ref ms, .ref nx, .ref bs, .int fd])), (ow, .inl (cJ, 3, .inr (.inl fo))), (cl, .inl (cI, 36, .inl cs)), (tu, .inl (cI, 36, .inl ts)), (lk, .inl (cJ, 3, .inr (.inl lo))), (f1, .inl (cJ, 6, .inr (.inl ff))), (s2, .inl (cJ, 6, .inr (.inl sf))), (ms, .inl (cI, 6, .inl mm)), (nx, .inl (cI, 6, .inl nf)), (bs, .inl (cI, 6, .inl bf))]) [0, 1, 2, 3, 4, 5, 6, 7, 8, 9] rfl
    have hD : va_D A [(h0, .inr (4, [.int 1, .ref ow, .int re, .int (nI w), .int mt, .ref cl, .ref tu, .int (nI k), .ref lk, .ref f1, .ref s2, .ref ms, .ref nx, .ref bs, .int fd])), (ow, .inl (cJ, 3, .inr (.inl fo))), (cl, .inl (cI, 36, .inl cs)), (tu, .inl (cI, 36, .inl ts)), (lk, .inl (cJ, 3, .inr (.inl lo))), (f1, .inl (cJ, 6, .inr (.inl ff))), (s2, .inl (cJ, 6, .inr (.inl sf))), (ms, .inl (cI, 6, .inl mm)), (nx, .inl (cI, 6, .inl nf)), (bs, .inl (cI, 6, .inl bf))] := hD.sub (ws' := [(h0, .inr (4, [.int 1, .ref ow, .int re, .int (nI w), .int mt, .ref cl, .ref tu, .int (nI k), .ref lk, .ref f1, .ref s2, .ref ms, .ref nx, .ref bs, .int fd])), (ow, .inl (cJ, 3, .inr (.inl fo))), (cl, .inl (cI, 36, .inl cs)), (tu, .inl (cI, 36, .inl ts)), (lk, .inl (cJ, 3, .inr (.inl lo))), (f1, .inl (cJ, 6, .inr (.inl ff))), (s2, .inl (cJ, 6, .inr (.inl sf))), (ms, .inl (cI, 6, .inl mm)), (nx, .inl (cI, 6, .inl nf)), (bs, .inl (cI, 6, .inl bf))]) [0, 1, 2, 3, 4, 5, 6, 7, 8, 9] (by decide) rfl
    obtain rfl := hw20.symm
    refine pk_ti (y := 0) (if_neg (by decide)) ?_
    refine lv_if_ne (tgt := 28) hx hb dX7_winningCells_23 (by decide) (fun c23 => ?_) (fun c23 => ?_)
    · exact absurd c23 (by decide)
    · refine lv_iconst (v := 0) hx hb dX7_winningCells_26 (by decide) ?_
      refine W.iret (v := 0) hx hb hr (fun tt ht hW => ⟨⟨0, (), rfl, ?_, by rw [ht]; exact hP, va_K.moved hW.alike hK, hD⟩, hS.F ht⟩) hS.2.2 dX7_winningCells_27
      exact rfl
  · refine lv_aload_n hx hb dX7_winningCells_8 rfl (lv_at hl 0 rfl) ?_
    refine va_get (D := D) (ci := 4) (v := .int mt) (C := RX7) (T := TX7) (N := 15) hx hb hts hinX7 hown hK hP 0 rfl rfl 4 (by decide) hfl76 (fun _ h9 => h9) rfl dX7_winningCells_9 ?_
    refine lv_if_eq (tgt := 19) hx hb dX7_winningCells_12 (by decide) (fun c12 => ?_) (fun c12 => ?_)
    · exact absurd ⟨c5, c12⟩ hbad
    · refine lv_iconst (v := 1) hx hb dX7_winningCells_15 (by decide) ?_
      refine lv_goto (tgt := 20) hx hb dX7_winningCells_16 (by decide) ?_
      have hPc := hP.sub (ws' := [(h0, .inr (4, [.int th, .ref ow, .int re, .int (nI w), .int mt, .ref cl, .ref tu, .int (nI k), .ref lk, .ref f1, .ref s2, .ref ms, .ref nx, .ref bs, .int fd])), (ow, .inl (cJ, 3, .inr (.inl fo))), (cl, .inl (cI, 36, .inl cs)), (tu, .inl (cI, 36, .inl ts)), (lk, .inl (cJ, 3, .inr (.inl lo))), (f1, .inl (cJ, 6, .inr (.inl ff))), (s2, .inl (cJ, 6, .inr (.inl sf))), (ms, .inl (cI, 6, .inl mm)), (nx, .inl (cI, 6, .inl nf)), (bs, .inl (cI, 6, .inl bf))]) [0, 1, 2, 3, 4, 5, 6, 7, 8, 9] rfl
      have hDc := hD.sub (ws' := [(h0, .inr (4, [.int th, .ref ow, .int re, .int (nI w), .int mt, .ref cl, .ref tu, .int (nI k), .ref lk, .ref f1, .ref s2, .ref ms, .ref nx, .ref bs, .int fd])), (ow, .inl (cJ, 3, .inr (.inl fo))), (cl, .inl (cI, 36, .inl cs)), (tu, .inl (cI, 36, .inl ts)), (lk, .inl (cJ, 3, .inr (.inl lo))), (f1, .inl (cJ, 6, .inr (.inl ff))), (s2, .inl (cJ, 6, .inr (.inl sf))), (ms, .inl (cI, 6, .inl mm)), (nx, .inl (cI, 6, .inl nf)), (bs, .inl (cI, 6, .inl bf))]) [0, 1, 2, 3, 4, 5, 6, 7, 8, 9] (by decide) rfl
      have hFc := va_free (wc := [(h0, .inr (4, [.int th, .ref ow, .int re, .int (nI w), .int mt, .ref cl, .ref tu, .int (nI k), .ref lk, .ref f1, .ref s2, .ref ms, .ref nx, .ref bs, .int fd])), (ow, .inl (cJ, 3, .inr (.inl fo))), (cl, .inl (cI, 36, .inl cs)), (tu, .inl (cI, 36, .inl ts)), (lk, .inl (cJ, 3, .inr (.inl lo))), (f1, .inl (cJ, 6, .inr (.inl ff))), (s2, .inl (cJ, 6, .inr (.inl sf))), (ms, .inl (cI, 6, .inl mm)), (nx, .inl (cI, 6, .inl nf)), (bs, .inl (cI, 6, .inl bf))]) hD hS hA [0, 1, 2, 3, 4, 5, 6, 7, 8, 9] rfl
      refine va_calli (va_runV (As := [.int 1]) (rest := []) ⟨hx, hb, hml, hown, hts⟩ (c_X7_goesWell l D cI cJ s.heap.size  h0 ow cl tu lk f1 s2 ms nx bs th re mt fd w k fo lo ff sf cs ts mm nf bf 1) (cwV 1 hts gX7_winningCells_X7_goesWell rfl rfl rfl (by decide +kernel) ⟨Nat.le_of_ble_eq_true rfl, Nat.le_of_ble_eq_true rfl⟩) ⟨pv_blind, va_recv hK hPc (ci := 4) (q0 := 0) rfl rfl, fun U hU hW => ⟨rfl, by rw [hU], by rw [hU]; exact hPc, va_K.moved hW.alike hK, hDc.weaken (fun _ _ _ _ => trivial)⟩⟩ rfl rfl hl.1 rfl (lv_room (Nat.le_of_ble_eq_true rfl)) dX7_winningCells_20 ⟨(Nat.le_of_ble_eq_true rfl), (Nat.le_of_ble_eq_true rfl)⟩) hS (fun q _ h => hFc q h) hFc (fun r20 u t9 H1 locs hth hvm hw20 hB hz1 hk1 hS => ?_)
      try dsimp only at hw20
      obtain ⟨hP1, hK1, hD1⟩ := hB
      rw [hth] at hP1
      obtain ⟨hP, hD⟩ := va_join (wr := []) (w1 := [(h0, .inr (4, [.int 1, .ref ow, .int re, .int (nI w), .int mt, .ref cl, .ref tu, .int (nI k), .ref lk, .ref f1, .ref s2, .ref ms, .ref nx, .ref bs, .int fd])), (ow, .inl (cJ, 3, .inr (.inl fo))), (cl, .inl (cI, 36, .inl cs)), (tu, .inl (cI, 36, .inl ts)), (lk, .inl (cJ, 3, .inr (.inl lo))), (f1, .inl (cJ, 6, .inr (.inl ff))), (s2, .inl (cJ, 6, .inr (.inl sf))), (ms, .inl (cI, 6, .inl mm)), (nx, .inl (cI, 6, .inl nf)), (bs, .inl (cI, 6, .inl bf))]) hP hD [0, 1, 2, 3, 4, 5, 6, 7, 8, 9] [] rfl rfl (by decide) (by decide) hk1 hFc hP1 hD1
      generalize H1 = H at hP hS ⊢
      have hP : va_P D vwCl [(h0, .inr (4, [.int 1, .ref ow, .int re, .int (nI w), .int mt, .ref cl, .ref tu, .int (nI k), .ref lk, .ref f1, .ref s2, .ref ms, .ref nx, .ref bs, .int fd])), (ow, .inl (cJ, 3, .inr (.inl fo))), (cl, .inl (cI, 36, .inl cs)), (tu, .inl (cI, 36, .inl ts)), (lk, .inl (cJ, 3, .inr (.inl lo))), (f1, .inl (cJ, 6, .inr (.inl ff))), (s2, .inl (cJ, 6, .inr (.inl sf))), (ms, .inl (cI, 6, .inl mm)), (nx, .inl (cI, 6, .inl nf)), (bs, .inl (cI, 6, .inl bf))] H := hP.sub (ws' := [(h0, .inr (4, [.int 1, .ref ow, .int re, .int (nI w), .int mt, .ref cl, .ref tu, .int (nI k), .ref lk, .ref f1, .ref s2, .ref ms, .ref nx, .ref bs, .int fd])), (ow, .inl (cJ, 3, .inr (.inl fo))), (cl, .inl (cI, 36, .inl cs)), (tu, .inl (cI, 36, .inl ts)), (lk, .inl (cJ, 3, .inr (.inl lo))), (f1, .inl (cJ, 6, .inr (.inl ff))), (s2, .inl (cJ, 6, .inr (.inl sf))), (ms, .inl (cI, 6, .inl mm)), (nx, .inl (cI, 6, .inl nf)), (bs, .inl (cI, 6, .inl bf))]) [0, 1, 2, 3, 4, 5, 6, 7, 8, 9] rfl
      have hD : va_D A [(h0, .inr (4, [.int 1, .ref ow, .int re, .int (nI w), .int mt, .ref cl, .ref tu, .int (nI k), .ref lk, .ref f1, .ref s2, .ref ms, .ref nx, .ref bs, .int fd])), (ow, .inl (cJ, 3, .inr (.inl fo))), (cl, .inl (cI, 36, .inl cs)), (tu, .inl (cI, 36, .inl ts)), (lk, .inl (cJ, 3, .inr (.inl lo))), (f1, .inl (cJ, 6, .inr (.inl ff))), (s2, .inl (cJ, 6, .inr (.inl sf))), (ms, .inl (cI, 6, .inl mm)), (nx, .inl (cI, 6, .inl nf)), (bs, .inl (cI, 6, .inl bf))] := hD.sub (ws' := [(h0, .inr (4, [.int 1, .ref ow, .int re, .int (nI w), .int mt, .ref cl, .ref tu, .int (nI k), .ref lk, .ref f1, .ref s2, .ref ms, .ref nx, .ref bs, .int fd])), (ow, .inl (cJ, 3, .inr (.inl fo))), (cl, .inl (cI, 36, .inl cs)), (tu, .inl (cI, 36, .inl ts)), (lk, .inl (cJ, 3, .inr (.inl lo))), (f1, .inl (cJ, 6, .inr (.inl ff))), (s2, .inl (cJ, 6, .inr (.inl sf))), (ms, .inl (cI, 6, .inl mm)), (nx, .inl (cI, 6, .inl nf)), (bs, .inl (cI, 6, .inl bf))]) [0, 1, 2, 3, 4, 5, 6, 7, 8, 9] (by decide) rfl
      obtain rfl := hw20.symm
      refine pk_ti (y := 0) (if_neg (by decide)) ?_
      refine lv_if_ne (tgt := 28) hx hb dX7_winningCells_23 (by decide) (fun c23 => ?_) (fun c23 => ?_)
      · exact absurd c23 (by decide)
      · refine lv_iconst (v := 0) hx hb dX7_winningCells_26 (by decide) ?_
        refine W.iret (v := 0) hx hb hr (fun tt ht hW => ⟨⟨0, (), rfl, ?_, by rw [ht]; exact hP, va_K.moved hW.alike hK, hD⟩, hS.F ht⟩) hS.2.2 dX7_winningCells_27
        exact rfl

set_option maxHeartbeats 400000 in
set_option maxRecDepth 100000 in
theorem c_X7_winningCells_ok (l : Launch) (D : va_G) (cI cJ : ClassId) (sz : Nat) (h0 ow cl tu lk f1 s2 ms nx bs : Nat) (th fd : Int32) (w k : Nat) (fo lo ff sf : Nat → Int64) (cs ts mm nf bf : Nat → Int32) (hw : w = 1 ∨ w = 2) : Met l yX7_winningCells wsX7_winningCells ({ frames := 4, cells := 0, slots := 0, locals := 93 } : Room) (va_Pc [.ref h0] (pv_C D cI cJ [(h0, .inr (4, [.int th, .ref ow, .int 0, .int (nI w), .int 0, .ref cl, .ref tu, .int (nI k), .ref lk, .ref f1, .ref s2, .ref ms, .ref nx, .ref bs, .int fd])), (ow, .inl (cJ, 3, .inr (.inl fo))), (cl, .inl (cI, 36, .inl cs)), (tu, .inl (cI, 36, .inl ts)), (lk, .inl (cJ, 3, .inr (.inl lo))), (f1, .inl (cJ, 6, .inr (.inl ff))), (s2, .inl (cJ, 6, .inr (.inl sf))), (ms, .inl (cI, 6, .inl mm)), (nx, .inl (cI, 6, .inl nf)), (bs, .inl (cI, 6, .inl bf))] sz)) (va_Qi (fun (r : Int32) (u : Unit) => r = mwc (fo w) (fo 1 ||| fo 2) 36) (fun (u : Unit) => pv_B D cI cJ (va_A [(h0, .inr (4, [.int th, .ref ow, .int 0, .int (nI w), .int 0, .ref cl, .ref tu, .int (nI k), .ref lk, .ref f1, .ref s2, .ref ms, .ref nx, .ref bs, .int fd])), (ow, .inl (cJ, 3, .inr (.inl fo))), (cl, .inl (cI, 36, .inl cs)), (tu, .inl (cI, 36, .inl ts)), (lk, .inl (cJ, 3, .inr (.inl lo))), (f1, .inl (cJ, 6, .inr (.inl ff))), (s2, .inl (cJ, 6, .inr (.inl sf))), (ms, .inl (cI, 6, .inl mm)), (nx, .inl (cI, 6, .inl nf)), (bs, .inl (cI, 6, .inl bf))] sz) [(h0, .inr (4, [.int 0, .ref ow, .int 0, .int (nI w), .int 0, .ref cl, .ref tu, .int (nI k), .ref lk, .ref f1, .ref s2, .ref ms, .ref nx, .ref bs, .int fd])), (ow, .inl (cJ, 3, .inr (.inl fo))), (cl, .inl (cI, 36, .inl cs)), (tu, .inl (cI, 36, .inl ts)), (lk, .inl (cJ, 3, .inr (.inl lo))), (f1, .inl (cJ, 6, .inr (.inl ff))), (s2, .inl (cJ, 6, .inr (.inl sf))), (ms, .inl (cI, 6, .inl mm)), (nx, .inl (cI, 6, .inl nf)), (bs, .inl (cI, 6, .inl bf))]) (va_A [(h0, .inr (4, [.int th, .ref ow, .int 0, .int (nI w), .int 0, .ref cl, .ref tu, .int (nI k), .ref lk, .ref f1, .ref s2, .ref ms, .ref nx, .ref bs, .int fd])), (ow, .inl (cJ, 3, .inr (.inl fo))), (cl, .inl (cI, 36, .inl cs)), (tu, .inl (cI, 36, .inl ts)), (lk, .inl (cJ, 3, .inr (.inl lo))), (f1, .inl (cJ, 6, .inr (.inl ff))), (s2, .inl (cJ, 6, .inr (.inl sf))), (ms, .inl (cI, 6, .inl mm)), (nx, .inl (cI, 6, .inl nf)), (bs, .inl (cI, 6, .inl bf))] sz)) 0 0 (va_A [(h0, .inr (4, [.int th, .ref ow, .int 0, .int (nI w), .int 0, .ref cl, .ref tu, .int (nI k), .ref lk, .ref f1, .ref s2, .ref ms, .ref nx, .ref bs, .int fd])), (ow, .inl (cJ, 3, .inr (.inl fo))), (cl, .inl (cI, 36, .inl cs)), (tu, .inl (cI, 36, .inl ts)), (lk, .inl (cJ, 3, .inr (.inl lo))), (f1, .inl (cJ, 6, .inr (.inl ff))), (s2, .inl (cJ, 6, .inr (.inl sf))), (ms, .inl (cI, 6, .inl mm)), (nx, .inl (cI, 6, .inl nf)), (bs, .inl (cI, 6, .inl bf))] sz) := by
  refine Met.ofW (cc := cX7_winningCells) (maxL := 3) (ret := (some .int)) (by decide) rfl ?_
  intro p e s m args below meth c s₁ B hml hv
  obtain ⟨rfl, rfl, hP, hK, hD0⟩ := hv
  have hx := B.exec
  have hb := B.bytes
  have hr := B.returns
  have hts := atoms_spec (ws := wsX7_winningCells) B.pre
  have hown : s.vm.findClass RX7 = some m.cls := findClass_of_methodNamed B.named
  have hlocks := B.notSynchronized
  have hD := hD0.self (sz := s.heap.size)
  generalize hAe : va_A [(h0, .inr (4, [.int th, .ref ow, .int 0, .int (nI w), .int 0, .ref cl, .ref tu, .int (nI k), .ref lk, .ref f1, .ref s2, .ref ms, .ref nx, .ref bs, .int fd])), (ow, .inl (cJ, 3, .inr (.inl fo))), (cl, .inl (cI, 36, .inl cs)), (tu, .inl (cI, 36, .inl ts)), (lk, .inl (cJ, 3, .inr (.inl lo))), (f1, .inl (cJ, 6, .inr (.inl ff))), (s2, .inl (cJ, 6, .inr (.inl sf))), (ms, .inl (cI, 6, .inl mm)), (nx, .inl (cI, 6, .inl nf)), (bs, .inl (cI, 6, .inl bf))] s.heap.size = A at hD ⊢
  have hA : ∀ q : Nat, s.heap.size ≤ q → A q := fun q h => by rw [← hAe]; exact Or.inr h
  have hS : va_S A s.heap s.heap [] := va_S.rf
  have hinX7 : ∀ w ∈ wsX70, w ∈ wsX7_winningCells := by decide +kernel
  have hfl73 : (Cond.fieldLink RX7 73 "TwistquadModel" "result" "I").before ([.ref h0] : List Value).toArray s = true := hts _ (by decide +kernel)
  have hfl76 : (Cond.fieldLink RX7 76 "TwistquadModel" "mustTurn" "Z").before ([.ref h0] : List Value).toArray s = true := hts _ (by decide +kernel)
  have hfl7 : (Cond.fieldLink RX7 7 "TwistquadModel" "own" "[J").before ([.ref h0] : List Value).toArray s = true := hts _ (by decide +kernel)
  have hl := lv_entry ([.ref h0]) (n := 3) (Nat.le_of_ble_eq_true rfl)
  rw [lg_entry_eq]
  generalize (lg_sl ([.ref h0]) ++ List.replicate (3 - (lg_sl ([.ref h0])).length) Slot.unset).toArray = ls at hl ⊢
  have hl : lv_has ls 3 [(0, .ref h0)] := hl
  refine lv_aload_n hx hb dX7_winningCells_0 rfl (lv_at hl 0 rfl) ?_
  refine lv_aload_n hx hb dX7_winningCells_1 rfl (lv_at hl 0 rfl) ?_
  refine va_get (D := D) (ci := 4) (v := .int 0) (C := RX7) (T := TX7) (N := 15) hx hb hts hinX7 hown hK hP 0 rfl rfl 2 (by decide) hfl73 (fun _ h9 => h9) rfl dX7_winningCells_2 ?_
  refine lv_if_ne (tgt := 15) hx hb dX7_winningCells_5 (by decide) (fun c5 => ?_) (fun c5 => ?_)
  · exact absurd c5 (by decide)
  · refine lv_aload_n hx hb dX7_winningCells_8 rfl (lv_at hl 0 rfl) ?_
    refine va_get (D := D) (ci := 4) (v := .int 0) (C := RX7) (T := TX7) (N := 15) hx hb hts hinX7 hown hK hP 0 rfl rfl 4 (by decide) hfl76 (fun _ h9 => h9) rfl dX7_winningCells_9 ?_
    refine lv_if_eq (tgt := 19) hx hb dX7_winningCells_12 (by decide) (fun c12 => ?_) (fun c12 => ?_)
    · refine lv_iconst (v := 0) hx hb dX7_winningCells_19 (by decide) ?_
      have hPc := hP.sub (ws' := [(h0, .inr (4, [.int th, .ref ow, .int 0, .int (nI w), .int 0, .ref cl, .ref tu, .int (nI k), .ref lk, .ref f1, .ref s2, .ref ms, .ref nx, .ref bs, .int fd])), (ow, .inl (cJ, 3, .inr (.inl fo))), (cl, .inl (cI, 36, .inl cs)), (tu, .inl (cI, 36, .inl ts)), (lk, .inl (cJ, 3, .inr (.inl lo))), (f1, .inl (cJ, 6, .inr (.inl ff))), (s2, .inl (cJ, 6, .inr (.inl sf))), (ms, .inl (cI, 6, .inl mm)), (nx, .inl (cI, 6, .inl nf)), (bs, .inl (cI, 6, .inl bf))]) [0, 1, 2, 3, 4, 5, 6, 7, 8, 9] rfl
      have hDc := hD.sub (ws' := [(h0, .inr (4, [.int th, .ref ow, .int 0, .int (nI w), .int 0, .ref cl, .ref tu, .int (nI k), .ref lk, .ref f1, .ref s2, .ref ms, .ref nx, .ref bs, .int fd])), (ow, .inl (cJ, 3, .inr (.inl fo))), (cl, .inl (cI, 36, .inl cs)), (tu, .inl (cI, 36, .inl ts)), (lk, .inl (cJ, 3, .inr (.inl lo))), (f1, .inl (cJ, 6, .inr (.inl ff))), (s2, .inl (cJ, 6, .inr (.inl sf))), (ms, .inl (cI, 6, .inl mm)), (nx, .inl (cI, 6, .inl nf)), (bs, .inl (cI, 6, .inl bf))]) [0, 1, 2, 3, 4, 5, 6, 7, 8, 9] (by decide) rfl
      have hFc := va_free (wc := [(h0, .inr (4, [.int th, .ref ow, .int 0, .int (nI w), .int 0, .ref cl, .ref tu, .int (nI k), .ref lk, .ref f1, .ref s2, .ref ms, .ref nx, .ref bs, .int fd])), (ow, .inl (cJ, 3, .inr (.inl fo))), (cl, .inl (cI, 36, .inl cs)), (tu, .inl (cI, 36, .inl ts)), (lk, .inl (cJ, 3, .inr (.inl lo))), (f1, .inl (cJ, 6, .inr (.inl ff))), (s2, .inl (cJ, 6, .inr (.inl sf))), (ms, .inl (cI, 6, .inl mm)), (nx, .inl (cI, 6, .inl nf)), (bs, .inl (cI, 6, .inl bf))]) hD hS hA [0, 1, 2, 3, 4, 5, 6, 7, 8, 9] rfl
      refine va_calli (va_runV (As := [.int 0]) (rest := []) ⟨hx, hb, hml, hown, hts⟩ (c_X7_goesWell l D cI cJ s.heap.size  h0 ow cl tu lk f1 s2 ms nx bs th 0 0 fd w k fo lo ff sf cs ts mm nf bf 0) (cwV 1 hts gX7_winningCells_X7_goesWell rfl rfl rfl (by decide +kernel) ⟨Nat.le_of_ble_eq_true rfl, Nat.le_of_ble_eq_true rfl⟩) ⟨pv_blind, va_recv hK hPc (ci := 4) (q0 := 0) rfl rfl, fun U hU hW => ⟨rfl, by rw [hU], by rw [hU]; exact hPc, va_K.moved hW.alike hK, hDc.weaken (fun _ _ _ _ => trivial)⟩⟩ rfl rfl hl.1 rfl (lv_room (Nat.le_of_ble_eq_true rfl)) dX7_winningCells_20 ⟨(Nat.le_of_ble_eq_true rfl), (Nat.le_of_ble_eq_true rfl)⟩) hS (fun q _ h => hFc q h) hFc (fun r20 u t9 H1 locs hth hvm hw20 hB hz1 hk1 hS => ?_)
      try dsimp only at hw20
      obtain ⟨hP1, hK1, hD1⟩ := hB
      rw [hth] at hP1
      obtain ⟨hP, hD⟩ := va_join (wr := []) (w1 := [(h0, .inr (4, [.int 0, .ref ow, .int 0, .int (nI w), .int 0, .ref cl, .ref tu, .int (nI k), .ref lk, .ref f1, .ref s2, .ref ms, .ref nx, .ref bs, .int fd])), (ow, .inl (cJ, 3, .inr (.inl fo))), (cl, .inl (cI, 36, .inl cs)), (tu, .inl (cI, 36, .inl ts)), (lk, .inl (cJ, 3, .inr (.inl lo))), (f1, .inl (cJ, 6, .inr (.inl ff))), (s2, .inl (cJ, 6, .inr (.inl sf))), (ms, .inl (cI, 6, .inl mm)), (nx, .inl (cI, 6, .inl nf)), (bs, .inl (cI, 6, .inl bf))]) hP hD [0, 1, 2, 3, 4, 5, 6, 7, 8, 9] [] rfl rfl (by decide) (by decide) hk1 hFc hP1 hD1
      generalize H1 = H at hP hS ⊢
      have hP : va_P D vwCl [(h0, .inr (4, [.int 0, .ref ow, .int 0, .int (nI w), .int 0, .ref cl, .ref tu, .int (nI k), .ref lk, .ref f1, .ref s2, .ref ms, .ref nx, .ref bs, .int fd])), (ow, .inl (cJ, 3, .inr (.inl fo))), (cl, .inl (cI, 36, .inl cs)), (tu, .inl (cI, 36, .inl ts)), (lk, .inl (cJ, 3, .inr (.inl lo))), (f1, .inl (cJ, 6, .inr (.inl ff))), (s2, .inl (cJ, 6, .inr (.inl sf))), (ms, .inl (cI, 6, .inl mm)), (nx, .inl (cI, 6, .inl nf)), (bs, .inl (cI, 6, .inl bf))] H := hP.sub (ws' := [(h0, .inr (4, [.int 0, .ref ow, .int 0, .int (nI w), .int 0, .ref cl, .ref tu, .int (nI k), .ref lk, .ref f1, .ref s2, .ref ms, .ref nx, .ref bs, .int fd])), (ow, .inl (cJ, 3, .inr (.inl fo))), (cl, .inl (cI, 36, .inl cs)), (tu, .inl (cI, 36, .inl ts)), (lk, .inl (cJ, 3, .inr (.inl lo))), (f1, .inl (cJ, 6, .inr (.inl ff))), (s2, .inl (cJ, 6, .inr (.inl sf))), (ms, .inl (cI, 6, .inl mm)), (nx, .inl (cI, 6, .inl nf)), (bs, .inl (cI, 6, .inl bf))]) [0, 1, 2, 3, 4, 5, 6, 7, 8, 9] rfl
      have hD : va_D A [(h0, .inr (4, [.int 0, .ref ow, .int 0, .int (nI w), .int 0, .ref cl, .ref tu, .int (nI k), .ref lk, .ref f1, .ref s2, .ref ms, .ref nx, .ref bs, .int fd])), (ow, .inl (cJ, 3, .inr (.inl fo))), (cl, .inl (cI, 36, .inl cs)), (tu, .inl (cI, 36, .inl ts)), (lk, .inl (cJ, 3, .inr (.inl lo))), (f1, .inl (cJ, 6, .inr (.inl ff))), (s2, .inl (cJ, 6, .inr (.inl sf))), (ms, .inl (cI, 6, .inl mm)), (nx, .inl (cI, 6, .inl nf)), (bs, .inl (cI, 6, .inl bf))] := hD.sub (ws' := [(h0, .inr (4, [.int 0, .ref ow, .int 0, .int (nI w), .int 0, .ref cl, .ref tu, .int (nI k), .ref lk, .ref f1, .ref s2, .ref ms, .ref nx, .ref bs, .int fd])), (ow, .inl (cJ, 3, .inr (.inl fo))), (cl, .inl (cI, 36, .inl cs)), (tu, .inl (cI, 36, .inl ts)), (lk, .inl (cJ, 3, .inr (.inl lo))), (f1, .inl (cJ, 6, .inr (.inl ff))), (s2, .inl (cJ, 6, .inr (.inl sf))), (ms, .inl (cI, 6, .inl mm)), (nx, .inl (cI, 6, .inl nf)), (bs, .inl (cI, 6, .inl bf))]) [0, 1, 2, 3, 4, 5, 6, 7, 8, 9] (by decide) rfl
      obtain rfl := hw20.symm
      refine pk_ti (y := 1) (if_pos (by decide)) ?_
      refine lv_if_ne (tgt := 28) hx hb dX7_winningCells_23 (by decide) (fun c23 => ?_) (fun c23 => ?_)
      · refine lv_iconst (v := 0) hx hb dX7_winningCells_28 (by decide) ?_
        refine lv_istore_n (lv' := [(1, .int 0), (0, .ref h0)]) hx hb dX7_winningCells_29 rfl hl (by decide) rfl (fun ls hl => ?_)
        refine lv_iconst (v := 0) hx hb dX7_winningCells_30 (by decide) ?_
        refine lv_istore_n (lv' := [(2, .int 0), (1, .int 0), (0, .ref h0)]) hx hb dX7_winningCells_31 rfl hl (by decide) rfl (fun ls hl => ?_)
        have loop32 : ∀ (nn i32 : Nat), i32 + nn = 36 → ∀ ls, lv_has ls 3 [(2, .int (nI i32)), (1, .int (mwc (fo w) (fo 1 ||| fo 2) i32)), (0, .ref h0)] → W p l e (headSpec wsX7_winningCells ({ frames := 4, cells := 0, slots := 0, locals := 93 } : Room)).room s m ([.ref h0] : List Value).toArray below meth c H locs 0 0 (MQ below (va_Qi (fun (r : Int32) (u : Unit) => r = mwc (fo w) (fo 1 ||| fo 2) 36) (fun (u : Unit) => pv_B D cI cJ (A) [(h0, .inr (4, [.int 0, .ref ow, .int 0, .int (nI w), .int 0, .ref cl, .ref tu, .int (nI k), .ref lk, .ref f1, .ref s2, .ref ms, .ref nx, .ref bs, .int fd])), (ow, .inl (cJ, 3, .inr (.inl fo))), (cl, .inl (cI, 36, .inl cs)), (tu, .inl (cI, 36, .inl ts)), (lk, .inl (cJ, 3, .inr (.inl lo))), (f1, .inl (cJ, 6, .inr (.inl ff))), (s2, .inl (cJ, 6, .inr (.inl sf))), (ms, .inl (cI, 6, .inl mm)), (nx, .inl (cI, 6, .inl nf)), (bs, .inl (cI, 6, .inl bf))]) (A)) ([.ref h0] : List Value).toArray s 0 0 A) (F0 m 32 ls []) := by
          intro nn
          induction nn with
          | zero =>
            intro i32 hi32 ls hl
            obtain rfl : i32 = 36 := by omega
            refine lv_iload_n hx hb dX7_winningCells_32 rfl (lv_at hl 0 rfl) ?_
            refine lv_bipush (v := 36) hx hb dX7_winningCells_33 (by decide) ?_
            refine lv_icmp_ge (tgt := 80) hx hb dX7_winningCells_35 (by decide) (fun c35 => ?_) (fun c35 => ?_)
            · have c35 : 36 ≤ 36 := (nq_le (a := 36) (b := 36) (by omega) (by omega)).mp c35
              refine lv_iload_n hx hb dX7_winningCells_80 rfl (lv_at hl 1 rfl) ?_
              refine W.iret (v := (mwc (fo w) (fo 1 ||| fo 2) 36)) hx hb hr (fun tt ht hW => ⟨⟨(mwc (fo w) (fo 1 ||| fo 2) 36), (), rfl, ?_, by rw [ht]; exact hP, va_K.moved hW.alike hK, hD⟩, hS.F ht⟩) hS.2.2 dX7_winningCells_81
              exact rfl
            · have c35 : ¬ 36 ≤ 36 := _root_.mt (nq_le (a := 36) (b := 36) (by omega) (by omega)).mpr c35
              omega
          | succ nn ih32 =>
            intro i32 hi32 ls hl
            refine lv_iload_n hx hb dX7_winningCells_32 rfl (lv_at hl 0 rfl) ?_
            refine lv_bipush (v := 36) hx hb dX7_winningCells_33 (by decide) ?_
            refine lv_icmp_ge (tgt := 80) hx hb dX7_winningCells_35 (by decide) (fun c35 => ?_) (fun c35 => ?_)
            · have c35 : 36 ≤ i32 := (nq_le (a := 36) (b := i32) (by omega) (by omega)).mp c35
              omega
            · have c35 : ¬ 36 ≤ i32 := _root_.mt (nq_le (a := 36) (b := i32) (by omega) (by omega)).mpr c35
              refine lv_iload_n hx hb dX7_winningCells_38 rfl (lv_at hl 1 rfl) ?_
              refine lv_aload_n hx hb dX7_winningCells_39 rfl (lv_at hl 2 rfl) ?_
              refine va_get (D := D) (ci := 4) (v := .ref ow) (C := RX7) (T := TX7) (N := 15) hx hb hts hinX7 hown hK hP 0 rfl rfl 1 (by decide) hfl7 (fun _ h9 => h9) rfl dX7_winningCells_40 ?_
              refine lv_iconst (v := 1) hx hb dX7_winningCells_43 (by decide) ?_
              refine va_lald hx hb hK hP 1 1 rfl rfl (vp_in_nI (n := 1) (N := 3) (by omega) (by decide)) dX7_winningCells_44 ?_
              refine pk_tl (y := (fo 1)) (congrArg fo (pk_cl 1)) ?_
              refine lv_aload_n hx hb dX7_winningCells_45 rfl (lv_at hl 2 rfl) ?_
              refine va_get (D := D) (ci := 4) (v := .ref ow) (C := RX7) (T := TX7) (N := 15) hx hb hts hinX7 hown hK hP 0 rfl rfl 1 (by decide) hfl7 (fun _ h9 => h9) rfl dX7_winningCells_46 ?_
              refine lv_iconst (v := 2) hx hb dX7_winningCells_49 (by decide) ?_
              refine va_lald hx hb hK hP 1 1 rfl rfl (vp_in_nI (n := 2) (N := 3) (by omega) (by decide)) dX7_winningCells_50 ?_
              refine pk_tl (y := (fo 2)) (congrArg fo (pk_cl 2)) ?_
              refine lv_lor hx hb dX7_winningCells_51 ?_
              refine lv_topl (fun x51 ex51 => ?_)
              refine lv_iload_n hx hb dX7_winningCells_52 rfl (lv_at hl 0 rfl) ?_
              refine vp_callSi (W.runS (As := [.long x51, .int (nI i32)]) (rest := [.int (mwc (fo w) (fo 1 ||| fo 2) i32)]) ⟨hx, hb, hml, hown, hts⟩ (c_X7_has l x51 i32 (by omega)) (va_cwS 2 hts gX7_winningCells_X7_has rfl rfl rfl (by decide +kernel) ⟨Nat.le_of_ble_eq_true rfl, Nat.le_of_ble_eq_true rfl⟩) ⟨px_blind0, fun U hU hW => ⟨rfl, trivial⟩⟩ rfl rfl hl.1 rfl (lv_room (Nat.le_of_ble_eq_true rfl)) dX7_winningCells_53 ⟨(Nat.le_of_ble_eq_true rfl), (Nat.le_of_ble_eq_true rfl)⟩) (fun r53 er53 => ?_)
              obtain rfl := er53.symm
              refine pk_b (P := bt x51 i32 = true) (fun b53 => ?_) (fun b53 => ?_)
              · refine lv_if_ne (tgt := 71) hx hb dX7_winningCells_56 (by decide) (fun c56 => ?_) (fun c56 => ?_)
                · refine lv_iconst (v := 0) hx hb dX7_winningCells_71 (by decide) ?_
                  refine lv_iadd hx hb dX7_winningCells_72 ?_
                  refine lv_topi (fun x72 ex72 => ?_)
                  refine lv_istore_n (lv' := [(1, .int x72), (2, .int (nI i32)), (0, .ref h0)]) hx hb dX7_winningCells_73 rfl hl (by decide) rfl (fun ls hl => ?_)
                  refine lv_iinc (v := nI (i32 + 1)) (lv' := [(2, .int (nI (i32 + 1))), (1, .int x72), (0, .ref h0)]) hx hb dX7_winningCells_74 hl (k := 1) rfl (nI_add i32 1) (by decide) rfl (fun ls hl => ?_)
                  refine lv_goto (tgt := 32) hx hb dX7_winningCells_77 (by decide) ?_
                  exact ih32 (i32 + 1) (by omega) ls (by { have e9 : (x72 : Int32) = (mwc (fo w) (fo 1 ||| fo 2) (i32 + 1)) := by { obtain rfl := ex51.symm; obtain rfl := ex72.symm; first | exact mwc_1 b53 | exact mwc_2 b53 b61 | exact mwc_3 b53 b61 }; rw [← e9]; exact lv_sub hl [0, 1, 2] rfl })
                · exact absurd c56 (by decide)
              · refine lv_if_ne (tgt := 71) hx hb dX7_winningCells_56 (by decide) (fun c56 => ?_) (fun c56 => ?_)
                · exact absurd c56 (by decide)
                · refine lv_aload_n hx hb dX7_winningCells_59 rfl (lv_at hl 2 rfl) ?_
                  refine lv_iload_n hx hb dX7_winningCells_60 rfl (lv_at hl 0 rfl) ?_
                  refine vp_callSi (W.runV (As := [.int (nI i32)]) (rest := [.int (mwc (fo w) (fo 1 ||| fo 2) i32)]) ⟨hx, hb, hml, hown, hts⟩ (c_X7_winsBy l D cI cJ h0 ow cl tu lk f1 s2 ms nx bs 0 0 0 fd w k fo lo ff sf cs ts mm nf bf hw (nI i32)) (cwV 1 hts gX7_winningCells_X7_winsBy rfl rfl rfl (by decide +kernel) ⟨Nat.le_of_ble_eq_true rfl, Nat.le_of_ble_eq_true rfl⟩) ⟨px_blindW, va_recv hK hP (ci := 4) (q0 := 0) rfl rfl, fun U hU hW => ⟨rfl, by rw [hU]; exact hP.sub (ws' := [(h0, .inr (4, [.int 0, .ref ow, .int 0, .int (nI w), .int 0, .ref cl, .ref tu, .int (nI k), .ref lk, .ref f1, .ref s2, .ref ms, .ref nx, .ref bs, .int fd])), (ow, .inl (cJ, 3, .inr (.inl fo))), (cl, .inl (cI, 36, .inl cs)), (tu, .inl (cI, 36, .inl ts)), (lk, .inl (cJ, 3, .inr (.inl lo))), (f1, .inl (cJ, 6, .inr (.inl ff))), (s2, .inl (cJ, 6, .inr (.inl sf))), (ms, .inl (cI, 6, .inl mm)), (nx, .inl (cI, 6, .inl nf)), (bs, .inl (cI, 6, .inl bf))]) [0, 1, 2, 3, 4, 5, 6, 7, 8, 9] rfl, va_K.moved hW.alike hK⟩⟩ rfl rfl hl.1 rfl (lv_room (Nat.le_of_ble_eq_true rfl)) dX7_winningCells_61 ⟨(Nat.le_of_ble_eq_true rfl), (Nat.le_of_ble_eq_true rfl)⟩) (fun r61 er61 => ?_)
                  obtain rfl := er61.symm
                  refine pk_b (P := 0 < msum (fo w ||| jshl 1 (nI i32)) 0 5 32) (fun b61 => ?_) (fun b61 => ?_)
                  · refine lv_if_eq (tgt := 71) hx hb dX7_winningCells_64 (by decide) (fun c64 => ?_) (fun c64 => ?_)
                    · exact absurd c64 (by decide)
                    · refine lv_iconst (v := 1) hx hb dX7_winningCells_67 (by decide) ?_
                      refine lv_goto (tgt := 72) hx hb dX7_winningCells_68 (by decide) ?_
                      refine lv_iadd hx hb dX7_winningCells_72 ?_
                      refine lv_topi (fun x72 ex72 => ?_)
                      refine lv_istore_n (lv' := [(1, .int x72), (2, .int (nI i32)), (0, .ref h0)]) hx hb dX7_winningCells_73 rfl hl (by decide) rfl (fun ls hl => ?_)
                      refine lv_iinc (v := nI (i32 + 1)) (lv' := [(2, .int (nI (i32 + 1))), (1, .int x72), (0, .ref h0)]) hx hb dX7_winningCells_74 hl (k := 1) rfl (nI_add i32 1) (by decide) rfl (fun ls hl => ?_)
                      refine lv_goto (tgt := 32) hx hb dX7_winningCells_77 (by decide) ?_
                      exact ih32 (i32 + 1) (by omega) ls (by { have e9 : (x72 : Int32) = (mwc (fo w) (fo 1 ||| fo 2) (i32 + 1)) := by { obtain rfl := ex51.symm; obtain rfl := ex72.symm; first | exact mwc_1 b53 | exact mwc_2 b53 b61 | exact mwc_3 b53 b61 }; rw [← e9]; exact lv_sub hl [0, 1, 2] rfl })
                  · refine lv_if_eq (tgt := 71) hx hb dX7_winningCells_64 (by decide) (fun c64 => ?_) (fun c64 => ?_)
                    · refine lv_iconst (v := 0) hx hb dX7_winningCells_71 (by decide) ?_
                      refine lv_iadd hx hb dX7_winningCells_72 ?_
                      refine lv_topi (fun x72 ex72 => ?_)
                      refine lv_istore_n (lv' := [(1, .int x72), (2, .int (nI i32)), (0, .ref h0)]) hx hb dX7_winningCells_73 rfl hl (by decide) rfl (fun ls hl => ?_)
                      refine lv_iinc (v := nI (i32 + 1)) (lv' := [(2, .int (nI (i32 + 1))), (1, .int x72), (0, .ref h0)]) hx hb dX7_winningCells_74 hl (k := 1) rfl (nI_add i32 1) (by decide) rfl (fun ls hl => ?_)
                      refine lv_goto (tgt := 32) hx hb dX7_winningCells_77 (by decide) ?_
                      exact ih32 (i32 + 1) (by omega) ls (by { have e9 : (x72 : Int32) = (mwc (fo w) (fo 1 ||| fo 2) (i32 + 1)) := by { obtain rfl := ex51.symm; obtain rfl := ex72.symm; first | exact mwc_1 b53 | exact mwc_2 b53 b61 | exact mwc_3 b53 b61 }; rw [← e9]; exact lv_sub hl [0, 1, 2] rfl })
                    · exact absurd c64 (by decide)
        exact loop32 36 0 (by omega) ls (lv_sub hl [0, 1, 2] rfl)
      · exact absurd c23 (by decide)
    · exact absurd c12 (by decide)

set_option maxHeartbeats 400000 in
set_option maxRecDepth 100000 in
theorem c_X7_winningTurns_bad1 (l : Launch) (D : va_G) (cI cJ : ClassId) (sz : Nat) (h0 ow cl tu lk f1 s2 ms nx bs : Nat) (th re mt fd : Int32) (w k : Nat) (fo lo ff sf : Nat → Int64) (cs ts mm nf bf : Nat → Int32) (v : Int32) (hc : ¬ (0 ≤ v ∧ v ≤ 35)) : Met l yX7_winningTurns wsX7_winningTurns ({ frames := 4, cells := 0, slots := 0, locals := 97 } : Room) (va_Pc [.ref h0, .int v] (pv_C D cI cJ [(h0, .inr (4, [.int th, .ref ow, .int re, .int (nI w), .int mt, .ref cl, .ref tu, .int (nI k), .ref lk, .ref f1, .ref s2, .ref ms, .ref nx, .ref bs, .int fd])), (ow, .inl (cJ, 3, .inr (.inl fo))), (cl, .inl (cI, 36, .inl cs)), (tu, .inl (cI, 36, .inl ts)), (lk, .inl (cJ, 3, .inr (.inl lo))), (f1, .inl (cJ, 6, .inr (.inl ff))), (s2, .inl (cJ, 6, .inr (.inl sf))), (ms, .inl (cI, 6, .inl mm)), (nx, .inl (cI, 6, .inl nf)), (bs, .inl (cI, 6, .inl bf))] sz)) (va_Qi (fun (r : Int32) (u : Unit) => r = 0) (fun (u : Unit) => pv_B D cI cJ (va_A [(h0, .inr (4, [.int th, .ref ow, .int re, .int (nI w), .int mt, .ref cl, .ref tu, .int (nI k), .ref lk, .ref f1, .ref s2, .ref ms, .ref nx, .ref bs, .int fd])), (ow, .inl (cJ, 3, .inr (.inl fo))), (cl, .inl (cI, 36, .inl cs)), (tu, .inl (cI, 36, .inl ts)), (lk, .inl (cJ, 3, .inr (.inl lo))), (f1, .inl (cJ, 6, .inr (.inl ff))), (s2, .inl (cJ, 6, .inr (.inl sf))), (ms, .inl (cI, 6, .inl mm)), (nx, .inl (cI, 6, .inl nf)), (bs, .inl (cI, 6, .inl bf))] sz) [(h0, .inr (4, [.int 1, .ref ow, .int re, .int (nI w), .int mt, .ref cl, .ref tu, .int (nI k), .ref lk, .ref f1, .ref s2, .ref ms, .ref nx, .ref bs, .int fd])), (ow, .inl (cJ, 3, .inr (.inl fo))), (cl, .inl (cI, 36, .inl cs)), (tu, .inl (cI, 36, .inl ts)), (lk, .inl (cJ, 3, .inr (.inl lo))), (f1, .inl (cJ, 6, .inr (.inl ff))), (s2, .inl (cJ, 6, .inr (.inl sf))), (ms, .inl (cI, 6, .inl mm)), (nx, .inl (cI, 6, .inl nf)), (bs, .inl (cI, 6, .inl bf))]) (va_A [(h0, .inr (4, [.int th, .ref ow, .int re, .int (nI w), .int mt, .ref cl, .ref tu, .int (nI k), .ref lk, .ref f1, .ref s2, .ref ms, .ref nx, .ref bs, .int fd])), (ow, .inl (cJ, 3, .inr (.inl fo))), (cl, .inl (cI, 36, .inl cs)), (tu, .inl (cI, 36, .inl ts)), (lk, .inl (cJ, 3, .inr (.inl lo))), (f1, .inl (cJ, 6, .inr (.inl ff))), (s2, .inl (cJ, 6, .inr (.inl sf))), (ms, .inl (cI, 6, .inl mm)), (nx, .inl (cI, 6, .inl nf)), (bs, .inl (cI, 6, .inl bf))] sz)) 0 0 (va_A [(h0, .inr (4, [.int th, .ref ow, .int re, .int (nI w), .int mt, .ref cl, .ref tu, .int (nI k), .ref lk, .ref f1, .ref s2, .ref ms, .ref nx, .ref bs, .int fd])), (ow, .inl (cJ, 3, .inr (.inl fo))), (cl, .inl (cI, 36, .inl cs)), (tu, .inl (cI, 36, .inl ts)), (lk, .inl (cJ, 3, .inr (.inl lo))), (f1, .inl (cJ, 6, .inr (.inl ff))), (s2, .inl (cJ, 6, .inr (.inl sf))), (ms, .inl (cI, 6, .inl mm)), (nx, .inl (cI, 6, .inl nf)), (bs, .inl (cI, 6, .inl bf))] sz) := by
  refine Met.ofW (cc := cX7_winningTurns) (maxL := 5) (ret := (some .int)) (by decide) rfl ?_
  intro p e s m args below meth c s₁ B hml hv
  obtain ⟨rfl, rfl, hP, hK, hD0⟩ := hv
  have hx := B.exec
  have hb := B.bytes
  have hr := B.returns
  have hts := atoms_spec (ws := wsX7_winningTurns) B.pre
  have hown : s.vm.findClass RX7 = some m.cls := findClass_of_methodNamed B.named
  have hlocks := B.notSynchronized
  have hD := hD0.self (sz := s.heap.size)
  generalize hAe : va_A [(h0, .inr (4, [.int th, .ref ow, .int re, .int (nI w), .int mt, .ref cl, .ref tu, .int (nI k), .ref lk, .ref f1, .ref s2, .ref ms, .ref nx, .ref bs, .int fd])), (ow, .inl (cJ, 3, .inr (.inl fo))), (cl, .inl (cI, 36, .inl cs)), (tu, .inl (cI, 36, .inl ts)), (lk, .inl (cJ, 3, .inr (.inl lo))), (f1, .inl (cJ, 6, .inr (.inl ff))), (s2, .inl (cJ, 6, .inr (.inl sf))), (ms, .inl (cI, 6, .inl mm)), (nx, .inl (cI, 6, .inl nf)), (bs, .inl (cI, 6, .inl bf))] s.heap.size = A at hD ⊢
  have hA : ∀ q : Nat, s.heap.size ≤ q → A q := fun q h => by rw [← hAe]; exact Or.inr h
  have hS : va_S A s.heap s.heap [] := va_S.rf
  have hl := lv_entry ([.ref h0, .int v]) (n := 5) (Nat.le_of_ble_eq_true rfl)
  rw [lg_entry_eq]
  generalize (lg_sl ([.ref h0, .int v]) ++ List.replicate (5 - (lg_sl ([.ref h0, .int v])).length) Slot.unset).toArray = ls at hl ⊢
  have hl : lv_has ls 5 [(0, .ref h0), (1, .int v)] := hl
  refine lv_iload_n hx hb dX7_winningTurns_0 rfl (lv_at hl 1 rfl) ?_
  refine vp_callSi (W.runS (As := [.int v]) (rest := []) ⟨hx, hb, hml, hown, hts⟩ (c_X7_isCell l v) (va_cwS 1 hts gX7_winningTurns_X7_isCell rfl rfl rfl (by decide +kernel) ⟨Nat.le_of_ble_eq_true rfl, Nat.le_of_ble_eq_true rfl⟩) ⟨px_blind0, fun U hU hW => ⟨rfl, trivial⟩⟩ rfl rfl hl.1 rfl (lv_room (Nat.le_of_ble_eq_true rfl)) dX7_winningTurns_1 ⟨(Nat.le_of_ble_eq_true rfl), (Nat.le_of_ble_eq_true rfl)⟩) (fun r1 er1 => ?_)
  obtain rfl := er1.symm
  refine pk_b (P := 0 ≤ v ∧ v ≤ 35) (fun b1 => ?_) (fun b1 => ?_)
  · exact absurd b1 hc
  · refine lv_if_eq (tgt := 45) hx hb dX7_winningTurns_4 (by decide) (fun c4 => ?_) (fun c4 => ?_)
    · refine lv_iconst (v := 0) hx hb dX7_winningTurns_45 (by decide) ?_
      refine lv_istore_n (lv' := [(2, .int 0), (0, .ref h0), (1, .int v)]) hx hb dX7_winningTurns_46 rfl hl (by decide) rfl (fun ls hl => ?_)
      refine lv_aload_n hx hb dX7_winningTurns_47 rfl (lv_at hl 1 rfl) ?_
      refine lv_iload_n hx hb dX7_winningTurns_48 rfl (lv_at hl 2 rfl) ?_
      refine vp_callSi (W.runS (As := [.int v]) (rest := [.ref h0]) ⟨hx, hb, hml, hown, hts⟩ (c_X7_isCell l v) (va_cwS 1 hts gX7_winningTurns_X7_isCell rfl rfl rfl (by decide +kernel) ⟨Nat.le_of_ble_eq_true rfl, Nat.le_of_ble_eq_true rfl⟩) ⟨px_blind0, fun U hU hW => ⟨rfl, trivial⟩⟩ rfl rfl hl.1 rfl (lv_room (Nat.le_of_ble_eq_true rfl)) dX7_winningTurns_49 ⟨(Nat.le_of_ble_eq_true rfl), (Nat.le_of_ble_eq_true rfl)⟩) (fun r49 er49 => ?_)
      obtain rfl := er49.symm
      refine pk_b (P := 0 ≤ v ∧ v ≤ 35) (fun b49 => ?_) (fun b49 => ?_)
      · exact absurd b49 hc
      · refine lv_if_ne (tgt := 59) hx hb dX7_winningTurns_52 (by decide) (fun c52 => ?_) (fun c52 => ?_)
        · exact absurd c52 (by decide)
        · refine lv_iconst (v := 1) hx hb dX7_winningTurns_55 (by decide) ?_
          refine lv_goto (tgt := 68) hx hb dX7_winningTurns_56 (by decide) ?_
          have hPc := hP.sub (ws' := [(h0, .inr (4, [.int th, .ref ow, .int re, .int (nI w), .int mt, .ref cl, .ref tu, .int (nI k), .ref lk, .ref f1, .ref s2, .ref ms, .ref nx, .ref bs, .int fd])), (ow, .inl (cJ, 3, .inr (.inl fo))), (cl, .inl (cI, 36, .inl cs)), (tu, .inl (cI, 36, .inl ts)), (lk, .inl (cJ, 3, .inr (.inl lo))), (f1, .inl (cJ, 6, .inr (.inl ff))), (s2, .inl (cJ, 6, .inr (.inl sf))), (ms, .inl (cI, 6, .inl mm)), (nx, .inl (cI, 6, .inl nf)), (bs, .inl (cI, 6, .inl bf))]) [0, 1, 2, 3, 4, 5, 6, 7, 8, 9] rfl
          have hDc := hD.sub (ws' := [(h0, .inr (4, [.int th, .ref ow, .int re, .int (nI w), .int mt, .ref cl, .ref tu, .int (nI k), .ref lk, .ref f1, .ref s2, .ref ms, .ref nx, .ref bs, .int fd])), (ow, .inl (cJ, 3, .inr (.inl fo))), (cl, .inl (cI, 36, .inl cs)), (tu, .inl (cI, 36, .inl ts)), (lk, .inl (cJ, 3, .inr (.inl lo))), (f1, .inl (cJ, 6, .inr (.inl ff))), (s2, .inl (cJ, 6, .inr (.inl sf))), (ms, .inl (cI, 6, .inl mm)), (nx, .inl (cI, 6, .inl nf)), (bs, .inl (cI, 6, .inl bf))]) [0, 1, 2, 3, 4, 5, 6, 7, 8, 9] (by decide) rfl
          have hFc := va_free (wc := [(h0, .inr (4, [.int th, .ref ow, .int re, .int (nI w), .int mt, .ref cl, .ref tu, .int (nI k), .ref lk, .ref f1, .ref s2, .ref ms, .ref nx, .ref bs, .int fd])), (ow, .inl (cJ, 3, .inr (.inl fo))), (cl, .inl (cI, 36, .inl cs)), (tu, .inl (cI, 36, .inl ts)), (lk, .inl (cJ, 3, .inr (.inl lo))), (f1, .inl (cJ, 6, .inr (.inl ff))), (s2, .inl (cJ, 6, .inr (.inl sf))), (ms, .inl (cI, 6, .inl mm)), (nx, .inl (cI, 6, .inl nf)), (bs, .inl (cI, 6, .inl bf))]) hD hS hA [0, 1, 2, 3, 4, 5, 6, 7, 8, 9] rfl
          refine va_calli (va_runV (As := [.int 1]) (rest := []) ⟨hx, hb, hml, hown, hts⟩ (c_X7_goesWell l D cI cJ s.heap.size  h0 ow cl tu lk f1 s2 ms nx bs th re mt fd w k fo lo ff sf cs ts mm nf bf 1) (cwV 1 hts gX7_winningTurns_X7_goesWell rfl rfl rfl (by decide +kernel) ⟨Nat.le_of_ble_eq_true rfl, Nat.le_of_ble_eq_true rfl⟩) ⟨pv_blind, va_recv hK hPc (ci := 4) (q0 := 0) rfl rfl, fun U hU hW => ⟨rfl, by rw [hU], by rw [hU]; exact hPc, va_K.moved hW.alike hK, hDc.weaken (fun _ _ _ _ => trivial)⟩⟩ rfl rfl hl.1 rfl (lv_room (Nat.le_of_ble_eq_true rfl)) dX7_winningTurns_68 ⟨(Nat.le_of_ble_eq_true rfl), (Nat.le_of_ble_eq_true rfl)⟩) hS (fun q _ h => hFc q h) hFc (fun r68 u t9 H1 locs hth hvm hw68 hB hz1 hk1 hS => ?_)
          try dsimp only at hw68
          obtain ⟨hP1, hK1, hD1⟩ := hB
          rw [hth] at hP1
          obtain ⟨hP, hD⟩ := va_join (wr := []) (w1 := [(h0, .inr (4, [.int 1, .ref ow, .int re, .int (nI w), .int mt, .ref cl, .ref tu, .int (nI k), .ref lk, .ref f1, .ref s2, .ref ms, .ref nx, .ref bs, .int fd])), (ow, .inl (cJ, 3, .inr (.inl fo))), (cl, .inl (cI, 36, .inl cs)), (tu, .inl (cI, 36, .inl ts)), (lk, .inl (cJ, 3, .inr (.inl lo))), (f1, .inl (cJ, 6, .inr (.inl ff))), (s2, .inl (cJ, 6, .inr (.inl sf))), (ms, .inl (cI, 6, .inl mm)), (nx, .inl (cI, 6, .inl nf)), (bs, .inl (cI, 6, .inl bf))]) hP hD [0, 1, 2, 3, 4, 5, 6, 7, 8, 9] [] rfl rfl (by decide) (by decide) hk1 hFc hP1 hD1
          generalize H1 = H at hP hS ⊢
          have hP : va_P D vwCl [(h0, .inr (4, [.int 1, .ref ow, .int re, .int (nI w), .int mt, .ref cl, .ref tu, .int (nI k), .ref lk, .ref f1, .ref s2, .ref ms, .ref nx, .ref bs, .int fd])), (ow, .inl (cJ, 3, .inr (.inl fo))), (cl, .inl (cI, 36, .inl cs)), (tu, .inl (cI, 36, .inl ts)), (lk, .inl (cJ, 3, .inr (.inl lo))), (f1, .inl (cJ, 6, .inr (.inl ff))), (s2, .inl (cJ, 6, .inr (.inl sf))), (ms, .inl (cI, 6, .inl mm)), (nx, .inl (cI, 6, .inl nf)), (bs, .inl (cI, 6, .inl bf))] H := hP.sub (ws' := [(h0, .inr (4, [.int 1, .ref ow, .int re, .int (nI w), .int mt, .ref cl, .ref tu, .int (nI k), .ref lk, .ref f1, .ref s2, .ref ms, .ref nx, .ref bs, .int fd])), (ow, .inl (cJ, 3, .inr (.inl fo))), (cl, .inl (cI, 36, .inl cs)), (tu, .inl (cI, 36, .inl ts)), (lk, .inl (cJ, 3, .inr (.inl lo))), (f1, .inl (cJ, 6, .inr (.inl ff))), (s2, .inl (cJ, 6, .inr (.inl sf))), (ms, .inl (cI, 6, .inl mm)), (nx, .inl (cI, 6, .inl nf)), (bs, .inl (cI, 6, .inl bf))]) [0, 1, 2, 3, 4, 5, 6, 7, 8, 9] rfl
          have hD : va_D A [(h0, .inr (4, [.int 1, .ref ow, .int re, .int (nI w), .int mt, .ref cl, .ref tu, .int (nI k), .ref lk, .ref f1, .ref s2, .ref ms, .ref nx, .ref bs, .int fd])), (ow, .inl (cJ, 3, .inr (.inl fo))), (cl, .inl (cI, 36, .inl cs)), (tu, .inl (cI, 36, .inl ts)), (lk, .inl (cJ, 3, .inr (.inl lo))), (f1, .inl (cJ, 6, .inr (.inl ff))), (s2, .inl (cJ, 6, .inr (.inl sf))), (ms, .inl (cI, 6, .inl mm)), (nx, .inl (cI, 6, .inl nf)), (bs, .inl (cI, 6, .inl bf))] := hD.sub (ws' := [(h0, .inr (4, [.int 1, .ref ow, .int re, .int (nI w), .int mt, .ref cl, .ref tu, .int (nI k), .ref lk, .ref f1, .ref s2, .ref ms, .ref nx, .ref bs, .int fd])), (ow, .inl (cJ, 3, .inr (.inl fo))), (cl, .inl (cI, 36, .inl cs)), (tu, .inl (cI, 36, .inl ts)), (lk, .inl (cJ, 3, .inr (.inl lo))), (f1, .inl (cJ, 6, .inr (.inl ff))), (s2, .inl (cJ, 6, .inr (.inl sf))), (ms, .inl (cI, 6, .inl mm)), (nx, .inl (cI, 6, .inl nf)), (bs, .inl (cI, 6, .inl bf))]) [0, 1, 2, 3, 4, 5, 6, 7, 8, 9] (by decide) rfl
          obtain rfl := hw68.symm
          refine pk_ti (y := 0) (if_neg (by decide)) ?_
          refine lv_if_ne (tgt := 76) hx hb dX7_winningTurns_71 (by decide) (fun c71 => ?_) (fun c71 => ?_)
          · exact absurd c71 (by decide)
          · refine lv_iconst (v := 0) hx hb dX7_winningTurns_74 (by decide) ?_
            refine W.iret (v := 0) hx hb hr (fun tt ht hW => ⟨⟨0, (), rfl, ?_, by rw [ht]; exact hP, va_K.moved hW.alike hK, hD⟩, hS.F ht⟩) hS.2.2 dX7_winningTurns_75
            exact rfl
    · exact absurd c4 (by decide)

set_option maxHeartbeats 400000 in
set_option maxRecDepth 100000 in
theorem c_X7_winningTurns_bad2 (l : Launch) (D : va_G) (cI cJ : ClassId) (sz : Nat) (h0 ow cl tu lk f1 s2 ms nx bs : Nat) (th re mt fd : Int32) (w k : Nat) (fo lo ff sf : Nat → Int64) (cs ts mm nf bf : Nat → Int32) (j : Nat) (hj : j < 36) (hbad : ¬ (re = 0 ∧ mt = 0 ∧ ¬ bt (fo 1 ||| fo 2) j = true)) : Met l yX7_winningTurns wsX7_winningTurns ({ frames := 4, cells := 0, slots := 0, locals := 97 } : Room) (va_Pc [.ref h0, .int (nI j)] (pv_C D cI cJ [(h0, .inr (4, [.int th, .ref ow, .int re, .int (nI w), .int mt, .ref cl, .ref tu, .int (nI k), .ref lk, .ref f1, .ref s2, .ref ms, .ref nx, .ref bs, .int fd])), (ow, .inl (cJ, 3, .inr (.inl fo))), (cl, .inl (cI, 36, .inl cs)), (tu, .inl (cI, 36, .inl ts)), (lk, .inl (cJ, 3, .inr (.inl lo))), (f1, .inl (cJ, 6, .inr (.inl ff))), (s2, .inl (cJ, 6, .inr (.inl sf))), (ms, .inl (cI, 6, .inl mm)), (nx, .inl (cI, 6, .inl nf)), (bs, .inl (cI, 6, .inl bf))] sz)) (va_Qi (fun (r : Int32) (u : Unit) => r = 0) (fun (u : Unit) => pv_B D cI cJ (va_A [(h0, .inr (4, [.int th, .ref ow, .int re, .int (nI w), .int mt, .ref cl, .ref tu, .int (nI k), .ref lk, .ref f1, .ref s2, .ref ms, .ref nx, .ref bs, .int fd])), (ow, .inl (cJ, 3, .inr (.inl fo))), (cl, .inl (cI, 36, .inl cs)), (tu, .inl (cI, 36, .inl ts)), (lk, .inl (cJ, 3, .inr (.inl lo))), (f1, .inl (cJ, 6, .inr (.inl ff))), (s2, .inl (cJ, 6, .inr (.inl sf))), (ms, .inl (cI, 6, .inl mm)), (nx, .inl (cI, 6, .inl nf)), (bs, .inl (cI, 6, .inl bf))] sz) [(h0, .inr (4, [.int 2, .ref ow, .int re, .int (nI w), .int mt, .ref cl, .ref tu, .int (nI k), .ref lk, .ref f1, .ref s2, .ref ms, .ref nx, .ref bs, .int fd])), (ow, .inl (cJ, 3, .inr (.inl fo))), (cl, .inl (cI, 36, .inl cs)), (tu, .inl (cI, 36, .inl ts)), (lk, .inl (cJ, 3, .inr (.inl lo))), (f1, .inl (cJ, 6, .inr (.inl ff))), (s2, .inl (cJ, 6, .inr (.inl sf))), (ms, .inl (cI, 6, .inl mm)), (nx, .inl (cI, 6, .inl nf)), (bs, .inl (cI, 6, .inl bf))]) (va_A [(h0, .inr (4, [.int th, .ref ow, .int re, .int (nI w), .int mt, .ref cl, .ref tu, .int (nI k), .ref lk, .ref f1, .ref s2, .ref ms, .ref nx, .ref bs, .int fd])), (ow, .inl (cJ, 3, .inr (.inl fo))), (cl, .inl (cI, 36, .inl cs)), (tu, .inl (cI, 36, .inl ts)), (lk, .inl (cJ, 3, .inr (.inl lo))), (f1, .inl (cJ, 6, .inr (.inl ff))), (s2, .inl (cJ, 6, .inr (.inl sf))), (ms, .inl (cI, 6, .inl mm)), (nx, .inl (cI, 6, .inl nf)), (bs, .inl (cI, 6, .inl bf))] sz)) 0 0 (va_A [(h0, .inr (4, [.int th, .ref ow, .int re, .int (nI w), .int mt, .ref cl, .ref tu, .int (nI k), .ref lk, .ref f1, .ref s2, .ref ms, .ref nx, .ref bs, .int fd])), (ow, .inl (cJ, 3, .inr (.inl fo))), (cl, .inl (cI, 36, .inl cs)), (tu, .inl (cI, 36, .inl ts)), (lk, .inl (cJ, 3, .inr (.inl lo))), (f1, .inl (cJ, 6, .inr (.inl ff))), (s2, .inl (cJ, 6, .inr (.inl sf))), (ms, .inl (cI, 6, .inl mm)), (nx, .inl (cI, 6, .inl nf)), (bs, .inl (cI, 6, .inl bf))] sz) := by
  refine Met.ofW (cc := cX7_winningTurns) (maxL := 5) (ret := (some .int)) (by decide) rfl ?_
  intro p e s m args below meth c s₁ B hml hv
  obtain ⟨rfl, rfl, hP, hK, hD0⟩ := hv
  have hx := B.exec
  have hb := B.bytes
  have hr := B.returns
  have hts := atoms_spec (ws := wsX7_winningTurns) B.pre
  have hown : s.vm.findClass RX7 = some m.cls := findClass_of_methodNamed B.named
  have hlocks := B.notSynchronized
  have hD := hD0.self (sz := s.heap.size)
  generalize hAe : va_A [(h0, .inr (4, [.int th, .ref ow, .int re, .int (nI w), .int mt, .ref cl, .ref tu, .int (nI k), .ref lk, .ref f1, .ref s2, .ref ms, .ref nx, .ref bs, .int fd])), (ow, .inl (cJ, 3, .inr (.inl fo))), (cl, .inl (cI, 36, .inl cs)), (tu, .inl (cI, 36, .inl ts)), (lk, .inl (cJ, 3, .inr (.inl lo))), (f1, .inl (cJ, 6, .inr (.inl ff))), (s2, .inl (cJ, 6, .inr (.inl sf))), (ms, .inl (cI, 6, .inl mm)), (nx, .inl (cI, 6, .inl nf)), (bs, .inl (cI, 6, .inl bf))] s.heap.size = A at hD ⊢
  have hA : ∀ q : Nat, s.heap.size ≤ q → A q := fun q h => by rw [← hAe]; exact Or.inr h
  have hS : va_S A s.heap s.heap [] := va_S.rf
  have hinX7 : ∀ w ∈ wsX70, w ∈ wsX7_winningTurns := by decide +kernel
  have hfl73 : (Cond.fieldLink RX7 73 "TwistquadModel" "result" "I").before ([.ref h0, .int (nI j)] : List Value).toArray s = true := hts _ (by decide +kernel)
  have hfl76 : (Cond.fieldLink RX7 76 "TwistquadModel" "mustTurn" "Z").before ([.ref h0, .int (nI j)] : List Value).toArray s = true := hts _ (by decide +kernel)
  have hfl7 : (Cond.fieldLink RX7 7 "TwistquadModel" "own" "[J").before ([.ref h0, .int (nI j)] : List Value).toArray s = true := hts _ (by decide +kernel)
  have hl := lv_entry ([.ref h0, .int (nI j)]) (n := 5) (Nat.le_of_ble_eq_true rfl)
  rw [lg_entry_eq]
  generalize (lg_sl ([.ref h0, .int (nI j)]) ++ List.replicate (5 - (lg_sl ([.ref h0, .int (nI j)])).length) Slot.unset).toArray = ls at hl ⊢
  have hl : lv_has ls 5 [(0, .ref h0), (1, .int (nI j))] := hl
  refine lv_iload_n hx hb dX7_winningTurns_0 rfl (lv_at hl 1 rfl) ?_
  refine vp_callSi (W.runS (As := [.int (nI j)]) (rest := []) ⟨hx, hb, hml, hown, hts⟩ (c_X7_isCell l (nI j)) (va_cwS 1 hts gX7_winningTurns_X7_isCell rfl rfl rfl (by decide +kernel) ⟨Nat.le_of_ble_eq_true rfl, Nat.le_of_ble_eq_true rfl⟩) ⟨px_blind0, fun U hU hW => ⟨rfl, trivial⟩⟩ rfl rfl hl.1 rfl (lv_room (Nat.le_of_ble_eq_true rfl)) dX7_winningTurns_1 ⟨(Nat.le_of_ble_eq_true rfl), (Nat.le_of_ble_eq_true rfl)⟩) (fun r1 er1 => ?_)
  obtain rfl := er1.symm
  refine pk_b (P := 0 ≤ (nI j) ∧ (nI j) ≤ 35) (fun b1 => ?_) (fun b1 => ?_)
  · refine lv_if_eq (tgt := 45) hx hb dX7_winningTurns_4 (by decide) (fun c4 => ?_) (fun c4 => ?_)
    · exact absurd c4 (by decide)
    · refine lv_aload_n hx hb dX7_winningTurns_7 rfl (lv_at hl 0 rfl) ?_
      refine va_get (D := D) (ci := 4) (v := .int re) (C := RX7) (T := TX7) (N := 15) hx hb hts hinX7 hown hK hP 0 rfl rfl 2 (by decide) hfl73 (fun _ h9 => h9) rfl dX7_winningTurns_8 ?_
      refine lv_if_ne (tgt := 41) hx hb dX7_winningTurns_11 (by decide) (fun c11 => ?_) (fun c11 => ?_)
      · refine lv_iconst (v := 1) hx hb dX7_winningTurns_41 (by decide) ?_
        refine lv_goto (tgt := 46) hx hb dX7_winningTurns_42 (by decide) ?_
        refine lv_istore_n (lv' := [(2, .int 1), (0, .ref h0), (1, .int (nI j))]) hx hb dX7_winningTurns_46 rfl hl (by decide) rfl (fun ls hl => ?_)
        refine lv_aload_n hx hb dX7_winningTurns_47 rfl (lv_at hl 1 rfl) ?_
        refine lv_iload_n hx hb dX7_winningTurns_48 rfl (lv_at hl 2 rfl) ?_
        refine vp_callSi (W.runS (As := [.int (nI j)]) (rest := [.ref h0]) ⟨hx, hb, hml, hown, hts⟩ (c_X7_isCell l (nI j)) (va_cwS 1 hts gX7_winningTurns_X7_isCell rfl rfl rfl (by decide +kernel) ⟨Nat.le_of_ble_eq_true rfl, Nat.le_of_ble_eq_true rfl⟩) ⟨px_blind0, fun U hU hW => ⟨rfl, trivial⟩⟩ rfl rfl hl.1 rfl (lv_room (Nat.le_of_ble_eq_true rfl)) dX7_winningTurns_49 ⟨(Nat.le_of_ble_eq_true rfl), (Nat.le_of_ble_eq_true rfl)⟩) (fun r49 er49 => ?_)
        obtain rfl := er49.symm
        refine pk_b (P := 0 ≤ (nI j) ∧ (nI j) ≤ 35) (fun b49 => ?_) (fun b49 => ?_)
        · refine lv_if_ne (tgt := 59) hx hb dX7_winningTurns_52 (by decide) (fun c52 => ?_) (fun c52 => ?_)
          · refine lv_iload_n hx hb dX7_winningTurns_59 rfl (lv_at hl 0 rfl) ?_
            refine lv_if_eq (tgt := 67) hx hb dX7_winningTurns_60 (by decide) (fun c60 => ?_) (fun c60 => ?_)
            · exact absurd c60 (by decide)
            · refine lv_iconst (v := 2) hx hb dX7_winningTurns_63 (by decide) ?_
              refine lv_goto (tgt := 68) hx hb dX7_winningTurns_64 (by decide) ?_
              have hPc := hP.sub (ws' := [(h0, .inr (4, [.int th, .ref ow, .int re, .int (nI w), .int mt, .ref cl, .ref tu, .int (nI k), .ref lk, .ref f1, .ref s2, .ref ms, .ref nx, .ref bs, .int fd])), (ow, .inl (cJ, 3, .inr (.inl fo))), (cl, .inl (cI, 36, .inl cs)), (tu, .inl (cI, 36, .inl ts)), (lk, .inl (cJ, 3, .inr (.inl lo))), (f1, .inl (cJ, 6, .inr (.inl ff))), (s2, .inl (cJ, 6, .inr (.inl sf))), (ms, .inl (cI, 6, .inl mm)), (nx, .inl (cI, 6, .inl nf)), (bs, .inl (cI, 6, .inl bf))]) [0, 1, 2, 3, 4, 5, 6, 7, 8, 9] rfl
              have hDc := hD.sub (ws' := [(h0, .inr (4, [.int th, .ref ow, .int re, .int (nI w), .int mt, .ref cl, .ref tu, .int (nI k), .ref lk, .ref f1, .ref s2, .ref ms, .ref nx, .ref bs, .int fd])), (ow, .inl (cJ, 3, .inr (.inl fo))), (cl, .inl (cI, 36, .inl cs)), (tu, .inl (cI, 36, .inl ts)), (lk, .inl (cJ, 3, .inr (.inl lo))), (f1, .inl (cJ, 6, .inr (.inl ff))), (s2, .inl (cJ, 6, .inr (.inl sf))), (ms, .inl (cI, 6, .inl mm)), (nx, .inl (cI, 6, .inl nf)), (bs, .inl (cI, 6, .inl bf))]) [0, 1, 2, 3, 4, 5, 6, 7, 8, 9] (by decide) rfl
              have hFc := va_free (wc := [(h0, .inr (4, [.int th, .ref ow, .int re, .int (nI w), .int mt, .ref cl, .ref tu, .int (nI k), .ref lk, .ref f1, .ref s2, .ref ms, .ref nx, .ref bs, .int fd])), (ow, .inl (cJ, 3, .inr (.inl fo))), (cl, .inl (cI, 36, .inl cs)), (tu, .inl (cI, 36, .inl ts)), (lk, .inl (cJ, 3, .inr (.inl lo))), (f1, .inl (cJ, 6, .inr (.inl ff))), (s2, .inl (cJ, 6, .inr (.inl sf))), (ms, .inl (cI, 6, .inl mm)), (nx, .inl (cI, 6, .inl nf)), (bs, .inl (cI, 6, .inl bf))]) hD hS hA [0, 1, 2, 3, 4, 5, 6, 7, 8, 9] rfl
              refine va_calli (va_runV (As := [.int 2]) (rest := []) ⟨hx, hb, hml, hown, hts⟩ (c_X7_goesWell l D cI cJ s.heap.size  h0 ow cl tu lk f1 s2 ms nx bs th re mt fd w k fo lo ff sf cs ts mm nf bf 2) (cwV 1 hts gX7_winningTurns_X7_goesWell rfl rfl rfl (by decide +kernel) ⟨Nat.le_of_ble_eq_true rfl, Nat.le_of_ble_eq_true rfl⟩) ⟨pv_blind, va_recv hK hPc (ci := 4) (q0 := 0) rfl rfl, fun U hU hW => ⟨rfl, by rw [hU], by rw [hU]; exact hPc, va_K.moved hW.alike hK, hDc.weaken (fun _ _ _ _ => trivial)⟩⟩ rfl rfl hl.1 rfl (lv_room (Nat.le_of_ble_eq_true rfl)) dX7_winningTurns_68 ⟨(Nat.le_of_ble_eq_true rfl), (Nat.le_of_ble_eq_true rfl)⟩) hS (fun q _ h => hFc q h) hFc (fun r68 u t9 H1 locs hth hvm hw68 hB hz1 hk1 hS => ?_)
              try dsimp only at hw68
              obtain ⟨hP1, hK1, hD1⟩ := hB
              rw [hth] at hP1
              obtain ⟨hP, hD⟩ := va_join (wr := []) (w1 := [(h0, .inr (4, [.int 2, .ref ow, .int re, .int (nI w), .int mt, .ref cl, .ref tu, .int (nI k), .ref lk, .ref f1, .ref s2, .ref ms, .ref nx, .ref bs, .int fd])), (ow, .inl (cJ, 3, .inr (.inl fo))), (cl, .inl (cI, 36, .inl cs)), (tu, .inl (cI, 36, .inl ts)), (lk, .inl (cJ, 3, .inr (.inl lo))), (f1, .inl (cJ, 6, .inr (.inl ff))), (s2, .inl (cJ, 6, .inr (.inl sf))), (ms, .inl (cI, 6, .inl mm)), (nx, .inl (cI, 6, .inl nf)), (bs, .inl (cI, 6, .inl bf))]) hP hD [0, 1, 2, 3, 4, 5, 6, 7, 8, 9] [] rfl rfl (by decide) (by decide) hk1 hFc hP1 hD1
              generalize H1 = H at hP hS ⊢
              have hP : va_P D vwCl [(h0, .inr (4, [.int 2, .ref ow, .int re, .int (nI w), .int mt, .ref cl, .ref tu, .int (nI k), .ref lk, .ref f1, .ref s2, .ref ms, .ref nx, .ref bs, .int fd])), (ow, .inl (cJ, 3, .inr (.inl fo))), (cl, .inl (cI, 36, .inl cs)), (tu, .inl (cI, 36, .inl ts)), (lk, .inl (cJ, 3, .inr (.inl lo))), (f1, .inl (cJ, 6, .inr (.inl ff))), (s2, .inl (cJ, 6, .inr (.inl sf))), (ms, .inl (cI, 6, .inl mm)), (nx, .inl (cI, 6, .inl nf)), (bs, .inl (cI, 6, .inl bf))] H := hP.sub (ws' := [(h0, .inr (4, [.int 2, .ref ow, .int re, .int (nI w), .int mt, .ref cl, .ref tu, .int (nI k), .ref lk, .ref f1, .ref s2, .ref ms, .ref nx, .ref bs, .int fd])), (ow, .inl (cJ, 3, .inr (.inl fo))), (cl, .inl (cI, 36, .inl cs)), (tu, .inl (cI, 36, .inl ts)), (lk, .inl (cJ, 3, .inr (.inl lo))), (f1, .inl (cJ, 6, .inr (.inl ff))), (s2, .inl (cJ, 6, .inr (.inl sf))), (ms, .inl (cI, 6, .inl mm)), (nx, .inl (cI, 6, .inl nf)), (bs, .inl (cI, 6, .inl bf))]) [0, 1, 2, 3, 4, 5, 6, 7, 8, 9] rfl
              have hD : va_D A [(h0, .inr (4, [.int 2, .ref ow, .int re, .int (nI w), .int mt, .ref cl, .ref tu, .int (nI k), .ref lk, .ref f1, .ref s2, .ref ms, .ref nx, .ref bs, .int fd])), (ow, .inl (cJ, 3, .inr (.inl fo))), (cl, .inl (cI, 36, .inl cs)), (tu, .inl (cI, 36, .inl ts)), (lk, .inl (cJ, 3, .inr (.inl lo))), (f1, .inl (cJ, 6, .inr (.inl ff))), (s2, .inl (cJ, 6, .inr (.inl sf))), (ms, .inl (cI, 6, .inl mm)), (nx, .inl (cI, 6, .inl nf)), (bs, .inl (cI, 6, .inl bf))] := hD.sub (ws' := [(h0, .inr (4, [.int 2, .ref ow, .int re, .int (nI w), .int mt, .ref cl, .ref tu, .int (nI k), .ref lk, .ref f1, .ref s2, .ref ms, .ref nx, .ref bs, .int fd])), (ow, .inl (cJ, 3, .inr (.inl fo))), (cl, .inl (cI, 36, .inl cs)), (tu, .inl (cI, 36, .inl ts)), (lk, .inl (cJ, 3, .inr (.inl lo))), (f1, .inl (cJ, 6, .inr (.inl ff))), (s2, .inl (cJ, 6, .inr (.inl sf))), (ms, .inl (cI, 6, .inl mm)), (nx, .inl (cI, 6, .inl nf)), (bs, .inl (cI, 6, .inl bf))]) [0, 1, 2, 3, 4, 5, 6, 7, 8, 9] (by decide) rfl
              obtain rfl := hw68.symm
              refine pk_ti (y := 0) (if_neg (by decide)) ?_
              refine lv_if_ne (tgt := 76) hx hb dX7_winningTurns_71 (by decide) (fun c71 => ?_) (fun c71 => ?_)
              · exact absurd c71 (by decide)
              · refine lv_iconst (v := 0) hx hb dX7_winningTurns_74 (by decide) ?_
                refine W.iret (v := 0) hx hb hr (fun tt ht hW => ⟨⟨0, (), rfl, ?_, by rw [ht]; exact hP, va_K.moved hW.alike hK, hD⟩, hS.F ht⟩) hS.2.2 dX7_winningTurns_75
                exact rfl
          · exact absurd c52 (by decide)
        · exact absurd (cell_ok hj) b49
      · refine lv_aload_n hx hb dX7_winningTurns_14 rfl (lv_at hl 0 rfl) ?_
        refine va_get (D := D) (ci := 4) (v := .int mt) (C := RX7) (T := TX7) (N := 15) hx hb hts hinX7 hown hK hP 0 rfl rfl 4 (by decide) hfl76 (fun _ h9 => h9) rfl dX7_winningTurns_15 ?_
        refine lv_if_ne (tgt := 41) hx hb dX7_winningTurns_18 (by decide) (fun c18 => ?_) (fun c18 => ?_)
        · refine lv_iconst (v := 1) hx hb dX7_winningTurns_41 (by decide) ?_
          refine lv_goto (tgt := 46) hx hb dX7_winningTurns_42 (by decide) ?_
          refine lv_istore_n (lv' := [(2, .int 1), (0, .ref h0), (1, .int (nI j))]) hx hb dX7_winningTurns_46 rfl hl (by decide) rfl (fun ls hl => ?_)
          refine lv_aload_n hx hb dX7_winningTurns_47 rfl (lv_at hl 1 rfl) ?_
          refine lv_iload_n hx hb dX7_winningTurns_48 rfl (lv_at hl 2 rfl) ?_
          refine vp_callSi (W.runS (As := [.int (nI j)]) (rest := [.ref h0]) ⟨hx, hb, hml, hown, hts⟩ (c_X7_isCell l (nI j)) (va_cwS 1 hts gX7_winningTurns_X7_isCell rfl rfl rfl (by decide +kernel) ⟨Nat.le_of_ble_eq_true rfl, Nat.le_of_ble_eq_true rfl⟩) ⟨px_blind0, fun U hU hW => ⟨rfl, trivial⟩⟩ rfl rfl hl.1 rfl (lv_room (Nat.le_of_ble_eq_true rfl)) dX7_winningTurns_49 ⟨(Nat.le_of_ble_eq_true rfl), (Nat.le_of_ble_eq_true rfl)⟩) (fun r49 er49 => ?_)
          obtain rfl := er49.symm
          refine pk_b (P := 0 ≤ (nI j) ∧ (nI j) ≤ 35) (fun b49 => ?_) (fun b49 => ?_)
          · refine lv_if_ne (tgt := 59) hx hb dX7_winningTurns_52 (by decide) (fun c52 => ?_) (fun c52 => ?_)
            · refine lv_iload_n hx hb dX7_winningTurns_59 rfl (lv_at hl 0 rfl) ?_
              refine lv_if_eq (tgt := 67) hx hb dX7_winningTurns_60 (by decide) (fun c60 => ?_) (fun c60 => ?_)
              · exact absurd c60 (by decide)
              · refine lv_iconst (v := 2) hx hb dX7_winningTurns_63 (by decide) ?_
                refine lv_goto (tgt := 68) hx hb dX7_winningTurns_64 (by decide) ?_
                have hPc := hP.sub (ws' := [(h0, .inr (4, [.int th, .ref ow, .int re, .int (nI w), .int mt, .ref cl, .ref tu, .int (nI k), .ref lk, .ref f1, .ref s2, .ref ms, .ref nx, .ref bs, .int fd])), (ow, .inl (cJ, 3, .inr (.inl fo))), (cl, .inl (cI, 36, .inl cs)), (tu, .inl (cI, 36, .inl ts)), (lk, .inl (cJ, 3, .inr (.inl lo))), (f1, .inl (cJ, 6, .inr (.inl ff))), (s2, .inl (cJ, 6, .inr (.inl sf))), (ms, .inl (cI, 6, .inl mm)), (nx, .inl (cI, 6, .inl nf)), (bs, .inl (cI, 6, .inl bf))]) [0, 1, 2, 3, 4, 5, 6, 7, 8, 9] rfl
                have hDc := hD.sub (ws' := [(h0, .inr (4, [.int th, .ref ow, .int re, .int (nI w), .int mt, .ref cl, .ref tu, .int (nI k), .ref lk, .ref f1, .ref s2, .ref ms, .ref nx, .ref bs, .int fd])), (ow, .inl (cJ, 3, .inr (.inl fo))), (cl, .inl (cI, 36, .inl cs)), (tu, .inl (cI, 36, .inl ts)), (lk, .inl (cJ, 3, .inr (.inl lo))), (f1, .inl (cJ, 6, .inr (.inl ff))), (s2, .inl (cJ, 6, .inr (.inl sf))), (ms, .inl (cI, 6, .inl mm)), (nx, .inl (cI, 6, .inl nf)), (bs, .inl (cI, 6, .inl bf))]) [0, 1, 2, 3, 4, 5, 6, 7, 8, 9] (by decide) rfl
                have hFc := va_free (wc := [(h0, .inr (4, [.int th, .ref ow, .int re, .int (nI w), .int mt, .ref cl, .ref tu, .int (nI k), .ref lk, .ref f1, .ref s2, .ref ms, .ref nx, .ref bs, .int fd])), (ow, .inl (cJ, 3, .inr (.inl fo))), (cl, .inl (cI, 36, .inl cs)), (tu, .inl (cI, 36, .inl ts)), (lk, .inl (cJ, 3, .inr (.inl lo))), (f1, .inl (cJ, 6, .inr (.inl ff))), (s2, .inl (cJ, 6, .inr (.inl sf))), (ms, .inl (cI, 6, .inl mm)), (nx, .inl (cI, 6, .inl nf)), (bs, .inl (cI, 6, .inl bf))]) hD hS hA [0, 1, 2, 3, 4, 5, 6, 7, 8, 9] rfl
                refine va_calli (va_runV (As := [.int 2]) (rest := []) ⟨hx, hb, hml, hown, hts⟩ (c_X7_goesWell l D cI cJ s.heap.size  h0 ow cl tu lk f1 s2 ms nx bs th re mt fd w k fo lo ff sf cs ts mm nf bf 2) (cwV 1 hts gX7_winningTurns_X7_goesWell rfl rfl rfl (by decide +kernel) ⟨Nat.le_of_ble_eq_true rfl, Nat.le_of_ble_eq_true rfl⟩) ⟨pv_blind, va_recv hK hPc (ci := 4) (q0 := 0) rfl rfl, fun U hU hW => ⟨rfl, by rw [hU], by rw [hU]; exact hPc, va_K.moved hW.alike hK, hDc.weaken (fun _ _ _ _ => trivial)⟩⟩ rfl rfl hl.1 rfl (lv_room (Nat.le_of_ble_eq_true rfl)) dX7_winningTurns_68 ⟨(Nat.le_of_ble_eq_true rfl), (Nat.le_of_ble_eq_true rfl)⟩) hS (fun q _ h => hFc q h) hFc (fun r68 u t9 H1 locs hth hvm hw68 hB hz1 hk1 hS => ?_)
                try dsimp only at hw68
                obtain ⟨hP1, hK1, hD1⟩ := hB
                rw [hth] at hP1
                obtain ⟨hP, hD⟩ := va_join (wr := []) (w1 := [(h0, .inr (4, [.int 2, .ref ow, .int re, .int (nI w), .int mt, .ref cl, .ref tu, .int (nI k), .ref lk, .ref f1, .ref s2, .ref ms, .ref nx, .ref bs, .int fd])), (ow, .inl (cJ, 3, .inr (.inl fo))), (cl, .inl (cI, 36, .inl cs)), (tu, .inl (cI, 36, .inl ts)), (lk, .inl (cJ, 3, .inr (.inl lo))), (f1, .inl (cJ, 6, .inr (.inl ff))), (s2, .inl (cJ, 6, .inr (.inl sf))), (ms, .inl (cI, 6, .inl mm)), (nx, .inl (cI, 6, .inl nf)), (bs, .inl (cI, 6, .inl bf))]) hP hD [0, 1, 2, 3, 4, 5, 6, 7, 8, 9] [] rfl rfl (by decide) (by decide) hk1 hFc hP1 hD1
                generalize H1 = H at hP hS ⊢
                have hP : va_P D vwCl [(h0, .inr (4, [.int 2, .ref ow, .int re, .int (nI w), .int mt, .ref cl, .ref tu, .int (nI k), .ref lk, .ref f1, .ref s2, .ref ms, .ref nx, .ref bs, .int fd])), (ow, .inl (cJ, 3, .inr (.inl fo))), (cl, .inl (cI, 36, .inl cs)), (tu, .inl (cI, 36, .inl ts)), (lk, .inl (cJ, 3, .inr (.inl lo))), (f1, .inl (cJ, 6, .inr (.inl ff))), (s2, .inl (cJ, 6, .inr (.inl sf))), (ms, .inl (cI, 6, .inl mm)), (nx, .inl (cI, 6, .inl nf)), (bs, .inl (cI, 6, .inl bf))] H := hP.sub (ws' := [(h0, .inr (4, [.int 2, .ref ow, .int re, .int (nI w), .int mt, .ref cl, .ref tu, .int (nI k), .ref lk, .ref f1, .ref s2, .ref ms, .ref nx, .ref bs, .int fd])), (ow, .inl (cJ, 3, .inr (.inl fo))), (cl, .inl (cI, 36, .inl cs)), (tu, .inl (cI, 36, .inl ts)), (lk, .inl (cJ, 3, .inr (.inl lo))), (f1, .inl (cJ, 6, .inr (.inl ff))), (s2, .inl (cJ, 6, .inr (.inl sf))), (ms, .inl (cI, 6, .inl mm)), (nx, .inl (cI, 6, .inl nf)), (bs, .inl (cI, 6, .inl bf))]) [0, 1, 2, 3, 4, 5, 6, 7, 8, 9] rfl
                have hD : va_D A [(h0, .inr (4, [.int 2, .ref ow, .int re, .int (nI w), .int mt, .ref cl, .ref tu, .int (nI k), .ref lk, .ref f1, .ref s2, .ref ms, .ref nx, .ref bs, .int fd])), (ow, .inl (cJ, 3, .inr (.inl fo))), (cl, .inl (cI, 36, .inl cs)), (tu, .inl (cI, 36, .inl ts)), (lk, .inl (cJ, 3, .inr (.inl lo))), (f1, .inl (cJ, 6, .inr (.inl ff))), (s2, .inl (cJ, 6, .inr (.inl sf))), (ms, .inl (cI, 6, .inl mm)), (nx, .inl (cI, 6, .inl nf)), (bs, .inl (cI, 6, .inl bf))] := hD.sub (ws' := [(h0, .inr (4, [.int 2, .ref ow, .int re, .int (nI w), .int mt, .ref cl, .ref tu, .int (nI k), .ref lk, .ref f1, .ref s2, .ref ms, .ref nx, .ref bs, .int fd])), (ow, .inl (cJ, 3, .inr (.inl fo))), (cl, .inl (cI, 36, .inl cs)), (tu, .inl (cI, 36, .inl ts)), (lk, .inl (cJ, 3, .inr (.inl lo))), (f1, .inl (cJ, 6, .inr (.inl ff))), (s2, .inl (cJ, 6, .inr (.inl sf))), (ms, .inl (cI, 6, .inl mm)), (nx, .inl (cI, 6, .inl nf)), (bs, .inl (cI, 6, .inl bf))]) [0, 1, 2, 3, 4, 5, 6, 7, 8, 9] (by decide) rfl
                obtain rfl := hw68.symm
                refine pk_ti (y := 0) (if_neg (by decide)) ?_
                refine lv_if_ne (tgt := 76) hx hb dX7_winningTurns_71 (by decide) (fun c71 => ?_) (fun c71 => ?_)
                · exact absurd c71 (by decide)
                · refine lv_iconst (v := 0) hx hb dX7_winningTurns_74 (by decide) ?_
                  refine W.iret (v := 0) hx hb hr (fun tt ht hW => ⟨⟨0, (), rfl, ?_, by rw [ht]; exact hP, va_K.moved hW.alike hK, hD⟩, hS.F ht⟩) hS.2.2 dX7_winningTurns_75
                  exact rfl
            · exact absurd c52 (by decide)
          · exact absurd (cell_ok hj) b49
        · refine lv_aload_n hx hb dX7_winningTurns_21 rfl (lv_at hl 0 rfl) ?_
          refine va_get (D := D) (ci := 4) (v := .ref ow) (C := RX7) (T := TX7) (N := 15) hx hb hts hinX7 hown hK hP 0 rfl rfl 1 (by decide) hfl7 (fun _ h9 => h9) rfl dX7_winningTurns_22 ?_
          refine lv_iconst (v := 1) hx hb dX7_winningTurns_25 (by decide) ?_
          refine va_lald hx hb hK hP 1 1 rfl rfl (vp_in_nI (n := 1) (N := 3) (by omega) (by decide)) dX7_winningTurns_26 ?_
          refine pk_tl (y := (fo 1)) (congrArg fo (pk_cl 1)) ?_
          refine lv_aload_n hx hb dX7_winningTurns_27 rfl (lv_at hl 0 rfl) ?_
          refine va_get (D := D) (ci := 4) (v := .ref ow) (C := RX7) (T := TX7) (N := 15) hx hb hts hinX7 hown hK hP 0 rfl rfl 1 (by decide) hfl7 (fun _ h9 => h9) rfl dX7_winningTurns_28 ?_
          refine lv_iconst (v := 2) hx hb dX7_winningTurns_31 (by decide) ?_
          refine va_lald hx hb hK hP 1 1 rfl rfl (vp_in_nI (n := 2) (N := 3) (by omega) (by decide)) dX7_winningTurns_32 ?_
          refine pk_tl (y := (fo 2)) (congrArg fo (pk_cl 2)) ?_
          refine lv_lor hx hb dX7_winningTurns_33 ?_
          refine lv_topl (fun x33 ex33 => ?_)
          refine lv_iload_n hx hb dX7_winningTurns_34 rfl (lv_at hl 1 rfl) ?_
          refine vp_callSi (W.runS (As := [.long x33, .int (nI j)]) (rest := []) ⟨hx, hb, hml, hown, hts⟩ (c_X7_has l x33 j (by omega)) (va_cwS 2 hts gX7_winningTurns_X7_has rfl rfl rfl (by decide +kernel) ⟨Nat.le_of_ble_eq_true rfl, Nat.le_of_ble_eq_true rfl⟩) ⟨px_blind0, fun U hU hW => ⟨rfl, trivial⟩⟩ rfl rfl hl.1 rfl (lv_room (Nat.le_of_ble_eq_true rfl)) dX7_winningTurns_35 ⟨(Nat.le_of_ble_eq_true rfl), (Nat.le_of_ble_eq_true rfl)⟩) (fun r35 er35 => ?_)
          obtain rfl := er35.symm
          refine pk_b (P := bt x33 j = true) (fun b35 => ?_) (fun b35 => ?_)
          · refine lv_if_eq (tgt := 45) hx hb dX7_winningTurns_38 (by decide) (fun c38 => ?_) (fun c38 => ?_)
            · exact absurd c38 (by decide)
            · refine lv_iconst (v := 1) hx hb dX7_winningTurns_41 (by decide) ?_
              refine lv_goto (tgt := 46) hx hb dX7_winningTurns_42 (by decide) ?_
              refine lv_istore_n (lv' := [(2, .int 1), (0, .ref h0), (1, .int (nI j))]) hx hb dX7_winningTurns_46 rfl hl (by decide) rfl (fun ls hl => ?_)
              refine lv_aload_n hx hb dX7_winningTurns_47 rfl (lv_at hl 1 rfl) ?_
              refine lv_iload_n hx hb dX7_winningTurns_48 rfl (lv_at hl 2 rfl) ?_
              refine vp_callSi (W.runS (As := [.int (nI j)]) (rest := [.ref h0]) ⟨hx, hb, hml, hown, hts⟩ (c_X7_isCell l (nI j)) (va_cwS 1 hts gX7_winningTurns_X7_isCell rfl rfl rfl (by decide +kernel) ⟨Nat.le_of_ble_eq_true rfl, Nat.le_of_ble_eq_true rfl⟩) ⟨px_blind0, fun U hU hW => ⟨rfl, trivial⟩⟩ rfl rfl hl.1 rfl (lv_room (Nat.le_of_ble_eq_true rfl)) dX7_winningTurns_49 ⟨(Nat.le_of_ble_eq_true rfl), (Nat.le_of_ble_eq_true rfl)⟩) (fun r49 er49 => ?_)
              obtain rfl := er49.symm
              refine pk_b (P := 0 ≤ (nI j) ∧ (nI j) ≤ 35) (fun b49 => ?_) (fun b49 => ?_)
              · refine lv_if_ne (tgt := 59) hx hb dX7_winningTurns_52 (by decide) (fun c52 => ?_) (fun c52 => ?_)
                · refine lv_iload_n hx hb dX7_winningTurns_59 rfl (lv_at hl 0 rfl) ?_
                  refine lv_if_eq (tgt := 67) hx hb dX7_winningTurns_60 (by decide) (fun c60 => ?_) (fun c60 => ?_)
                  · exact absurd c60 (by decide)
                  · refine lv_iconst (v := 2) hx hb dX7_winningTurns_63 (by decide) ?_
                    refine lv_goto (tgt := 68) hx hb dX7_winningTurns_64 (by decide) ?_
                    have hPc := hP.sub (ws' := [(h0, .inr (4, [.int th, .ref ow, .int re, .int (nI w), .int mt, .ref cl, .ref tu, .int (nI k), .ref lk, .ref f1, .ref s2, .ref ms, .ref nx, .ref bs, .int fd])), (ow, .inl (cJ, 3, .inr (.inl fo))), (cl, .inl (cI, 36, .inl cs)), (tu, .inl (cI, 36, .inl ts)), (lk, .inl (cJ, 3, .inr (.inl lo))), (f1, .inl (cJ, 6, .inr (.inl ff))), (s2, .inl (cJ, 6, .inr (.inl sf))), (ms, .inl (cI, 6, .inl mm)), (nx, .inl (cI, 6, .inl nf)), (bs, .inl (cI, 6, .inl bf))]) [0, 1, 2, 3, 4, 5, 6, 7, 8, 9] rfl
                    have hDc := hD.sub (ws' := [(h0, .inr (4, [.int th, .ref ow, .int re, .int (nI w), .int mt, .ref cl, .ref tu, .int (nI k), .ref lk, .ref f1, .ref s2, .ref ms, .ref nx, .ref bs, .int fd])), (ow, .inl (cJ, 3, .inr (.inl fo))), (cl, .inl (cI, 36, .inl cs)), (tu, .inl (cI, 36, .inl ts)), (lk, .inl (cJ, 3, .inr (.inl lo))), (f1, .inl (cJ, 6, .inr (.inl ff))), (s2, .inl (cJ, 6, .inr (.inl sf))), (ms, .inl (cI, 6, .inl mm)), (nx, .inl (cI, 6, .inl nf)), (bs, .inl (cI, 6, .inl bf))]) [0, 1, 2, 3, 4, 5, 6, 7, 8, 9] (by decide) rfl
                    have hFc := va_free (wc := [(h0, .inr (4, [.int th, .ref ow, .int re, .int (nI w), .int mt, .ref cl, .ref tu, .int (nI k), .ref lk, .ref f1, .ref s2, .ref ms, .ref nx, .ref bs, .int fd])), (ow, .inl (cJ, 3, .inr (.inl fo))), (cl, .inl (cI, 36, .inl cs)), (tu, .inl (cI, 36, .inl ts)), (lk, .inl (cJ, 3, .inr (.inl lo))), (f1, .inl (cJ, 6, .inr (.inl ff))), (s2, .inl (cJ, 6, .inr (.inl sf))), (ms, .inl (cI, 6, .inl mm)), (nx, .inl (cI, 6, .inl nf)), (bs, .inl (cI, 6, .inl bf))]) hD hS hA [0, 1, 2, 3, 4, 5, 6, 7, 8, 9] rfl
                    refine va_calli (va_runV (As := [.int 2]) (rest := []) ⟨hx, hb, hml, hown, hts⟩ (c_X7_goesWell l D cI cJ s.heap.size  h0 ow cl tu lk f1 s2 ms nx bs th re mt fd w k fo lo ff sf cs ts mm nf bf 2) (cwV 1 hts gX7_winningTurns_X7_goesWell rfl rfl rfl (by decide +kernel) ⟨Nat.le_of_ble_eq_true rfl, Nat.le_of_ble_eq_true rfl⟩) ⟨pv_blind, va_recv hK hPc (ci := 4) (q0 := 0) rfl rfl, fun U hU hW => ⟨rfl, by rw [hU], by rw [hU]; exact hPc, va_K.moved hW.alike hK, hDc.weaken (fun _ _ _ _ => trivial)⟩⟩ rfl rfl hl.1 rfl (lv_room (Nat.le_of_ble_eq_true rfl)) dX7_winningTurns_68 ⟨(Nat.le_of_ble_eq_true rfl), (Nat.le_of_ble_eq_true rfl)⟩) hS (fun q _ h => hFc q h) hFc (fun r68 u t9 H1 locs hth hvm hw68 hB hz1 hk1 hS => ?_)
                    try dsimp only at hw68
                    obtain ⟨hP1, hK1, hD1⟩ := hB
                    rw [hth] at hP1
                    obtain ⟨hP, hD⟩ := va_join (wr := []) (w1 := [(h0, .inr (4, [.int 2, .ref ow, .int re, .int (nI w), .int mt, .ref cl, .ref tu, .int (nI k), .ref lk, .ref f1, .ref s2, .ref ms, .ref nx, .ref bs, .int fd])), (ow, .inl (cJ, 3, .inr (.inl fo))), (cl, .inl (cI, 36, .inl cs)), (tu, .inl (cI, 36, .inl ts)), (lk, .inl (cJ, 3, .inr (.inl lo))), (f1, .inl (cJ, 6, .inr (.inl ff))), (s2, .inl (cJ, 6, .inr (.inl sf))), (ms, .inl (cI, 6, .inl mm)), (nx, .inl (cI, 6, .inl nf)), (bs, .inl (cI, 6, .inl bf))]) hP hD [0, 1, 2, 3, 4, 5, 6, 7, 8, 9] [] rfl rfl (by decide) (by decide) hk1 hFc hP1 hD1
                    generalize H1 = H at hP hS ⊢
                    have hP : va_P D vwCl [(h0, .inr (4, [.int 2, .ref ow, .int re, .int (nI w), .int mt, .ref cl, .ref tu, .int (nI k), .ref lk, .ref f1, .ref s2, .ref ms, .ref nx, .ref bs, .int fd])), (ow, .inl (cJ, 3, .inr (.inl fo))), (cl, .inl (cI, 36, .inl cs)), (tu, .inl (cI, 36, .inl ts)), (lk, .inl (cJ, 3, .inr (.inl lo))), (f1, .inl (cJ, 6, .inr (.inl ff))), (s2, .inl (cJ, 6, .inr (.inl sf))), (ms, .inl (cI, 6, .inl mm)), (nx, .inl (cI, 6, .inl nf)), (bs, .inl (cI, 6, .inl bf))] H := hP.sub (ws' := [(h0, .inr (4, [.int 2, .ref ow, .int re, .int (nI w), .int mt, .ref cl, .ref tu, .int (nI k), .ref lk, .ref f1, .ref s2, .ref ms, .ref nx, .ref bs, .int fd])), (ow, .inl (cJ, 3, .inr (.inl fo))), (cl, .inl (cI, 36, .inl cs)), (tu, .inl (cI, 36, .inl ts)), (lk, .inl (cJ, 3, .inr (.inl lo))), (f1, .inl (cJ, 6, .inr (.inl ff))), (s2, .inl (cJ, 6, .inr (.inl sf))), (ms, .inl (cI, 6, .inl mm)), (nx, .inl (cI, 6, .inl nf)), (bs, .inl (cI, 6, .inl bf))]) [0, 1, 2, 3, 4, 5, 6, 7, 8, 9] rfl
                    have hD : va_D A [(h0, .inr (4, [.int 2, .ref ow, .int re, .int (nI w), .int mt, .ref cl, .ref tu, .int (nI k), .ref lk, .ref f1, .ref s2, .ref ms, .ref nx, .ref bs, .int fd])), (ow, .inl (cJ, 3, .inr (.inl fo))), (cl, .inl (cI, 36, .inl cs)), (tu, .inl (cI, 36, .inl ts)), (lk, .inl (cJ, 3, .inr (.inl lo))), (f1, .inl (cJ, 6, .inr (.inl ff))), (s2, .inl (cJ, 6, .inr (.inl sf))), (ms, .inl (cI, 6, .inl mm)), (nx, .inl (cI, 6, .inl nf)), (bs, .inl (cI, 6, .inl bf))] := hD.sub (ws' := [(h0, .inr (4, [.int 2, .ref ow, .int re, .int (nI w), .int mt, .ref cl, .ref tu, .int (nI k), .ref lk, .ref f1, .ref s2, .ref ms, .ref nx, .ref bs, .int fd])), (ow, .inl (cJ, 3, .inr (.inl fo))), (cl, .inl (cI, 36, .inl cs)), (tu, .inl (cI, 36, .inl ts)), (lk, .inl (cJ, 3, .inr (.inl lo))), (f1, .inl (cJ, 6, .inr (.inl ff))), (s2, .inl (cJ, 6, .inr (.inl sf))), (ms, .inl (cI, 6, .inl mm)), (nx, .inl (cI, 6, .inl nf)), (bs, .inl (cI, 6, .inl bf))]) [0, 1, 2, 3, 4, 5, 6, 7, 8, 9] (by decide) rfl
                    obtain rfl := hw68.symm
                    refine pk_ti (y := 0) (if_neg (by decide)) ?_
                    refine lv_if_ne (tgt := 76) hx hb dX7_winningTurns_71 (by decide) (fun c71 => ?_) (fun c71 => ?_)
                    · exact absurd c71 (by decide)
                    · refine lv_iconst (v := 0) hx hb dX7_winningTurns_74 (by decide) ?_
                      obtain rfl := ex33.symm
                      refine W.iret (v := 0) hx hb hr (fun tt ht hW => ⟨⟨0, (), rfl, ?_, by rw [ht]; exact hP, va_K.moved hW.alike hK, hD⟩, hS.F ht⟩) hS.2.2 dX7_winningTurns_75
                      exact rfl
                · exact absurd c52 (by decide)
              · exact absurd (cell_ok hj) b49
          · exact absurd ⟨c11, c18, by obtain rfl := ex33.symm; exact b35⟩ hbad
  · exact absurd (cell_ok hj) b1

set_option maxHeartbeats 400000 in
set_option maxRecDepth 100000 in
theorem c_X7_winningTurns_ok1 (l : Launch) (D : va_G) (cI cJ : ClassId) (sz : Nat) (h0 ow cl tu lk f1 s2 ms nx bs : Nat) (th fd : Int32) (k : Nat) (fo lo ff sf : Nat → Int64) (cs ts mm nf bf : Nat → Int32) (j : Nat) (hj : j < 36) (hf : ¬ bt (fo 1 ||| fo 2) j = true) : Met l yX7_winningTurns wsX7_winningTurns ({ frames := 4, cells := 0, slots := 0, locals := 97 } : Room) (va_Pc [.ref h0, .int (nI j)] (pv_C D cI cJ [(h0, .inr (4, [.int th, .ref ow, .int 0, .int 1, .int 0, .ref cl, .ref tu, .int (nI k), .ref lk, .ref f1, .ref s2, .ref ms, .ref nx, .ref bs, .int fd])), (ow, .inl (cJ, 3, .inr (.inl fo))), (cl, .inl (cI, 36, .inl cs)), (tu, .inl (cI, 36, .inl ts)), (lk, .inl (cJ, 3, .inr (.inl lo))), (f1, .inl (cJ, 6, .inr (.inl ff))), (s2, .inl (cJ, 6, .inr (.inl sf))), (ms, .inl (cI, 6, .inl mm)), (nx, .inl (cI, 6, .inl nf)), (bs, .inl (cI, 6, .inl bf))] sz)) (va_Qi (fun (r : Int32) (u : (Nat → Int64)) => r = (if 0 < msum (fo 1 ||| jshl 1 (nI j)) 0 5 32 then 8 else mwt (fo 1 ||| jshl 1 (nI j)) (fo 2) 1 8)) (fun (u : (Nat → Int64)) => pv_B D cI cJ (va_A [(h0, .inr (4, [.int th, .ref ow, .int 0, .int 1, .int 0, .ref cl, .ref tu, .int (nI k), .ref lk, .ref f1, .ref s2, .ref ms, .ref nx, .ref bs, .int fd])), (ow, .inl (cJ, 3, .inr (.inl fo))), (cl, .inl (cI, 36, .inl cs)), (tu, .inl (cI, 36, .inl ts)), (lk, .inl (cJ, 3, .inr (.inl lo))), (f1, .inl (cJ, 6, .inr (.inl ff))), (s2, .inl (cJ, 6, .inr (.inl sf))), (ms, .inl (cI, 6, .inl mm)), (nx, .inl (cI, 6, .inl nf)), (bs, .inl (cI, 6, .inl bf))] sz) [(h0, .inr (4, [.int 0, .ref ow, .int 0, .int 1, .int 0, .ref cl, .ref tu, .int (nI k), .ref lk, .ref f1, .ref s2, .ref ms, .ref nx, .ref bs, .int fd])), (ow, .inl (cJ, 3, .inr (.inl fo))), (cl, .inl (cI, 36, .inl cs)), (tu, .inl (cI, 36, .inl ts)), (lk, .inl (cJ, 3, .inr (.inl u))), (f1, .inl (cJ, 6, .inr (.inl ff))), (s2, .inl (cJ, 6, .inr (.inl sf))), (ms, .inl (cI, 6, .inl mm)), (nx, .inl (cI, 6, .inl nf)), (bs, .inl (cI, 6, .inl bf))]) (va_A [(h0, .inr (4, [.int th, .ref ow, .int 0, .int 1, .int 0, .ref cl, .ref tu, .int (nI k), .ref lk, .ref f1, .ref s2, .ref ms, .ref nx, .ref bs, .int fd])), (ow, .inl (cJ, 3, .inr (.inl fo))), (cl, .inl (cI, 36, .inl cs)), (tu, .inl (cI, 36, .inl ts)), (lk, .inl (cJ, 3, .inr (.inl lo))), (f1, .inl (cJ, 6, .inr (.inl ff))), (s2, .inl (cJ, 6, .inr (.inl sf))), (ms, .inl (cI, 6, .inl mm)), (nx, .inl (cI, 6, .inl nf)), (bs, .inl (cI, 6, .inl bf))] sz)) 0 0 (va_A [(h0, .inr (4, [.int th, .ref ow, .int 0, .int 1, .int 0, .ref cl, .ref tu, .int (nI k), .ref lk, .ref f1, .ref s2, .ref ms, .ref nx, .ref bs, .int fd])), (ow, .inl (cJ, 3, .inr (.inl fo))), (cl, .inl (cI, 36, .inl cs)), (tu, .inl (cI, 36, .inl ts)), (lk, .inl (cJ, 3, .inr (.inl lo))), (f1, .inl (cJ, 6, .inr (.inl ff))), (s2, .inl (cJ, 6, .inr (.inl sf))), (ms, .inl (cI, 6, .inl mm)), (nx, .inl (cI, 6, .inl nf)), (bs, .inl (cI, 6, .inl bf))] sz) := by
  refine Met.ofW (cc := cX7_winningTurns) (maxL := 5) (ret := (some .int)) (by decide) rfl ?_
  intro p e s m args below meth c s₁ B hml hv
  obtain ⟨rfl, rfl, hP, hK, hD0⟩ := hv
  have hx := B.exec
  have hb := B.bytes
  have hr := B.returns
  have hts := atoms_spec (ws := wsX7_winningTurns) B.pre
  have hown : s.vm.findClass RX7 = some m.cls := findClass_of_methodNamed B.named
  have hlocks := B.notSynchronized
  have hD := hD0.self (sz := s.heap.size)
  generalize hAe : va_A [(h0, .inr (4, [.int th, .ref ow, .int 0, .int 1, .int 0, .ref cl, .ref tu, .int (nI k), .ref lk, .ref f1, .ref s2, .ref ms, .ref nx, .ref bs, .int fd])), (ow, .inl (cJ, 3, .inr (.inl fo))), (cl, .inl (cI, 36, .inl cs)), (tu, .inl (cI, 36, .inl ts)), (lk, .inl (cJ, 3, .inr (.inl lo))), (f1, .inl (cJ, 6, .inr (.inl ff))), (s2, .inl (cJ, 6, .inr (.inl sf))), (ms, .inl (cI, 6, .inl mm)), (nx, .inl (cI, 6, .inl nf)), (bs, .inl (cI, 6, .inl bf))] s.heap.size = A at hD ⊢
  have hA : ∀ q : Nat, s.heap.size ≤ q → A q := fun q h => by rw [← hAe]; exact Or.inr h
  have hS : va_S A s.heap s.heap [] := va_S.rf
  have hinX7 : ∀ w ∈ wsX70, w ∈ wsX7_winningTurns := by decide +kernel
  have hfl73 : (Cond.fieldLink RX7 73 "TwistquadModel" "result" "I").before ([.ref h0, .int (nI j)] : List Value).toArray s = true := hts _ (by decide +kernel)
  have hfl76 : (Cond.fieldLink RX7 76 "TwistquadModel" "mustTurn" "Z").before ([.ref h0, .int (nI j)] : List Value).toArray s = true := hts _ (by decide +kernel)
  have hfl7 : (Cond.fieldLink RX7 7 "TwistquadModel" "own" "[J").before ([.ref h0, .int (nI j)] : List Value).toArray s = true := hts _ (by decide +kernel)
  have hfl24 : (Cond.fieldLink RX7 24 "TwistquadModel" "look" "[J").before ([.ref h0, .int (nI j)] : List Value).toArray s = true := hts _ (by decide +kernel)
  have hfl13 : (Cond.fieldLink RX7 13 "TwistquadModel" "mover" "I").before ([.ref h0, .int (nI j)] : List Value).toArray s = true := hts _ (by decide +kernel)
  have hl := lv_entry ([.ref h0, .int (nI j)]) (n := 5) (Nat.le_of_ble_eq_true rfl)
  rw [lg_entry_eq]
  generalize (lg_sl ([.ref h0, .int (nI j)]) ++ List.replicate (5 - (lg_sl ([.ref h0, .int (nI j)])).length) Slot.unset).toArray = ls at hl ⊢
  have hl : lv_has ls 5 [(0, .ref h0), (1, .int (nI j))] := hl
  refine lv_iload_n hx hb dX7_winningTurns_0 rfl (lv_at hl 1 rfl) ?_
  refine vp_callSi (W.runS (As := [.int (nI j)]) (rest := []) ⟨hx, hb, hml, hown, hts⟩ (c_X7_isCell l (nI j)) (va_cwS 1 hts gX7_winningTurns_X7_isCell rfl rfl rfl (by decide +kernel) ⟨Nat.le_of_ble_eq_true rfl, Nat.le_of_ble_eq_true rfl⟩) ⟨px_blind0, fun U hU hW => ⟨rfl, trivial⟩⟩ rfl rfl hl.1 rfl (lv_room (Nat.le_of_ble_eq_true rfl)) dX7_winningTurns_1 ⟨(Nat.le_of_ble_eq_true rfl), (Nat.le_of_ble_eq_true rfl)⟩) (fun r1 er1 => ?_)
  obtain rfl := er1.symm
  refine pk_b (P := 0 ≤ (nI j) ∧ (nI j) ≤ 35) (fun b1 => ?_) (fun b1 => ?_)
  · refine lv_if_eq (tgt := 45) hx hb dX7_winningTurns_4 (by decide) (fun c4 => ?_) (fun c4 => ?_)
    · exact absurd c4 (by decide)
    · refine lv_aload_n hx hb dX7_winningTurns_7 rfl (lv_at hl 0 rfl) ?_
      refine va_get (D := D) (ci := 4) (v := .int 0) (C := RX7) (T := TX7) (N := 15) hx hb hts hinX7 hown hK hP 0 rfl rfl 2 (by decide) hfl73 (fun _ h9 => h9) rfl dX7_winningTurns_8 ?_
      refine lv_if_ne (tgt := 41) hx hb dX7_winningTurns_11 (by decide) (fun c11 => ?_) (fun c11 => ?_)
      · exact absurd c11 (by decide)
      · refine lv_aload_n hx hb dX7_winningTurns_14 rfl (lv_at hl 0 rfl) ?_
        refine va_get (D := D) (ci := 4) (v := .int 0) (C := RX7) (T := TX7) (N := 15) hx hb hts hinX7 hown hK hP 0 rfl rfl 4 (by decide) hfl76 (fun _ h9 => h9) rfl dX7_winningTurns_15 ?_
        refine lv_if_ne (tgt := 41) hx hb dX7_winningTurns_18 (by decide) (fun c18 => ?_) (fun c18 => ?_)
        · exact absurd c18 (by decide)
        · refine lv_aload_n hx hb dX7_winningTurns_21 rfl (lv_at hl 0 rfl) ?_
          refine va_get (D := D) (ci := 4) (v := .ref ow) (C := RX7) (T := TX7) (N := 15) hx hb hts hinX7 hown hK hP 0 rfl rfl 1 (by decide) hfl7 (fun _ h9 => h9) rfl dX7_winningTurns_22 ?_
          refine lv_iconst (v := 1) hx hb dX7_winningTurns_25 (by decide) ?_
          refine va_lald hx hb hK hP 1 1 rfl rfl (vp_in_nI (n := 1) (N := 3) (by omega) (by decide)) dX7_winningTurns_26 ?_
          refine pk_tl (y := (fo 1)) (congrArg fo (pk_cl 1)) ?_
          refine lv_aload_n hx hb dX7_winningTurns_27 rfl (lv_at hl 0 rfl) ?_
          refine va_get (D := D) (ci := 4) (v := .ref ow) (C := RX7) (T := TX7) (N := 15) hx hb hts hinX7 hown hK hP 0 rfl rfl 1 (by decide) hfl7 (fun _ h9 => h9) rfl dX7_winningTurns_28 ?_
          refine lv_iconst (v := 2) hx hb dX7_winningTurns_31 (by decide) ?_
          refine va_lald hx hb hK hP 1 1 rfl rfl (vp_in_nI (n := 2) (N := 3) (by omega) (by decide)) dX7_winningTurns_32 ?_
          refine pk_tl (y := (fo 2)) (congrArg fo (pk_cl 2)) ?_
          refine lv_lor hx hb dX7_winningTurns_33 ?_
          refine lv_topl (fun x33 ex33 => ?_)
          refine lv_iload_n hx hb dX7_winningTurns_34 rfl (lv_at hl 1 rfl) ?_
          refine vp_callSi (W.runS (As := [.long x33, .int (nI j)]) (rest := []) ⟨hx, hb, hml, hown, hts⟩ (c_X7_has l x33 j (by omega)) (va_cwS 2 hts gX7_winningTurns_X7_has rfl rfl rfl (by decide +kernel) ⟨Nat.le_of_ble_eq_true rfl, Nat.le_of_ble_eq_true rfl⟩) ⟨px_blind0, fun U hU hW => ⟨rfl, trivial⟩⟩ rfl rfl hl.1 rfl (lv_room (Nat.le_of_ble_eq_true rfl)) dX7_winningTurns_35 ⟨(Nat.le_of_ble_eq_true rfl), (Nat.le_of_ble_eq_true rfl)⟩) (fun r35 er35 => ?_)
          obtain rfl := er35.symm
          refine pk_b (P := bt x33 j = true) (fun b35 => ?_) (fun b35 => ?_)
          · exact absurd (by obtain rfl := ex33.symm; exact b35) hf
          · refine lv_if_eq (tgt := 45) hx hb dX7_winningTurns_38 (by decide) (fun c38 => ?_) (fun c38 => ?_)
            · refine lv_iconst (v := 0) hx hb dX7_winningTurns_45 (by decide) ?_
              refine lv_istore_n (lv' := [(2, .int 0), (0, .ref h0), (1, .int (nI j))]) hx hb dX7_winningTurns_46 rfl hl (by decide) rfl (fun ls hl => ?_)
              refine lv_aload_n hx hb dX7_winningTurns_47 rfl (lv_at hl 1 rfl) ?_
              refine lv_iload_n hx hb dX7_winningTurns_48 rfl (lv_at hl 2 rfl) ?_
              refine vp_callSi (W.runS (As := [.int (nI j)]) (rest := [.ref h0]) ⟨hx, hb, hml, hown, hts⟩ (c_X7_isCell l (nI j)) (va_cwS 1 hts gX7_winningTurns_X7_isCell rfl rfl rfl (by decide +kernel) ⟨Nat.le_of_ble_eq_true rfl, Nat.le_of_ble_eq_true rfl⟩) ⟨px_blind0, fun U hU hW => ⟨rfl, trivial⟩⟩ rfl rfl hl.1 rfl (lv_room (Nat.le_of_ble_eq_true rfl)) dX7_winningTurns_49 ⟨(Nat.le_of_ble_eq_true rfl), (Nat.le_of_ble_eq_true rfl)⟩) (fun r49 er49 => ?_)
              obtain rfl := er49.symm
              refine pk_b (P := 0 ≤ (nI j) ∧ (nI j) ≤ 35) (fun b49 => ?_) (fun b49 => ?_)
              · refine lv_if_ne (tgt := 59) hx hb dX7_winningTurns_52 (by decide) (fun c52 => ?_) (fun c52 => ?_)
                · refine lv_iload_n hx hb dX7_winningTurns_59 rfl (lv_at hl 0 rfl) ?_
                  refine lv_if_eq (tgt := 67) hx hb dX7_winningTurns_60 (by decide) (fun c60 => ?_) (fun c60 => ?_)
                  · refine lv_iconst (v := 0) hx hb dX7_winningTurns_67 (by decide) ?_
                    have hPc := hP.sub (ws' := [(h0, .inr (4, [.int th, .ref ow, .int 0, .int 1, .int 0, .ref cl, .ref tu, .int (nI k), .ref lk, .ref f1, .ref s2, .ref ms, .ref nx, .ref bs, .int fd])), (ow, .inl (cJ, 3, .inr (.inl fo))), (cl, .inl (cI, 36, .inl cs)), (tu, .inl (cI, 36, .inl ts)), (lk, .inl (cJ, 3, .inr (.inl lo))), (f1, .inl (cJ, 6, .inr (.inl ff))), (s2, .inl (cJ, 6, .inr (.inl sf))), (ms, .inl (cI, 6, .inl mm)), (nx, .inl (cI, 6, .inl nf)), (bs, .inl (cI, 6, .inl bf))]) [0, 1, 2, 3, 4, 5, 6, 7, 8, 9] rfl
                    have hDc := hD.sub (ws' := [(h0, .inr (4, [.int th, .ref ow, .int 0, .int 1, .int 0, .ref cl, .ref tu, .int (nI k), .ref lk, .ref f1, .ref s2, .ref ms, .ref nx, .ref bs, .int fd])), (ow, .inl (cJ, 3, .inr (.inl fo))), (cl, .inl (cI, 36, .inl cs)), (tu, .inl (cI, 36, .inl ts)), (lk, .inl (cJ, 3, .inr (.inl lo))), (f1, .inl (cJ, 6, .inr (.inl ff))), (s2, .inl (cJ, 6, .inr (.inl sf))), (ms, .inl (cI, 6, .inl mm)), (nx, .inl (cI, 6, .inl nf)), (bs, .inl (cI, 6, .inl bf))]) [0, 1, 2, 3, 4, 5, 6, 7, 8, 9] (by decide) rfl
                    have hFc := va_free (wc := [(h0, .inr (4, [.int th, .ref ow, .int 0, .int 1, .int 0, .ref cl, .ref tu, .int (nI k), .ref lk, .ref f1, .ref s2, .ref ms, .ref nx, .ref bs, .int fd])), (ow, .inl (cJ, 3, .inr (.inl fo))), (cl, .inl (cI, 36, .inl cs)), (tu, .inl (cI, 36, .inl ts)), (lk, .inl (cJ, 3, .inr (.inl lo))), (f1, .inl (cJ, 6, .inr (.inl ff))), (s2, .inl (cJ, 6, .inr (.inl sf))), (ms, .inl (cI, 6, .inl mm)), (nx, .inl (cI, 6, .inl nf)), (bs, .inl (cI, 6, .inl bf))]) hD hS hA [0, 1, 2, 3, 4, 5, 6, 7, 8, 9] rfl
                    refine va_calli (va_runV (As := [.int 0]) (rest := []) ⟨hx, hb, hml, hown, hts⟩ (c_X7_goesWell l D cI cJ s.heap.size  h0 ow cl tu lk f1 s2 ms nx bs th 0 0 fd 1 k fo lo ff sf cs ts mm nf bf 0) (cwV 1 hts gX7_winningTurns_X7_goesWell rfl rfl rfl (by decide +kernel) ⟨Nat.le_of_ble_eq_true rfl, Nat.le_of_ble_eq_true rfl⟩) ⟨pv_blind, va_recv hK hPc (ci := 4) (q0 := 0) rfl rfl, fun U hU hW => ⟨rfl, by rw [hU], by rw [hU]; exact hPc, va_K.moved hW.alike hK, hDc.weaken (fun _ _ _ _ => trivial)⟩⟩ rfl rfl hl.1 rfl (lv_room (Nat.le_of_ble_eq_true rfl)) dX7_winningTurns_68 ⟨(Nat.le_of_ble_eq_true rfl), (Nat.le_of_ble_eq_true rfl)⟩) hS (fun q _ h => hFc q h) hFc (fun r68 u t9 H1 locs hth hvm hw68 hB hz1 hk1 hS => ?_)
                    try dsimp only at hw68
                    obtain ⟨hP1, hK1, hD1⟩ := hB
                    rw [hth] at hP1
                    obtain ⟨hP, hD⟩ := va_join (wr := []) (w1 := [(h0, .inr (4, [.int 0, .ref ow, .int 0, .int 1, .int 0, .ref cl, .ref tu, .int (nI k), .ref lk, .ref f1, .ref s2, .ref ms, .ref nx, .ref bs, .int fd])), (ow, .inl (cJ, 3, .inr (.inl fo))), (cl, .inl (cI, 36, .inl cs)), (tu, .inl (cI, 36, .inl ts)), (lk, .inl (cJ, 3, .inr (.inl lo))), (f1, .inl (cJ, 6, .inr (.inl ff))), (s2, .inl (cJ, 6, .inr (.inl sf))), (ms, .inl (cI, 6, .inl mm)), (nx, .inl (cI, 6, .inl nf)), (bs, .inl (cI, 6, .inl bf))]) hP hD [0, 1, 2, 3, 4, 5, 6, 7, 8, 9] [] rfl rfl (by decide) (by decide) hk1 hFc hP1 hD1
                    generalize H1 = H at hP hS ⊢
                    have hP : va_P D vwCl [(h0, .inr (4, [.int 0, .ref ow, .int 0, .int 1, .int 0, .ref cl, .ref tu, .int (nI k), .ref lk, .ref f1, .ref s2, .ref ms, .ref nx, .ref bs, .int fd])), (ow, .inl (cJ, 3, .inr (.inl fo))), (cl, .inl (cI, 36, .inl cs)), (tu, .inl (cI, 36, .inl ts)), (lk, .inl (cJ, 3, .inr (.inl lo))), (f1, .inl (cJ, 6, .inr (.inl ff))), (s2, .inl (cJ, 6, .inr (.inl sf))), (ms, .inl (cI, 6, .inl mm)), (nx, .inl (cI, 6, .inl nf)), (bs, .inl (cI, 6, .inl bf))] H := hP.sub (ws' := [(h0, .inr (4, [.int 0, .ref ow, .int 0, .int 1, .int 0, .ref cl, .ref tu, .int (nI k), .ref lk, .ref f1, .ref s2, .ref ms, .ref nx, .ref bs, .int fd])), (ow, .inl (cJ, 3, .inr (.inl fo))), (cl, .inl (cI, 36, .inl cs)), (tu, .inl (cI, 36, .inl ts)), (lk, .inl (cJ, 3, .inr (.inl lo))), (f1, .inl (cJ, 6, .inr (.inl ff))), (s2, .inl (cJ, 6, .inr (.inl sf))), (ms, .inl (cI, 6, .inl mm)), (nx, .inl (cI, 6, .inl nf)), (bs, .inl (cI, 6, .inl bf))]) [0, 1, 2, 3, 4, 5, 6, 7, 8, 9] rfl
                    have hD : va_D A [(h0, .inr (4, [.int 0, .ref ow, .int 0, .int 1, .int 0, .ref cl, .ref tu, .int (nI k), .ref lk, .ref f1, .ref s2, .ref ms, .ref nx, .ref bs, .int fd])), (ow, .inl (cJ, 3, .inr (.inl fo))), (cl, .inl (cI, 36, .inl cs)), (tu, .inl (cI, 36, .inl ts)), (lk, .inl (cJ, 3, .inr (.inl lo))), (f1, .inl (cJ, 6, .inr (.inl ff))), (s2, .inl (cJ, 6, .inr (.inl sf))), (ms, .inl (cI, 6, .inl mm)), (nx, .inl (cI, 6, .inl nf)), (bs, .inl (cI, 6, .inl bf))] := hD.sub (ws' := [(h0, .inr (4, [.int 0, .ref ow, .int 0, .int 1, .int 0, .ref cl, .ref tu, .int (nI k), .ref lk, .ref f1, .ref s2, .ref ms, .ref nx, .ref bs, .int fd])), (ow, .inl (cJ, 3, .inr (.inl fo))), (cl, .inl (cI, 36, .inl cs)), (tu, .inl (cI, 36, .inl ts)), (lk, .inl (cJ, 3, .inr (.inl lo))), (f1, .inl (cJ, 6, .inr (.inl ff))), (s2, .inl (cJ, 6, .inr (.inl sf))), (ms, .inl (cI, 6, .inl mm)), (nx, .inl (cI, 6, .inl nf)), (bs, .inl (cI, 6, .inl bf))]) [0, 1, 2, 3, 4, 5, 6, 7, 8, 9] (by decide) rfl
                    obtain rfl := hw68.symm
                    refine pk_ti (y := 1) (if_pos (by decide)) ?_
                    refine lv_if_ne (tgt := 76) hx hb dX7_winningTurns_71 (by decide) (fun c71 => ?_) (fun c71 => ?_)
                    · refine lv_aload_n hx hb dX7_winningTurns_76 rfl (lv_at hl 1 rfl) ?_
                      refine lv_iload_n hx hb dX7_winningTurns_77 rfl (lv_at hl 2 rfl) ?_
                      refine vp_callSi (W.runV (As := [.int (nI j)]) (rest := []) ⟨hx, hb, hml, hown, hts⟩ (c_X7_winsBy l D cI cJ h0 ow cl tu lk f1 s2 ms nx bs 0 0 0 fd 1 k fo lo ff sf cs ts mm nf bf (Or.inl rfl) (nI j)) (cwV 1 hts gX7_winningTurns_X7_winsBy rfl rfl rfl (by decide +kernel) ⟨Nat.le_of_ble_eq_true rfl, Nat.le_of_ble_eq_true rfl⟩) ⟨px_blindW, va_recv hK hP (ci := 4) (q0 := 0) rfl rfl, fun U hU hW => ⟨rfl, by rw [hU]; exact hP.sub (ws' := [(h0, .inr (4, [.int 0, .ref ow, .int 0, .int 1, .int 0, .ref cl, .ref tu, .int (nI k), .ref lk, .ref f1, .ref s2, .ref ms, .ref nx, .ref bs, .int fd])), (ow, .inl (cJ, 3, .inr (.inl fo))), (cl, .inl (cI, 36, .inl cs)), (tu, .inl (cI, 36, .inl ts)), (lk, .inl (cJ, 3, .inr (.inl lo))), (f1, .inl (cJ, 6, .inr (.inl ff))), (s2, .inl (cJ, 6, .inr (.inl sf))), (ms, .inl (cI, 6, .inl mm)), (nx, .inl (cI, 6, .inl nf)), (bs, .inl (cI, 6, .inl bf))]) [0, 1, 2, 3, 4, 5, 6, 7, 8, 9] rfl, va_K.moved hW.alike hK⟩⟩ rfl rfl hl.1 rfl (lv_room (Nat.le_of_ble_eq_true rfl)) dX7_winningTurns_78 ⟨(Nat.le_of_ble_eq_true rfl), (Nat.le_of_ble_eq_true rfl)⟩) (fun r78 er78 => ?_)
                      obtain rfl := er78.symm
                      refine pk_b (P := 0 < msum (fo 1 ||| jshl 1 (nI j)) 0 5 32) (fun b78 => ?_) (fun b78 => ?_)
                      · refine lv_if_eq (tgt := 87) hx hb dX7_winningTurns_81 (by decide) (fun c81 => ?_) (fun c81 => ?_)
                        · exact absurd c81 (by decide)
                        · refine lv_bipush (v := 8) hx hb dX7_winningTurns_84 (by decide) ?_
                          obtain rfl := ex33.symm
                          refine W.iret (v := 8) hx hb hr (fun tt ht hW => ⟨⟨8, lo, rfl, ?_, by rw [ht]; exact hP, va_K.moved hW.alike hK, hD⟩, hS.F ht⟩) hS.2.2 dX7_winningTurns_86
                          skip; first | exact (if_pos b78).symm | exact (if_neg b78).symm
                      · refine lv_if_eq (tgt := 87) hx hb dX7_winningTurns_81 (by decide) (fun c81 => ?_) (fun c81 => ?_)
                        · refine lv_iconst (v := 0) hx hb dX7_winningTurns_87 (by decide) ?_
                          refine lv_istore_n (lv' := [(3, .int 0), (2, .int 0), (0, .ref h0), (1, .int (nI j))]) hx hb dX7_winningTurns_88 rfl hl (by decide) rfl (fun ls hl => ?_)
                          refine lv_iconst (v := 0) hx hb dX7_winningTurns_89 (by decide) ?_
                          refine lv_istore (lv' := [(4, .int 0), (3, .int 0), (2, .int 0), (0, .ref h0), (1, .int (nI j))]) hx hb dX7_winningTurns_90 hl (by decide) rfl (fun ls hl => ?_)
                          have loop92 : ∀ (nn i92 : Nat), i92 + nn = 8 → ∀ (lo92 : Nat → Int64) (hlo : True) (H : Heap) (locs : List Loc), va_P D vwCl [(h0, .inr (4, [.int 0, .ref ow, .int 0, .int 1, .int 0, .ref cl, .ref tu, .int (nI k), .ref lk, .ref f1, .ref s2, .ref ms, .ref nx, .ref bs, .int fd])), (ow, .inl (cJ, 3, .inr (.inl fo))), (cl, .inl (cI, 36, .inl cs)), (tu, .inl (cI, 36, .inl ts)), (lk, .inl (cJ, 3, .inr (.inl lo92))), (f1, .inl (cJ, 6, .inr (.inl ff))), (s2, .inl (cJ, 6, .inr (.inl sf))), (ms, .inl (cI, 6, .inl mm)), (nx, .inl (cI, 6, .inl nf)), (bs, .inl (cI, 6, .inl bf))] H → va_D A [(h0, .inr (4, [.int 0, .ref ow, .int 0, .int 1, .int 0, .ref cl, .ref tu, .int (nI k), .ref lk, .ref f1, .ref s2, .ref ms, .ref nx, .ref bs, .int fd])), (ow, .inl (cJ, 3, .inr (.inl fo))), (cl, .inl (cI, 36, .inl cs)), (tu, .inl (cI, 36, .inl ts)), (lk, .inl (cJ, 3, .inr (.inl lo92))), (f1, .inl (cJ, 6, .inr (.inl ff))), (s2, .inl (cJ, 6, .inr (.inl sf))), (ms, .inl (cI, 6, .inl mm)), (nx, .inl (cI, 6, .inl nf)), (bs, .inl (cI, 6, .inl bf))] → va_S A s.heap H locs → ∀ ls, lv_has ls 5 [(4, .int (nI i92)), (3, .int (mwt (fo 1 ||| jshl 1 (nI j)) (fo 2) 1 i92)), (0, .ref h0), (1, .int (nI j))] → W p l e (headSpec wsX7_winningTurns ({ frames := 4, cells := 0, slots := 0, locals := 97 } : Room)).room s m ([.ref h0, .int (nI j)] : List Value).toArray below meth c H locs 0 0 (MQ below (va_Qi (fun (r : Int32) (u : (Nat → Int64)) => r = (if 0 < msum (fo 1 ||| jshl 1 (nI j)) 0 5 32 then 8 else mwt (fo 1 ||| jshl 1 (nI j)) (fo 2) 1 8)) (fun (u : (Nat → Int64)) => pv_B D cI cJ (A) [(h0, .inr (4, [.int 0, .ref ow, .int 0, .int 1, .int 0, .ref cl, .ref tu, .int (nI k), .ref lk, .ref f1, .ref s2, .ref ms, .ref nx, .ref bs, .int fd])), (ow, .inl (cJ, 3, .inr (.inl fo))), (cl, .inl (cI, 36, .inl cs)), (tu, .inl (cI, 36, .inl ts)), (lk, .inl (cJ, 3, .inr (.inl u))), (f1, .inl (cJ, 6, .inr (.inl ff))), (s2, .inl (cJ, 6, .inr (.inl sf))), (ms, .inl (cI, 6, .inl mm)), (nx, .inl (cI, 6, .inl nf)), (bs, .inl (cI, 6, .inl bf))]) (A)) ([.ref h0, .int (nI j)] : List Value).toArray s 0 0 A) (F0 m 92 ls []) := by
                            intro nn
                            induction nn with
                            | zero =>
                              intro i92 hi92 lo92 hlo H locs hP hD hS ls hl
                              obtain rfl : i92 = 8 := by omega
                              refine lv_iload hx hb dX7_winningTurns_92 (lv_at hl 0 rfl) ?_
                              refine lv_bipush (v := 8) hx hb dX7_winningTurns_94 (by decide) ?_
                              refine lv_icmp_ge (tgt := 201) hx hb dX7_winningTurns_96 (by decide) (fun c96 => ?_) (fun c96 => ?_)
                              · have c96 : 8 ≤ 8 := (nq_le (a := 8) (b := 8) (by omega) (by omega)).mp c96
                                refine lv_iload_n hx hb dX7_winningTurns_201 rfl (lv_at hl 1 rfl) ?_
                                refine W.iret (v := (mwt (fo 1 ||| jshl 1 (nI j)) (fo 2) 1 8)) hx hb hr (fun tt ht hW => ⟨⟨(mwt (fo 1 ||| jshl 1 (nI j)) (fo 2) 1 8), lo92, rfl, ?_, by rw [ht]; exact hP, va_K.moved hW.alike hK, hD⟩, hS.F ht⟩) hS.2.2 dX7_winningTurns_202
                                skip; first | exact (if_pos b78).symm | exact (if_neg b78).symm
                              · have c96 : ¬ 8 ≤ 8 := _root_.mt (nq_le (a := 8) (b := 8) (by omega) (by omega)).mpr c96
                                omega
                            | succ nn ih92 =>
                              intro i92 hi92 lo92 hlo H locs hP hD hS ls hl
                              refine lv_iload hx hb dX7_winningTurns_92 (lv_at hl 0 rfl) ?_
                              refine lv_bipush (v := 8) hx hb dX7_winningTurns_94 (by decide) ?_
                              refine lv_icmp_ge (tgt := 201) hx hb dX7_winningTurns_96 (by decide) (fun c96 => ?_) (fun c96 => ?_)
                              · have c96 : 8 ≤ i92 := (nq_le (a := 8) (b := i92) (by omega) (by omega)).mp c96
                                omega
                              · have c96 : ¬ 8 ≤ i92 := _root_.mt (nq_le (a := 8) (b := i92) (by omega) (by omega)).mpr c96
                                refine lv_aload_n hx hb dX7_winningTurns_99 rfl (lv_at hl 2 rfl) ?_
                                refine va_get (D := D) (ci := 4) (v := .ref lk) (C := RX7) (T := TX7) (N := 15) hx hb hts hinX7 hown hK hP 0 rfl rfl 8 (by decide) hfl24 (fun _ h9 => h9) rfl dX7_winningTurns_100 ?_
                                refine lv_aload_n hx hb dX7_winningTurns_103 rfl (lv_at hl 2 rfl) ?_
                                refine va_get (D := D) (ci := 4) (v := .int 1) (C := RX7) (T := TX7) (N := 15) hx hb hts hinX7 hown hK hP 0 rfl rfl 3 (by decide) hfl13 (fun _ h9 => h9) rfl dX7_winningTurns_104 ?_
                                refine lv_aload_n hx hb dX7_winningTurns_107 rfl (lv_at hl 2 rfl) ?_
                                refine va_get (D := D) (ci := 4) (v := .ref ow) (C := RX7) (T := TX7) (N := 15) hx hb hts hinX7 hown hK hP 0 rfl rfl 1 (by decide) hfl7 (fun _ h9 => h9) rfl dX7_winningTurns_108 ?_
                                refine lv_aload_n hx hb dX7_winningTurns_111 rfl (lv_at hl 2 rfl) ?_
                                refine va_get (D := D) (ci := 4) (v := .int 1) (C := RX7) (T := TX7) (N := 15) hx hb hts hinX7 hown hK hP 0 rfl rfl 3 (by decide) hfl13 (fun _ h9 => h9) rfl dX7_winningTurns_112 ?_
                                refine va_lald hx hb hK hP 1 1 rfl rfl (vp_in_nI (n := 1) (N := 3) (by omega) (by decide)) dX7_winningTurns_115 ?_
                                refine pk_tl (y := (fo 1)) (congrArg fo (pk_cl 1)) ?_
                                refine lv_lconst (v := 1) hx hb dX7_winningTurns_116 (by decide) ?_
                                refine lv_iload_n hx hb dX7_winningTurns_117 rfl (lv_at hl 3 rfl) ?_
                                refine lv_lshl (v := jshl 1 (nI j)) hx hb dX7_winningTurns_118 rfl ?_
                                refine lv_topl (fun x118 ex118 => ?_)
                                refine lv_lor hx hb dX7_winningTurns_119 ?_
                                refine lv_topl (fun x119 ex119 => ?_)
                                refine lv_iload hx hb dX7_winningTurns_120 (lv_at hl 0 rfl) ?_
                                refine lv_iconst (v := 2) hx hb dX7_winningTurns_122 (by decide) ?_
                                refine lv_idiv hx hb dX7_winningTurns_123 (by decide) ?_
                                refine pk_ti (y := nI (i92 / 2)) (pk_div (a := i92) (d := 2) (by omega) (by omega) (by omega)) ?_
                                refine lv_iload hx hb dX7_winningTurns_124 (lv_at hl 0 rfl) ?_
                                refine lv_iconst (v := 2) hx hb dX7_winningTurns_126 (by decide) ?_
                                refine lv_irem hx hb dX7_winningTurns_127 (by decide) ?_
                                refine pk_ti (y := nI (i92 % 2)) (pk_rem (a := i92) (d := 2) (by omega) (by omega) (by omega)) ?_
                                refine vp_callSl (W.runS (As := [.long x119, .int (nI (i92 / 2)), .int (nI (i92 % 2))]) (rest := [.int 1, .ref lk]) ⟨hx, hb, hml, hown, hts⟩ (c_X7_turned l x119 (i92 / 2) (i92 % 2) (by omega) (by omega)) (va_cwS 3 hts gX7_winningTurns_X7_turned rfl rfl rfl (by decide +kernel) ⟨Nat.le_of_ble_eq_true rfl, Nat.le_of_ble_eq_true rfl⟩) ⟨px_blind0, fun U hU hW => ⟨rfl, trivial⟩⟩ rfl rfl hl.1 rfl (lv_room (Nat.le_of_ble_eq_true rfl)) dX7_winningTurns_128 ⟨(Nat.le_of_ble_eq_true rfl), (Nat.le_of_ble_eq_true rfl)⟩) (fun r128 er128 => ?_)
                                obtain rfl := er128.symm
                                refine va_last hx hb hK hP hD hS 4 1 rfl rfl (vp_in_nI (n := 1) (N := 3) (by omega) (by decide)) dX7_winningTurns_131 (fun H locs hP hD hS => ?_)
                                have hu131 : (1 : Int32).toNatClampNeg = 1 := pk_cl 1
                                rw [hu131] at hP hD
                                have hP : va_P D vwCl [(h0, .inr (4, [.int 0, .ref ow, .int 0, .int 1, .int 0, .ref cl, .ref tu, .int (nI k), .ref lk, .ref f1, .ref s2, .ref ms, .ref nx, .ref bs, .int fd])), (ow, .inl (cJ, 3, .inr (.inl fo))), (cl, .inl (cI, 36, .inl cs)), (tu, .inl (cI, 36, .inl ts)), (lk, .inl (cJ, 3, .inr (.inl (vp_updL lo92 1 (mturned x119 (i92 / 2) (i92 % 2)))))), (f1, .inl (cJ, 6, .inr (.inl ff))), (s2, .inl (cJ, 6, .inr (.inl sf))), (ms, .inl (cI, 6, .inl mm)), (nx, .inl (cI, 6, .inl nf)), (bs, .inl (cI, 6, .inl bf))] H := hP
                                have hD : va_D A [(h0, .inr (4, [.int 0, .ref ow, .int 0, .int 1, .int 0, .ref cl, .ref tu, .int (nI k), .ref lk, .ref f1, .ref s2, .ref ms, .ref nx, .ref bs, .int fd])), (ow, .inl (cJ, 3, .inr (.inl fo))), (cl, .inl (cI, 36, .inl cs)), (tu, .inl (cI, 36, .inl ts)), (lk, .inl (cJ, 3, .inr (.inl (vp_updL lo92 1 (mturned x119 (i92 / 2) (i92 % 2)))))), (f1, .inl (cJ, 6, .inr (.inl ff))), (s2, .inl (cJ, 6, .inr (.inl sf))), (ms, .inl (cI, 6, .inl mm)), (nx, .inl (cI, 6, .inl nf)), (bs, .inl (cI, 6, .inl bf))] := hD
                                refine lv_aload_n hx hb dX7_winningTurns_132 rfl (lv_at hl 2 rfl) ?_
                                refine va_get (D := D) (ci := 4) (v := .ref lk) (C := RX7) (T := TX7) (N := 15) hx hb hts hinX7 hown hK hP 0 rfl rfl 8 (by decide) hfl24 (fun _ h9 => h9) rfl dX7_winningTurns_133 ?_
                                refine lv_iconst (v := 3) hx hb dX7_winningTurns_136 (by decide) ?_
                                refine lv_aload_n hx hb dX7_winningTurns_137 rfl (lv_at hl 2 rfl) ?_
                                refine va_get (D := D) (ci := 4) (v := .int 1) (C := RX7) (T := TX7) (N := 15) hx hb hts hinX7 hown hK hP 0 rfl rfl 3 (by decide) hfl13 (fun _ h9 => h9) rfl dX7_winningTurns_138 ?_
                                refine lv_isub hx hb dX7_winningTurns_141 ?_
                                refine pk_ti (y := 2) (by decide) ?_
                                refine lv_aload_n hx hb dX7_winningTurns_142 rfl (lv_at hl 2 rfl) ?_
                                refine va_get (D := D) (ci := 4) (v := .ref ow) (C := RX7) (T := TX7) (N := 15) hx hb hts hinX7 hown hK hP 0 rfl rfl 1 (by decide) hfl7 (fun _ h9 => h9) rfl dX7_winningTurns_143 ?_
                                refine lv_iconst (v := 3) hx hb dX7_winningTurns_146 (by decide) ?_
                                refine lv_aload_n hx hb dX7_winningTurns_147 rfl (lv_at hl 2 rfl) ?_
                                refine va_get (D := D) (ci := 4) (v := .int 1) (C := RX7) (T := TX7) (N := 15) hx hb hts hinX7 hown hK hP 0 rfl rfl 3 (by decide) hfl13 (fun _ h9 => h9) rfl dX7_winningTurns_148 ?_
                                refine lv_isub hx hb dX7_winningTurns_151 ?_
                                refine pk_ti (y := 2) (by decide) ?_
                                refine va_lald hx hb hK hP 1 1 rfl rfl (vp_in_nI (n := 2) (N := 3) (by omega) (by decide)) dX7_winningTurns_152 ?_
                                refine pk_tl (y := (fo 2)) (congrArg fo (pk_cl 2)) ?_
                                refine lv_iload hx hb dX7_winningTurns_153 (lv_at hl 0 rfl) ?_
                                refine lv_iconst (v := 2) hx hb dX7_winningTurns_155 (by decide) ?_
                                refine lv_idiv hx hb dX7_winningTurns_156 (by decide) ?_
                                refine pk_ti (y := nI (i92 / 2)) (pk_div (a := i92) (d := 2) (by omega) (by omega) (by omega)) ?_
                                refine lv_iload hx hb dX7_winningTurns_157 (lv_at hl 0 rfl) ?_
                                refine lv_iconst (v := 2) hx hb dX7_winningTurns_159 (by decide) ?_
                                refine lv_irem hx hb dX7_winningTurns_160 (by decide) ?_
                                refine pk_ti (y := nI (i92 % 2)) (pk_rem (a := i92) (d := 2) (by omega) (by omega) (by omega)) ?_
                                refine vp_callSl (W.runS (As := [.long (fo 2), .int (nI (i92 / 2)), .int (nI (i92 % 2))]) (rest := [.int 2, .ref lk]) ⟨hx, hb, hml, hown, hts⟩ (c_X7_turned l (fo 2) (i92 / 2) (i92 % 2) (by omega) (by omega)) (va_cwS 3 hts gX7_winningTurns_X7_turned rfl rfl rfl (by decide +kernel) ⟨Nat.le_of_ble_eq_true rfl, Nat.le_of_ble_eq_true rfl⟩) ⟨px_blind0, fun U hU hW => ⟨rfl, trivial⟩⟩ rfl rfl hl.1 rfl (lv_room (Nat.le_of_ble_eq_true rfl)) dX7_winningTurns_161 ⟨(Nat.le_of_ble_eq_true rfl), (Nat.le_of_ble_eq_true rfl)⟩) (fun r161 er161 => ?_)
                                obtain rfl := er161.symm
                                refine va_last hx hb hK hP hD hS 4 1 rfl rfl (vp_in_nI (n := 2) (N := 3) (by omega) (by decide)) dX7_winningTurns_164 (fun H locs hP hD hS => ?_)
                                have hu164 : (2 : Int32).toNatClampNeg = 2 := pk_cl 2
                                rw [hu164] at hP hD
                                have hP : va_P D vwCl [(h0, .inr (4, [.int 0, .ref ow, .int 0, .int 1, .int 0, .ref cl, .ref tu, .int (nI k), .ref lk, .ref f1, .ref s2, .ref ms, .ref nx, .ref bs, .int fd])), (ow, .inl (cJ, 3, .inr (.inl fo))), (cl, .inl (cI, 36, .inl cs)), (tu, .inl (cI, 36, .inl ts)), (lk, .inl (cJ, 3, .inr (.inl (vp_updL (vp_updL lo92 1 (mturned x119 (i92 / 2) (i92 % 2))) 2 (mturned (fo 2) (i92 / 2) (i92 % 2)))))), (f1, .inl (cJ, 6, .inr (.inl ff))), (s2, .inl (cJ, 6, .inr (.inl sf))), (ms, .inl (cI, 6, .inl mm)), (nx, .inl (cI, 6, .inl nf)), (bs, .inl (cI, 6, .inl bf))] H := hP
                                have hD : va_D A [(h0, .inr (4, [.int 0, .ref ow, .int 0, .int 1, .int 0, .ref cl, .ref tu, .int (nI k), .ref lk, .ref f1, .ref s2, .ref ms, .ref nx, .ref bs, .int fd])), (ow, .inl (cJ, 3, .inr (.inl fo))), (cl, .inl (cI, 36, .inl cs)), (tu, .inl (cI, 36, .inl ts)), (lk, .inl (cJ, 3, .inr (.inl (vp_updL (vp_updL lo92 1 (mturned x119 (i92 / 2) (i92 % 2))) 2 (mturned (fo 2) (i92 / 2) (i92 % 2)))))), (f1, .inl (cJ, 6, .inr (.inl ff))), (s2, .inl (cJ, 6, .inr (.inl sf))), (ms, .inl (cI, 6, .inl mm)), (nx, .inl (cI, 6, .inl nf)), (bs, .inl (cI, 6, .inl bf))] := hD
                                refine lv_iload_n hx hb dX7_winningTurns_165 rfl (lv_at hl 1 rfl) ?_
                                refine lv_aload_n hx hb dX7_winningTurns_166 rfl (lv_at hl 2 rfl) ?_
                                refine va_get (D := D) (ci := 4) (v := .ref lk) (C := RX7) (T := TX7) (N := 15) hx hb hts hinX7 hown hK hP 0 rfl rfl 8 (by decide) hfl24 (fun _ h9 => h9) rfl dX7_winningTurns_167 ?_
                                refine lv_iconst (v := 1) hx hb dX7_winningTurns_170 (by decide) ?_
                                refine va_lald hx hb hK hP 4 1 rfl rfl (vp_in_nI (n := 1) (N := 3) (by omega) (by decide)) dX7_winningTurns_171 ?_
                                refine pk_tl (y := (mturned x119 (i92 / 2) (i92 % 2))) ((congrArg (vp_updL (vp_updL lo92 1 (mturned x119 (i92 / 2) (i92 % 2))) 2 (mturned (fo 2) (i92 / 2) (i92 % 2))) (pk_cl 1)).trans ((pk_uLn (by decide)).trans (pk_uLs))) ?_
                                refine lv_aload_n hx hb dX7_winningTurns_172 rfl (lv_at hl 2 rfl) ?_
                                refine va_get (D := D) (ci := 4) (v := .ref lk) (C := RX7) (T := TX7) (N := 15) hx hb hts hinX7 hown hK hP 0 rfl rfl 8 (by decide) hfl24 (fun _ h9 => h9) rfl dX7_winningTurns_173 ?_
                                refine lv_iconst (v := 2) hx hb dX7_winningTurns_176 (by decide) ?_
                                refine va_lald hx hb hK hP 4 1 rfl rfl (vp_in_nI (n := 2) (N := 3) (by omega) (by decide)) dX7_winningTurns_177 ?_
                                refine pk_tl (y := (mturned (fo 2) (i92 / 2) (i92 % 2))) ((congrArg (vp_updL (vp_updL lo92 1 (mturned x119 (i92 / 2) (i92 % 2))) 2 (mturned (fo 2) (i92 / 2) (i92 % 2))) (pk_cl 2)).trans (pk_uLs)) ?_
                                refine vp_callSi (W.runS (As := [.long (mturned x119 (i92 / 2) (i92 % 2)), .long (mturned (fo 2) (i92 / 2) (i92 % 2))]) (rest := [.int (mwt (fo 1 ||| jshl 1 (nI j)) (fo 2) 1 i92)]) ⟨hx, hb, hml, hown, hts⟩ (c_X7_judge l (mturned x119 (i92 / 2) (i92 % 2)) (mturned (fo 2) (i92 / 2) (i92 % 2))) (va_cwS 2 hts gX7_winningTurns_X7_judge rfl rfl rfl (by decide +kernel) ⟨Nat.le_of_ble_eq_true rfl, Nat.le_of_ble_eq_true rfl⟩) ⟨px_blind0, fun U hU hW => ⟨rfl, trivial⟩⟩ rfl rfl hl.1 rfl (lv_room (Nat.le_of_ble_eq_true rfl)) dX7_winningTurns_178 ⟨(Nat.le_of_ble_eq_true rfl), (Nat.le_of_ble_eq_true rfl)⟩) (fun r178 er178 => ?_)
                                obtain rfl := er178.symm
                                refine lv_aload_n hx hb dX7_winningTurns_181 rfl (lv_at hl 2 rfl) ?_
                                refine va_get (D := D) (ci := 4) (v := .int 1) (C := RX7) (T := TX7) (N := 15) hx hb hts hinX7 hown hK hP 0 rfl rfl 3 (by decide) hfl13 (fun _ h9 => h9) rfl dX7_winningTurns_182 ?_
                                refine lv_icmp_ne (tgt := 192) hx hb dX7_winningTurns_185 (by decide) (fun c185 => ?_) (fun c185 => ?_)
                                · refine lv_iconst (v := 0) hx hb dX7_winningTurns_192 (by decide) ?_
                                  refine lv_iadd hx hb dX7_winningTurns_193 ?_
                                  refine lv_topi (fun x193 ex193 => ?_)
                                  refine lv_istore_n (lv' := [(3, .int x193), (4, .int (nI i92)), (0, .ref h0), (1, .int (nI j))]) hx hb dX7_winningTurns_194 rfl hl (by decide) rfl (fun ls hl => ?_)
                                  refine lv_iinc (v := nI (i92 + 1)) (lv' := [(4, .int (nI (i92 + 1))), (3, .int x193), (0, .ref h0), (1, .int (nI j))]) hx hb dX7_winningTurns_195 hl (k := 1) rfl (nI_add i92 1) (by decide) rfl (fun ls hl => ?_)
                                  refine lv_goto (tgt := 92) hx hb dX7_winningTurns_198 (by decide) ?_
                                  exact ih92 (i92 + 1) (by omega) _ trivial _ _ hP hD hS ls (by { have e9 : (x193 : Int32) = (mwt (fo 1 ||| jshl 1 (nI j)) (fo 2) 1 (i92 + 1)) := by { obtain rfl := ex118.symm; obtain rfl := ex119.symm; obtain rfl := ex193.symm; first | exact mwt_1 c185 | exact mwt_2 c185 }; rw [← e9]; exact lv_sub hl [0, 1, 2, 3] rfl })
                                · refine lv_iconst (v := 1) hx hb dX7_winningTurns_188 (by decide) ?_
                                  refine lv_goto (tgt := 193) hx hb dX7_winningTurns_189 (by decide) ?_
                                  refine lv_iadd hx hb dX7_winningTurns_193 ?_
                                  refine lv_topi (fun x193 ex193 => ?_)
                                  refine lv_istore_n (lv' := [(3, .int x193), (4, .int (nI i92)), (0, .ref h0), (1, .int (nI j))]) hx hb dX7_winningTurns_194 rfl hl (by decide) rfl (fun ls hl => ?_)
                                  refine lv_iinc (v := nI (i92 + 1)) (lv' := [(4, .int (nI (i92 + 1))), (3, .int x193), (0, .ref h0), (1, .int (nI j))]) hx hb dX7_winningTurns_195 hl (k := 1) rfl (nI_add i92 1) (by decide) rfl (fun ls hl => ?_)
                                  refine lv_goto (tgt := 92) hx hb dX7_winningTurns_198 (by decide) ?_
                                  exact ih92 (i92 + 1) (by omega) _ trivial _ _ hP hD hS ls (by { have e9 : (x193 : Int32) = (mwt (fo 1 ||| jshl 1 (nI j)) (fo 2) 1 (i92 + 1)) := by { obtain rfl := ex118.symm; obtain rfl := ex119.symm; obtain rfl := ex193.symm; first | exact mwt_1 c185 | exact mwt_2 c185 }; rw [← e9]; exact lv_sub hl [0, 1, 2, 3] rfl })
                          exact loop92 8 0 (by omega) _ trivial _ _ hP hD hS ls (lv_sub hl [0, 1, 3, 4] rfl)
                        · exact absurd c81 (by decide)
                    · exact absurd c71 (by decide)
                  · exact absurd c60 (by decide)
                · exact absurd c52 (by decide)
              · exact absurd (cell_ok hj) b49
            · exact absurd c38 (by decide)
  · exact absurd (cell_ok hj) b1

set_option maxHeartbeats 400000 in
set_option maxRecDepth 100000 in
theorem c_X7_winningTurns_ok2 (l : Launch) (D : va_G) (cI cJ : ClassId) (sz : Nat) (h0 ow cl tu lk f1 s2 ms nx bs : Nat) (th fd : Int32) (k : Nat) (fo lo ff sf : Nat → Int64) (cs ts mm nf bf : Nat → Int32) (j : Nat) (hj : j < 36) (hf : ¬ bt (fo 1 ||| fo 2) j = true) : Met l yX7_winningTurns wsX7_winningTurns ({ frames := 4, cells := 0, slots := 0, locals := 97 } : Room) (va_Pc [.ref h0, .int (nI j)] (pv_C D cI cJ [(h0, .inr (4, [.int th, .ref ow, .int 0, .int 2, .int 0, .ref cl, .ref tu, .int (nI k), .ref lk, .ref f1, .ref s2, .ref ms, .ref nx, .ref bs, .int fd])), (ow, .inl (cJ, 3, .inr (.inl fo))), (cl, .inl (cI, 36, .inl cs)), (tu, .inl (cI, 36, .inl ts)), (lk, .inl (cJ, 3, .inr (.inl lo))), (f1, .inl (cJ, 6, .inr (.inl ff))), (s2, .inl (cJ, 6, .inr (.inl sf))), (ms, .inl (cI, 6, .inl mm)), (nx, .inl (cI, 6, .inl nf)), (bs, .inl (cI, 6, .inl bf))] sz)) (va_Qi (fun (r : Int32) (u : (Nat → Int64)) => r = (if 0 < msum (fo 2 ||| jshl 1 (nI j)) 0 5 32 then 8 else mwt (fo 1) (fo 2 ||| jshl 1 (nI j)) 2 8)) (fun (u : (Nat → Int64)) => pv_B D cI cJ (va_A [(h0, .inr (4, [.int th, .ref ow, .int 0, .int 2, .int 0, .ref cl, .ref tu, .int (nI k), .ref lk, .ref f1, .ref s2, .ref ms, .ref nx, .ref bs, .int fd])), (ow, .inl (cJ, 3, .inr (.inl fo))), (cl, .inl (cI, 36, .inl cs)), (tu, .inl (cI, 36, .inl ts)), (lk, .inl (cJ, 3, .inr (.inl lo))), (f1, .inl (cJ, 6, .inr (.inl ff))), (s2, .inl (cJ, 6, .inr (.inl sf))), (ms, .inl (cI, 6, .inl mm)), (nx, .inl (cI, 6, .inl nf)), (bs, .inl (cI, 6, .inl bf))] sz) [(h0, .inr (4, [.int 0, .ref ow, .int 0, .int 2, .int 0, .ref cl, .ref tu, .int (nI k), .ref lk, .ref f1, .ref s2, .ref ms, .ref nx, .ref bs, .int fd])), (ow, .inl (cJ, 3, .inr (.inl fo))), (cl, .inl (cI, 36, .inl cs)), (tu, .inl (cI, 36, .inl ts)), (lk, .inl (cJ, 3, .inr (.inl u))), (f1, .inl (cJ, 6, .inr (.inl ff))), (s2, .inl (cJ, 6, .inr (.inl sf))), (ms, .inl (cI, 6, .inl mm)), (nx, .inl (cI, 6, .inl nf)), (bs, .inl (cI, 6, .inl bf))]) (va_A [(h0, .inr (4, [.int th, .ref ow, .int 0, .int 2, .int 0, .ref cl, .ref tu, .int (nI k), .ref lk, .ref f1, .ref s2, .ref ms, .ref nx, .ref bs, .int fd])), (ow, .inl (cJ, 3, .inr (.inl fo))), (cl, .inl (cI, 36, .inl cs)), (tu, .inl (cI, 36, .inl ts)), (lk, .inl (cJ, 3, .inr (.inl lo))), (f1, .inl (cJ, 6, .inr (.inl ff))), (s2, .inl (cJ, 6, .inr (.inl sf))), (ms, .inl (cI, 6, .inl mm)), (nx, .inl (cI, 6, .inl nf)), (bs, .inl (cI, 6, .inl bf))] sz)) 0 0 (va_A [(h0, .inr (4, [.int th, .ref ow, .int 0, .int 2, .int 0, .ref cl, .ref tu, .int (nI k), .ref lk, .ref f1, .ref s2, .ref ms, .ref nx, .ref bs, .int fd])), (ow, .inl (cJ, 3, .inr (.inl fo))), (cl, .inl (cI, 36, .inl cs)), (tu, .inl (cI, 36, .inl ts)), (lk, .inl (cJ, 3, .inr (.inl lo))), (f1, .inl (cJ, 6, .inr (.inl ff))), (s2, .inl (cJ, 6, .inr (.inl sf))), (ms, .inl (cI, 6, .inl mm)), (nx, .inl (cI, 6, .inl nf)), (bs, .inl (cI, 6, .inl bf))] sz) := by
  refine Met.ofW (cc := cX7_winningTurns) (maxL := 5) (ret := (some .int)) (by decide) rfl ?_
  intro p e s m args below meth c s₁ B hml hv
  obtain ⟨rfl, rfl, hP, hK, hD0⟩ := hv
  have hx := B.exec
  have hb := B.bytes
  have hr := B.returns
  have hts := atoms_spec (ws := wsX7_winningTurns) B.pre
  have hown : s.vm.findClass RX7 = some m.cls := findClass_of_methodNamed B.named
  have hlocks := B.notSynchronized
  have hD := hD0.self (sz := s.heap.size)
  generalize hAe : va_A [(h0, .inr (4, [.int th, .ref ow, .int 0, .int 2, .int 0, .ref cl, .ref tu, .int (nI k), .ref lk, .ref f1, .ref s2, .ref ms, .ref nx, .ref bs, .int fd])), (ow, .inl (cJ, 3, .inr (.inl fo))), (cl, .inl (cI, 36, .inl cs)), (tu, .inl (cI, 36, .inl ts)), (lk, .inl (cJ, 3, .inr (.inl lo))), (f1, .inl (cJ, 6, .inr (.inl ff))), (s2, .inl (cJ, 6, .inr (.inl sf))), (ms, .inl (cI, 6, .inl mm)), (nx, .inl (cI, 6, .inl nf)), (bs, .inl (cI, 6, .inl bf))] s.heap.size = A at hD ⊢
  have hA : ∀ q : Nat, s.heap.size ≤ q → A q := fun q h => by rw [← hAe]; exact Or.inr h
  have hS : va_S A s.heap s.heap [] := va_S.rf
  have hinX7 : ∀ w ∈ wsX70, w ∈ wsX7_winningTurns := by decide +kernel
  have hfl73 : (Cond.fieldLink RX7 73 "TwistquadModel" "result" "I").before ([.ref h0, .int (nI j)] : List Value).toArray s = true := hts _ (by decide +kernel)
  have hfl76 : (Cond.fieldLink RX7 76 "TwistquadModel" "mustTurn" "Z").before ([.ref h0, .int (nI j)] : List Value).toArray s = true := hts _ (by decide +kernel)
  have hfl7 : (Cond.fieldLink RX7 7 "TwistquadModel" "own" "[J").before ([.ref h0, .int (nI j)] : List Value).toArray s = true := hts _ (by decide +kernel)
  have hfl24 : (Cond.fieldLink RX7 24 "TwistquadModel" "look" "[J").before ([.ref h0, .int (nI j)] : List Value).toArray s = true := hts _ (by decide +kernel)
  have hfl13 : (Cond.fieldLink RX7 13 "TwistquadModel" "mover" "I").before ([.ref h0, .int (nI j)] : List Value).toArray s = true := hts _ (by decide +kernel)
  have hl := lv_entry ([.ref h0, .int (nI j)]) (n := 5) (Nat.le_of_ble_eq_true rfl)
  rw [lg_entry_eq]
  generalize (lg_sl ([.ref h0, .int (nI j)]) ++ List.replicate (5 - (lg_sl ([.ref h0, .int (nI j)])).length) Slot.unset).toArray = ls at hl ⊢
  have hl : lv_has ls 5 [(0, .ref h0), (1, .int (nI j))] := hl
  refine lv_iload_n hx hb dX7_winningTurns_0 rfl (lv_at hl 1 rfl) ?_
  refine vp_callSi (W.runS (As := [.int (nI j)]) (rest := []) ⟨hx, hb, hml, hown, hts⟩ (c_X7_isCell l (nI j)) (va_cwS 1 hts gX7_winningTurns_X7_isCell rfl rfl rfl (by decide +kernel) ⟨Nat.le_of_ble_eq_true rfl, Nat.le_of_ble_eq_true rfl⟩) ⟨px_blind0, fun U hU hW => ⟨rfl, trivial⟩⟩ rfl rfl hl.1 rfl (lv_room (Nat.le_of_ble_eq_true rfl)) dX7_winningTurns_1 ⟨(Nat.le_of_ble_eq_true rfl), (Nat.le_of_ble_eq_true rfl)⟩) (fun r1 er1 => ?_)
  obtain rfl := er1.symm
  refine pk_b (P := 0 ≤ (nI j) ∧ (nI j) ≤ 35) (fun b1 => ?_) (fun b1 => ?_)
  · refine lv_if_eq (tgt := 45) hx hb dX7_winningTurns_4 (by decide) (fun c4 => ?_) (fun c4 => ?_)
    · exact absurd c4 (by decide)
    · refine lv_aload_n hx hb dX7_winningTurns_7 rfl (lv_at hl 0 rfl) ?_
      refine va_get (D := D) (ci := 4) (v := .int 0) (C := RX7) (T := TX7) (N := 15) hx hb hts hinX7 hown hK hP 0 rfl rfl 2 (by decide) hfl73 (fun _ h9 => h9) rfl dX7_winningTurns_8 ?_
      refine lv_if_ne (tgt := 41) hx hb dX7_winningTurns_11 (by decide) (fun c11 => ?_) (fun c11 => ?_)
      · exact absurd c11 (by decide)
      · refine lv_aload_n hx hb dX7_winningTurns_14 rfl (lv_at hl 0 rfl) ?_
        refine va_get (D := D) (ci := 4) (v := .int 0) (C := RX7) (T := TX7) (N := 15) hx hb hts hinX7 hown hK hP 0 rfl rfl 4 (by decide) hfl76 (fun _ h9 => h9) rfl dX7_winningTurns_15 ?_
        refine lv_if_ne (tgt := 41) hx hb dX7_winningTurns_18 (by decide) (fun c18 => ?_) (fun c18 => ?_)
        · exact absurd c18 (by decide)
        · refine lv_aload_n hx hb dX7_winningTurns_21 rfl (lv_at hl 0 rfl) ?_
          refine va_get (D := D) (ci := 4) (v := .ref ow) (C := RX7) (T := TX7) (N := 15) hx hb hts hinX7 hown hK hP 0 rfl rfl 1 (by decide) hfl7 (fun _ h9 => h9) rfl dX7_winningTurns_22 ?_
          refine lv_iconst (v := 1) hx hb dX7_winningTurns_25 (by decide) ?_
          refine va_lald hx hb hK hP 1 1 rfl rfl (vp_in_nI (n := 1) (N := 3) (by omega) (by decide)) dX7_winningTurns_26 ?_
          refine pk_tl (y := (fo 1)) (congrArg fo (pk_cl 1)) ?_
          refine lv_aload_n hx hb dX7_winningTurns_27 rfl (lv_at hl 0 rfl) ?_
          refine va_get (D := D) (ci := 4) (v := .ref ow) (C := RX7) (T := TX7) (N := 15) hx hb hts hinX7 hown hK hP 0 rfl rfl 1 (by decide) hfl7 (fun _ h9 => h9) rfl dX7_winningTurns_28 ?_
          refine lv_iconst (v := 2) hx hb dX7_winningTurns_31 (by decide) ?_
          refine va_lald hx hb hK hP 1 1 rfl rfl (vp_in_nI (n := 2) (N := 3) (by omega) (by decide)) dX7_winningTurns_32 ?_
          refine pk_tl (y := (fo 2)) (congrArg fo (pk_cl 2)) ?_
          refine lv_lor hx hb dX7_winningTurns_33 ?_
          refine lv_topl (fun x33 ex33 => ?_)
          refine lv_iload_n hx hb dX7_winningTurns_34 rfl (lv_at hl 1 rfl) ?_
          refine vp_callSi (W.runS (As := [.long x33, .int (nI j)]) (rest := []) ⟨hx, hb, hml, hown, hts⟩ (c_X7_has l x33 j (by omega)) (va_cwS 2 hts gX7_winningTurns_X7_has rfl rfl rfl (by decide +kernel) ⟨Nat.le_of_ble_eq_true rfl, Nat.le_of_ble_eq_true rfl⟩) ⟨px_blind0, fun U hU hW => ⟨rfl, trivial⟩⟩ rfl rfl hl.1 rfl (lv_room (Nat.le_of_ble_eq_true rfl)) dX7_winningTurns_35 ⟨(Nat.le_of_ble_eq_true rfl), (Nat.le_of_ble_eq_true rfl)⟩) (fun r35 er35 => ?_)
          obtain rfl := er35.symm
          refine pk_b (P := bt x33 j = true) (fun b35 => ?_) (fun b35 => ?_)
          · exact absurd (by obtain rfl := ex33.symm; exact b35) hf
          · refine lv_if_eq (tgt := 45) hx hb dX7_winningTurns_38 (by decide) (fun c38 => ?_) (fun c38 => ?_)
            · refine lv_iconst (v := 0) hx hb dX7_winningTurns_45 (by decide) ?_
              refine lv_istore_n (lv' := [(2, .int 0), (0, .ref h0), (1, .int (nI j))]) hx hb dX7_winningTurns_46 rfl hl (by decide) rfl (fun ls hl => ?_)
              refine lv_aload_n hx hb dX7_winningTurns_47 rfl (lv_at hl 1 rfl) ?_
              refine lv_iload_n hx hb dX7_winningTurns_48 rfl (lv_at hl 2 rfl) ?_
              refine vp_callSi (W.runS (As := [.int (nI j)]) (rest := [.ref h0]) ⟨hx, hb, hml, hown, hts⟩ (c_X7_isCell l (nI j)) (va_cwS 1 hts gX7_winningTurns_X7_isCell rfl rfl rfl (by decide +kernel) ⟨Nat.le_of_ble_eq_true rfl, Nat.le_of_ble_eq_true rfl⟩) ⟨px_blind0, fun U hU hW => ⟨rfl, trivial⟩⟩ rfl rfl hl.1 rfl (lv_room (Nat.le_of_ble_eq_true rfl)) dX7_winningTurns_49 ⟨(Nat.le_of_ble_eq_true rfl), (Nat.le_of_ble_eq_true rfl)⟩) (fun r49 er49 => ?_)
              obtain rfl := er49.symm
              refine pk_b (P := 0 ≤ (nI j) ∧ (nI j) ≤ 35) (fun b49 => ?_) (fun b49 => ?_)
              · refine lv_if_ne (tgt := 59) hx hb dX7_winningTurns_52 (by decide) (fun c52 => ?_) (fun c52 => ?_)
                · refine lv_iload_n hx hb dX7_winningTurns_59 rfl (lv_at hl 0 rfl) ?_
                  refine lv_if_eq (tgt := 67) hx hb dX7_winningTurns_60 (by decide) (fun c60 => ?_) (fun c60 => ?_)
                  · refine lv_iconst (v := 0) hx hb dX7_winningTurns_67 (by decide) ?_
                    have hPc := hP.sub (ws' := [(h0, .inr (4, [.int th, .ref ow, .int 0, .int 2, .int 0, .ref cl, .ref tu, .int (nI k), .ref lk, .ref f1, .ref s2, .ref ms, .ref nx, .ref bs, .int fd])), (ow, .inl (cJ, 3, .inr (.inl fo))), (cl, .inl (cI, 36, .inl cs)), (tu, .inl (cI, 36, .inl ts)), (lk, .inl (cJ, 3, .inr (.inl lo))), (f1, .inl (cJ, 6, .inr (.inl ff))), (s2, .inl (cJ, 6, .inr (.inl sf))), (ms, .inl (cI, 6, .inl mm)), (nx, .inl (cI, 6, .inl nf)), (bs, .inl (cI, 6, .inl bf))]) [0, 1, 2, 3, 4, 5, 6, 7, 8, 9] rfl
                    have hDc := hD.sub (ws' := [(h0, .inr (4, [.int th, .ref ow, .int 0, .int 2, .int 0, .ref cl, .ref tu, .int (nI k), .ref lk, .ref f1, .ref s2, .ref ms, .ref nx, .ref bs, .int fd])), (ow, .inl (cJ, 3, .inr (.inl fo))), (cl, .inl (cI, 36, .inl cs)), (tu, .inl (cI, 36, .inl ts)), (lk, .inl (cJ, 3, .inr (.inl lo))), (f1, .inl (cJ, 6, .inr (.inl ff))), (s2, .inl (cJ, 6, .inr (.inl sf))), (ms, .inl (cI, 6, .inl mm)), (nx, .inl (cI, 6, .inl nf)), (bs, .inl (cI, 6, .inl bf))]) [0, 1, 2, 3, 4, 5, 6, 7, 8, 9] (by decide) rfl
                    have hFc := va_free (wc := [(h0, .inr (4, [.int th, .ref ow, .int 0, .int 2, .int 0, .ref cl, .ref tu, .int (nI k), .ref lk, .ref f1, .ref s2, .ref ms, .ref nx, .ref bs, .int fd])), (ow, .inl (cJ, 3, .inr (.inl fo))), (cl, .inl (cI, 36, .inl cs)), (tu, .inl (cI, 36, .inl ts)), (lk, .inl (cJ, 3, .inr (.inl lo))), (f1, .inl (cJ, 6, .inr (.inl ff))), (s2, .inl (cJ, 6, .inr (.inl sf))), (ms, .inl (cI, 6, .inl mm)), (nx, .inl (cI, 6, .inl nf)), (bs, .inl (cI, 6, .inl bf))]) hD hS hA [0, 1, 2, 3, 4, 5, 6, 7, 8, 9] rfl
                    refine va_calli (va_runV (As := [.int 0]) (rest := []) ⟨hx, hb, hml, hown, hts⟩ (c_X7_goesWell l D cI cJ s.heap.size  h0 ow cl tu lk f1 s2 ms nx bs th 0 0 fd 2 k fo lo ff sf cs ts mm nf bf 0) (cwV 1 hts gX7_winningTurns_X7_goesWell rfl rfl rfl (by decide +kernel) ⟨Nat.le_of_ble_eq_true rfl, Nat.le_of_ble_eq_true rfl⟩) ⟨pv_blind, va_recv hK hPc (ci := 4) (q0 := 0) rfl rfl, fun U hU hW => ⟨rfl, by rw [hU], by rw [hU]; exact hPc, va_K.moved hW.alike hK, hDc.weaken (fun _ _ _ _ => trivial)⟩⟩ rfl rfl hl.1 rfl (lv_room (Nat.le_of_ble_eq_true rfl)) dX7_winningTurns_68 ⟨(Nat.le_of_ble_eq_true rfl), (Nat.le_of_ble_eq_true rfl)⟩) hS (fun q _ h => hFc q h) hFc (fun r68 u t9 H1 locs hth hvm hw68 hB hz1 hk1 hS => ?_)
                    try dsimp only at hw68
                    obtain ⟨hP1, hK1, hD1⟩ := hB
                    rw [hth] at hP1
                    obtain ⟨hP, hD⟩ := va_join (wr := []) (w1 := [(h0, .inr (4, [.int 0, .ref ow, .int 0, .int 2, .int 0, .ref cl, .ref tu, .int (nI k), .ref lk, .ref f1, .ref s2, .ref ms, .ref nx, .ref bs, .int fd])), (ow, .inl (cJ, 3, .inr (.inl fo))), (cl, .inl (cI, 36, .inl cs)), (tu, .inl (cI, 36, .inl ts)), (lk, .inl (cJ, 3, .inr (.inl lo))), (f1, .inl (cJ, 6, .inr (.inl ff))), (s2, .inl (cJ, 6, .inr (.inl sf))), (ms, .inl (cI, 6, .inl mm)), (nx, .inl (cI, 6, .inl nf)), (bs, .inl (cI, 6, .inl bf))]) hP hD [0, 1, 2, 3, 4, 5, 6, 7, 8, 9] [] rfl rfl (by decide) (by decide) hk1 hFc hP1 hD1
                    generalize H1 = H at hP hS ⊢
                    have hP : va_P D vwCl [(h0, .inr (4, [.int 0, .ref ow, .int 0, .int 2, .int 0, .ref cl, .ref tu, .int (nI k), .ref lk, .ref f1, .ref s2, .ref ms, .ref nx, .ref bs, .int fd])), (ow, .inl (cJ, 3, .inr (.inl fo))), (cl, .inl (cI, 36, .inl cs)), (tu, .inl (cI, 36, .inl ts)), (lk, .inl (cJ, 3, .inr (.inl lo))), (f1, .inl (cJ, 6, .inr (.inl ff))), (s2, .inl (cJ, 6, .inr (.inl sf))), (ms, .inl (cI, 6, .inl mm)), (nx, .inl (cI, 6, .inl nf)), (bs, .inl (cI, 6, .inl bf))] H := hP.sub (ws' := [(h0, .inr (4, [.int 0, .ref ow, .int 0, .int 2, .int 0, .ref cl, .ref tu, .int (nI k), .ref lk, .ref f1, .ref s2, .ref ms, .ref nx, .ref bs, .int fd])), (ow, .inl (cJ, 3, .inr (.inl fo))), (cl, .inl (cI, 36, .inl cs)), (tu, .inl (cI, 36, .inl ts)), (lk, .inl (cJ, 3, .inr (.inl lo))), (f1, .inl (cJ, 6, .inr (.inl ff))), (s2, .inl (cJ, 6, .inr (.inl sf))), (ms, .inl (cI, 6, .inl mm)), (nx, .inl (cI, 6, .inl nf)), (bs, .inl (cI, 6, .inl bf))]) [0, 1, 2, 3, 4, 5, 6, 7, 8, 9] rfl
                    have hD : va_D A [(h0, .inr (4, [.int 0, .ref ow, .int 0, .int 2, .int 0, .ref cl, .ref tu, .int (nI k), .ref lk, .ref f1, .ref s2, .ref ms, .ref nx, .ref bs, .int fd])), (ow, .inl (cJ, 3, .inr (.inl fo))), (cl, .inl (cI, 36, .inl cs)), (tu, .inl (cI, 36, .inl ts)), (lk, .inl (cJ, 3, .inr (.inl lo))), (f1, .inl (cJ, 6, .inr (.inl ff))), (s2, .inl (cJ, 6, .inr (.inl sf))), (ms, .inl (cI, 6, .inl mm)), (nx, .inl (cI, 6, .inl nf)), (bs, .inl (cI, 6, .inl bf))] := hD.sub (ws' := [(h0, .inr (4, [.int 0, .ref ow, .int 0, .int 2, .int 0, .ref cl, .ref tu, .int (nI k), .ref lk, .ref f1, .ref s2, .ref ms, .ref nx, .ref bs, .int fd])), (ow, .inl (cJ, 3, .inr (.inl fo))), (cl, .inl (cI, 36, .inl cs)), (tu, .inl (cI, 36, .inl ts)), (lk, .inl (cJ, 3, .inr (.inl lo))), (f1, .inl (cJ, 6, .inr (.inl ff))), (s2, .inl (cJ, 6, .inr (.inl sf))), (ms, .inl (cI, 6, .inl mm)), (nx, .inl (cI, 6, .inl nf)), (bs, .inl (cI, 6, .inl bf))]) [0, 1, 2, 3, 4, 5, 6, 7, 8, 9] (by decide) rfl
                    obtain rfl := hw68.symm
                    refine pk_ti (y := 1) (if_pos (by decide)) ?_
                    refine lv_if_ne (tgt := 76) hx hb dX7_winningTurns_71 (by decide) (fun c71 => ?_) (fun c71 => ?_)
                    · refine lv_aload_n hx hb dX7_winningTurns_76 rfl (lv_at hl 1 rfl) ?_
                      refine lv_iload_n hx hb dX7_winningTurns_77 rfl (lv_at hl 2 rfl) ?_
                      refine vp_callSi (W.runV (As := [.int (nI j)]) (rest := []) ⟨hx, hb, hml, hown, hts⟩ (c_X7_winsBy l D cI cJ h0 ow cl tu lk f1 s2 ms nx bs 0 0 0 fd 2 k fo lo ff sf cs ts mm nf bf (Or.inr rfl) (nI j)) (cwV 1 hts gX7_winningTurns_X7_winsBy rfl rfl rfl (by decide +kernel) ⟨Nat.le_of_ble_eq_true rfl, Nat.le_of_ble_eq_true rfl⟩) ⟨px_blindW, va_recv hK hP (ci := 4) (q0 := 0) rfl rfl, fun U hU hW => ⟨rfl, by rw [hU]; exact hP.sub (ws' := [(h0, .inr (4, [.int 0, .ref ow, .int 0, .int 2, .int 0, .ref cl, .ref tu, .int (nI k), .ref lk, .ref f1, .ref s2, .ref ms, .ref nx, .ref bs, .int fd])), (ow, .inl (cJ, 3, .inr (.inl fo))), (cl, .inl (cI, 36, .inl cs)), (tu, .inl (cI, 36, .inl ts)), (lk, .inl (cJ, 3, .inr (.inl lo))), (f1, .inl (cJ, 6, .inr (.inl ff))), (s2, .inl (cJ, 6, .inr (.inl sf))), (ms, .inl (cI, 6, .inl mm)), (nx, .inl (cI, 6, .inl nf)), (bs, .inl (cI, 6, .inl bf))]) [0, 1, 2, 3, 4, 5, 6, 7, 8, 9] rfl, va_K.moved hW.alike hK⟩⟩ rfl rfl hl.1 rfl (lv_room (Nat.le_of_ble_eq_true rfl)) dX7_winningTurns_78 ⟨(Nat.le_of_ble_eq_true rfl), (Nat.le_of_ble_eq_true rfl)⟩) (fun r78 er78 => ?_)
                      obtain rfl := er78.symm
                      refine pk_b (P := 0 < msum (fo 2 ||| jshl 1 (nI j)) 0 5 32) (fun b78 => ?_) (fun b78 => ?_)
                      · refine lv_if_eq (tgt := 87) hx hb dX7_winningTurns_81 (by decide) (fun c81 => ?_) (fun c81 => ?_)
                        · exact absurd c81 (by decide)
                        · refine lv_bipush (v := 8) hx hb dX7_winningTurns_84 (by decide) ?_
                          obtain rfl := ex33.symm
                          refine W.iret (v := 8) hx hb hr (fun tt ht hW => ⟨⟨8, lo, rfl, ?_, by rw [ht]; exact hP, va_K.moved hW.alike hK, hD⟩, hS.F ht⟩) hS.2.2 dX7_winningTurns_86
                          skip; first | exact (if_pos b78).symm | exact (if_neg b78).symm
                      · refine lv_if_eq (tgt := 87) hx hb dX7_winningTurns_81 (by decide) (fun c81 => ?_) (fun c81 => ?_)
                        · refine lv_iconst (v := 0) hx hb dX7_winningTurns_87 (by decide) ?_
                          refine lv_istore_n (lv' := [(3, .int 0), (2, .int 0), (0, .ref h0), (1, .int (nI j))]) hx hb dX7_winningTurns_88 rfl hl (by decide) rfl (fun ls hl => ?_)
                          refine lv_iconst (v := 0) hx hb dX7_winningTurns_89 (by decide) ?_
                          refine lv_istore (lv' := [(4, .int 0), (3, .int 0), (2, .int 0), (0, .ref h0), (1, .int (nI j))]) hx hb dX7_winningTurns_90 hl (by decide) rfl (fun ls hl => ?_)
                          have loop92 : ∀ (nn i92 : Nat), i92 + nn = 8 → ∀ (lo92 : Nat → Int64) (hlo : True) (H : Heap) (locs : List Loc), va_P D vwCl [(h0, .inr (4, [.int 0, .ref ow, .int 0, .int 2, .int 0, .ref cl, .ref tu, .int (nI k), .ref lk, .ref f1, .ref s2, .ref ms, .ref nx, .ref bs, .int fd])), (ow, .inl (cJ, 3, .inr (.inl fo))), (cl, .inl (cI, 36, .inl cs)), (tu, .inl (cI, 36, .inl ts)), (lk, .inl (cJ, 3, .inr (.inl lo92))), (f1, .inl (cJ, 6, .inr (.inl ff))), (s2, .inl (cJ, 6, .inr (.inl sf))), (ms, .inl (cI, 6, .inl mm)), (nx, .inl (cI, 6, .inl nf)), (bs, .inl (cI, 6, .inl bf))] H → va_D A [(h0, .inr (4, [.int 0, .ref ow, .int 0, .int 2, .int 0, .ref cl, .ref tu, .int (nI k), .ref lk, .ref f1, .ref s2, .ref ms, .ref nx, .ref bs, .int fd])), (ow, .inl (cJ, 3, .inr (.inl fo))), (cl, .inl (cI, 36, .inl cs)), (tu, .inl (cI, 36, .inl ts)), (lk, .inl (cJ, 3, .inr (.inl lo92))), (f1, .inl (cJ, 6, .inr (.inl ff))), (s2, .inl (cJ, 6, .inr (.inl sf))), (ms, .inl (cI, 6, .inl mm)), (nx, .inl (cI, 6, .inl nf)), (bs, .inl (cI, 6, .inl bf))] → va_S A s.heap H locs → ∀ ls, lv_has ls 5 [(4, .int (nI i92)), (3, .int (mwt (fo 1) (fo 2 ||| jshl 1 (nI j)) 2 i92)), (0, .ref h0), (1, .int (nI j))] → W p l e (headSpec wsX7_winningTurns ({ frames := 4, cells := 0, slots := 0, locals := 97 } : Room)).room s m ([.ref h0, .int (nI j)] : List Value).toArray below meth c H locs 0 0 (MQ below (va_Qi (fun (r : Int32) (u : (Nat → Int64)) => r = (if 0 < msum (fo 2 ||| jshl 1 (nI j)) 0 5 32 then 8 else mwt (fo 1) (fo 2 ||| jshl 1 (nI j)) 2 8)) (fun (u : (Nat → Int64)) => pv_B D cI cJ (A) [(h0, .inr (4, [.int 0, .ref ow, .int 0, .int 2, .int 0, .ref cl, .ref tu, .int (nI k), .ref lk, .ref f1, .ref s2, .ref ms, .ref nx, .ref bs, .int fd])), (ow, .inl (cJ, 3, .inr (.inl fo))), (cl, .inl (cI, 36, .inl cs)), (tu, .inl (cI, 36, .inl ts)), (lk, .inl (cJ, 3, .inr (.inl u))), (f1, .inl (cJ, 6, .inr (.inl ff))), (s2, .inl (cJ, 6, .inr (.inl sf))), (ms, .inl (cI, 6, .inl mm)), (nx, .inl (cI, 6, .inl nf)), (bs, .inl (cI, 6, .inl bf))]) (A)) ([.ref h0, .int (nI j)] : List Value).toArray s 0 0 A) (F0 m 92 ls []) := by
                            intro nn
                            induction nn with
                            | zero =>
                              intro i92 hi92 lo92 hlo H locs hP hD hS ls hl
                              obtain rfl : i92 = 8 := by omega
                              refine lv_iload hx hb dX7_winningTurns_92 (lv_at hl 0 rfl) ?_
                              refine lv_bipush (v := 8) hx hb dX7_winningTurns_94 (by decide) ?_
                              refine lv_icmp_ge (tgt := 201) hx hb dX7_winningTurns_96 (by decide) (fun c96 => ?_) (fun c96 => ?_)
                              · have c96 : 8 ≤ 8 := (nq_le (a := 8) (b := 8) (by omega) (by omega)).mp c96
                                refine lv_iload_n hx hb dX7_winningTurns_201 rfl (lv_at hl 1 rfl) ?_
                                refine W.iret (v := (mwt (fo 1) (fo 2 ||| jshl 1 (nI j)) 2 8)) hx hb hr (fun tt ht hW => ⟨⟨(mwt (fo 1) (fo 2 ||| jshl 1 (nI j)) 2 8), lo92, rfl, ?_, by rw [ht]; exact hP, va_K.moved hW.alike hK, hD⟩, hS.F ht⟩) hS.2.2 dX7_winningTurns_202
                                skip; first | exact (if_pos b78).symm | exact (if_neg b78).symm
                              · have c96 : ¬ 8 ≤ 8 := _root_.mt (nq_le (a := 8) (b := 8) (by omega) (by omega)).mpr c96
                                omega
                            | succ nn ih92 =>
                              intro i92 hi92 lo92 hlo H locs hP hD hS ls hl
                              refine lv_iload hx hb dX7_winningTurns_92 (lv_at hl 0 rfl) ?_
                              refine lv_bipush (v := 8) hx hb dX7_winningTurns_94 (by decide) ?_
                              refine lv_icmp_ge (tgt := 201) hx hb dX7_winningTurns_96 (by decide) (fun c96 => ?_) (fun c96 => ?_)
                              · have c96 : 8 ≤ i92 := (nq_le (a := 8) (b := i92) (by omega) (by omega)).mp c96
                                omega
                              · have c96 : ¬ 8 ≤ i92 := _root_.mt (nq_le (a := 8) (b := i92) (by omega) (by omega)).mpr c96
                                refine lv_aload_n hx hb dX7_winningTurns_99 rfl (lv_at hl 2 rfl) ?_
                                refine va_get (D := D) (ci := 4) (v := .ref lk) (C := RX7) (T := TX7) (N := 15) hx hb hts hinX7 hown hK hP 0 rfl rfl 8 (by decide) hfl24 (fun _ h9 => h9) rfl dX7_winningTurns_100 ?_
                                refine lv_aload_n hx hb dX7_winningTurns_103 rfl (lv_at hl 2 rfl) ?_
                                refine va_get (D := D) (ci := 4) (v := .int 2) (C := RX7) (T := TX7) (N := 15) hx hb hts hinX7 hown hK hP 0 rfl rfl 3 (by decide) hfl13 (fun _ h9 => h9) rfl dX7_winningTurns_104 ?_
                                refine lv_aload_n hx hb dX7_winningTurns_107 rfl (lv_at hl 2 rfl) ?_
                                refine va_get (D := D) (ci := 4) (v := .ref ow) (C := RX7) (T := TX7) (N := 15) hx hb hts hinX7 hown hK hP 0 rfl rfl 1 (by decide) hfl7 (fun _ h9 => h9) rfl dX7_winningTurns_108 ?_
                                refine lv_aload_n hx hb dX7_winningTurns_111 rfl (lv_at hl 2 rfl) ?_
                                refine va_get (D := D) (ci := 4) (v := .int 2) (C := RX7) (T := TX7) (N := 15) hx hb hts hinX7 hown hK hP 0 rfl rfl 3 (by decide) hfl13 (fun _ h9 => h9) rfl dX7_winningTurns_112 ?_
                                refine va_lald hx hb hK hP 1 1 rfl rfl (vp_in_nI (n := 2) (N := 3) (by omega) (by decide)) dX7_winningTurns_115 ?_
                                refine pk_tl (y := (fo 2)) (congrArg fo (pk_cl 2)) ?_
                                refine lv_lconst (v := 1) hx hb dX7_winningTurns_116 (by decide) ?_
                                refine lv_iload_n hx hb dX7_winningTurns_117 rfl (lv_at hl 3 rfl) ?_
                                refine lv_lshl (v := jshl 1 (nI j)) hx hb dX7_winningTurns_118 rfl ?_
                                refine lv_topl (fun x118 ex118 => ?_)
                                refine lv_lor hx hb dX7_winningTurns_119 ?_
                                refine lv_topl (fun x119 ex119 => ?_)
                                refine lv_iload hx hb dX7_winningTurns_120 (lv_at hl 0 rfl) ?_
                                refine lv_iconst (v := 2) hx hb dX7_winningTurns_122 (by decide) ?_
                                refine lv_idiv hx hb dX7_winningTurns_123 (by decide) ?_
                                refine pk_ti (y := nI (i92 / 2)) (pk_div (a := i92) (d := 2) (by omega) (by omega) (by omega)) ?_
                                refine lv_iload hx hb dX7_winningTurns_124 (lv_at hl 0 rfl) ?_
                                refine lv_iconst (v := 2) hx hb dX7_winningTurns_126 (by decide) ?_
                                refine lv_irem hx hb dX7_winningTurns_127 (by decide) ?_
                                refine pk_ti (y := nI (i92 % 2)) (pk_rem (a := i92) (d := 2) (by omega) (by omega) (by omega)) ?_
                                refine vp_callSl (W.runS (As := [.long x119, .int (nI (i92 / 2)), .int (nI (i92 % 2))]) (rest := [.int 2, .ref lk]) ⟨hx, hb, hml, hown, hts⟩ (c_X7_turned l x119 (i92 / 2) (i92 % 2) (by omega) (by omega)) (va_cwS 3 hts gX7_winningTurns_X7_turned rfl rfl rfl (by decide +kernel) ⟨Nat.le_of_ble_eq_true rfl, Nat.le_of_ble_eq_true rfl⟩) ⟨px_blind0, fun U hU hW => ⟨rfl, trivial⟩⟩ rfl rfl hl.1 rfl (lv_room (Nat.le_of_ble_eq_true rfl)) dX7_winningTurns_128 ⟨(Nat.le_of_ble_eq_true rfl), (Nat.le_of_ble_eq_true rfl)⟩) (fun r128 er128 => ?_)
                                obtain rfl := er128.symm
                                refine va_last hx hb hK hP hD hS 4 1 rfl rfl (vp_in_nI (n := 2) (N := 3) (by omega) (by decide)) dX7_winningTurns_131 (fun H locs hP hD hS => ?_)
                                have hu131 : (2 : Int32).toNatClampNeg = 2 := pk_cl 2
                                rw [hu131] at hP hD
                                have hP : va_P D vwCl [(h0, .inr (4, [.int 0, .ref ow, .int 0, .int 2, .int 0, .ref cl, .ref tu, .int (nI k), .ref lk, .ref f1, .ref s2, .ref ms, .ref nx, .ref bs, .int fd])), (ow, .inl (cJ, 3, .inr (.inl fo))), (cl, .inl (cI, 36, .inl cs)), (tu, .inl (cI, 36, .inl ts)), (lk, .inl (cJ, 3, .inr (.inl (vp_updL lo92 2 (mturned x119 (i92 / 2) (i92 % 2)))))), (f1, .inl (cJ, 6, .inr (.inl ff))), (s2, .inl (cJ, 6, .inr (.inl sf))), (ms, .inl (cI, 6, .inl mm)), (nx, .inl (cI, 6, .inl nf)), (bs, .inl (cI, 6, .inl bf))] H := hP
                                have hD : va_D A [(h0, .inr (4, [.int 0, .ref ow, .int 0, .int 2, .int 0, .ref cl, .ref tu, .int (nI k), .ref lk, .ref f1, .ref s2, .ref ms, .ref nx, .ref bs, .int fd])), (ow, .inl (cJ, 3, .inr (.inl fo))), (cl, .inl (cI, 36, .inl cs)), (tu, .inl (cI, 36, .inl ts)), (lk, .inl (cJ, 3, .inr (.inl (vp_updL lo92 2 (mturned x119 (i92 / 2) (i92 % 2)))))), (f1, .inl (cJ, 6, .inr (.inl ff))), (s2, .inl (cJ, 6, .inr (.inl sf))), (ms, .inl (cI, 6, .inl mm)), (nx, .inl (cI, 6, .inl nf)), (bs, .inl (cI, 6, .inl bf))] := hD
                                refine lv_aload_n hx hb dX7_winningTurns_132 rfl (lv_at hl 2 rfl) ?_
                                refine va_get (D := D) (ci := 4) (v := .ref lk) (C := RX7) (T := TX7) (N := 15) hx hb hts hinX7 hown hK hP 0 rfl rfl 8 (by decide) hfl24 (fun _ h9 => h9) rfl dX7_winningTurns_133 ?_
                                refine lv_iconst (v := 3) hx hb dX7_winningTurns_136 (by decide) ?_
                                refine lv_aload_n hx hb dX7_winningTurns_137 rfl (lv_at hl 2 rfl) ?_
                                refine va_get (D := D) (ci := 4) (v := .int 2) (C := RX7) (T := TX7) (N := 15) hx hb hts hinX7 hown hK hP 0 rfl rfl 3 (by decide) hfl13 (fun _ h9 => h9) rfl dX7_winningTurns_138 ?_
                                refine lv_isub hx hb dX7_winningTurns_141 ?_
                                refine pk_ti (y := 1) (by decide) ?_
                                refine lv_aload_n hx hb dX7_winningTurns_142 rfl (lv_at hl 2 rfl) ?_
                                refine va_get (D := D) (ci := 4) (v := .ref ow) (C := RX7) (T := TX7) (N := 15) hx hb hts hinX7 hown hK hP 0 rfl rfl 1 (by decide) hfl7 (fun _ h9 => h9) rfl dX7_winningTurns_143 ?_
                                refine lv_iconst (v := 3) hx hb dX7_winningTurns_146 (by decide) ?_
                                refine lv_aload_n hx hb dX7_winningTurns_147 rfl (lv_at hl 2 rfl) ?_
                                refine va_get (D := D) (ci := 4) (v := .int 2) (C := RX7) (T := TX7) (N := 15) hx hb hts hinX7 hown hK hP 0 rfl rfl 3 (by decide) hfl13 (fun _ h9 => h9) rfl dX7_winningTurns_148 ?_
                                refine lv_isub hx hb dX7_winningTurns_151 ?_
                                refine pk_ti (y := 1) (by decide) ?_
                                refine va_lald hx hb hK hP 1 1 rfl rfl (vp_in_nI (n := 1) (N := 3) (by omega) (by decide)) dX7_winningTurns_152 ?_
                                refine pk_tl (y := (fo 1)) (congrArg fo (pk_cl 1)) ?_
                                refine lv_iload hx hb dX7_winningTurns_153 (lv_at hl 0 rfl) ?_
                                refine lv_iconst (v := 2) hx hb dX7_winningTurns_155 (by decide) ?_
                                refine lv_idiv hx hb dX7_winningTurns_156 (by decide) ?_
                                refine pk_ti (y := nI (i92 / 2)) (pk_div (a := i92) (d := 2) (by omega) (by omega) (by omega)) ?_
                                refine lv_iload hx hb dX7_winningTurns_157 (lv_at hl 0 rfl) ?_
                                refine lv_iconst (v := 2) hx hb dX7_winningTurns_159 (by decide) ?_
                                refine lv_irem hx hb dX7_winningTurns_160 (by decide) ?_
                                refine pk_ti (y := nI (i92 % 2)) (pk_rem (a := i92) (d := 2) (by omega) (by omega) (by omega)) ?_
                                refine vp_callSl (W.runS (As := [.long (fo 1), .int (nI (i92 / 2)), .int (nI (i92 % 2))]) (rest := [.int 1, .ref lk]) ⟨hx, hb, hml, hown, hts⟩ (c_X7_turned l (fo 1) (i92 / 2) (i92 % 2) (by omega) (by omega)) (va_cwS 3 hts gX7_winningTurns_X7_turned rfl rfl rfl (by decide +kernel) ⟨Nat.le_of_ble_eq_true rfl, Nat.le_of_ble_eq_true rfl⟩) ⟨px_blind0, fun U hU hW => ⟨rfl, trivial⟩⟩ rfl rfl hl.1 rfl (lv_room (Nat.le_of_ble_eq_true rfl)) dX7_winningTurns_161 ⟨(Nat.le_of_ble_eq_true rfl), (Nat.le_of_ble_eq_true rfl)⟩) (fun r161 er161 => ?_)
                                obtain rfl := er161.symm
                                refine va_last hx hb hK hP hD hS 4 1 rfl rfl (vp_in_nI (n := 1) (N := 3) (by omega) (by decide)) dX7_winningTurns_164 (fun H locs hP hD hS => ?_)
                                have hu164 : (1 : Int32).toNatClampNeg = 1 := pk_cl 1
                                rw [hu164] at hP hD
                                have hP : va_P D vwCl [(h0, .inr (4, [.int 0, .ref ow, .int 0, .int 2, .int 0, .ref cl, .ref tu, .int (nI k), .ref lk, .ref f1, .ref s2, .ref ms, .ref nx, .ref bs, .int fd])), (ow, .inl (cJ, 3, .inr (.inl fo))), (cl, .inl (cI, 36, .inl cs)), (tu, .inl (cI, 36, .inl ts)), (lk, .inl (cJ, 3, .inr (.inl (vp_updL (vp_updL lo92 2 (mturned x119 (i92 / 2) (i92 % 2))) 1 (mturned (fo 1) (i92 / 2) (i92 % 2)))))), (f1, .inl (cJ, 6, .inr (.inl ff))), (s2, .inl (cJ, 6, .inr (.inl sf))), (ms, .inl (cI, 6, .inl mm)), (nx, .inl (cI, 6, .inl nf)), (bs, .inl (cI, 6, .inl bf))] H := hP
                                have hD : va_D A [(h0, .inr (4, [.int 0, .ref ow, .int 0, .int 2, .int 0, .ref cl, .ref tu, .int (nI k), .ref lk, .ref f1, .ref s2, .ref ms, .ref nx, .ref bs, .int fd])), (ow, .inl (cJ, 3, .inr (.inl fo))), (cl, .inl (cI, 36, .inl cs)), (tu, .inl (cI, 36, .inl ts)), (lk, .inl (cJ, 3, .inr (.inl (vp_updL (vp_updL lo92 2 (mturned x119 (i92 / 2) (i92 % 2))) 1 (mturned (fo 1) (i92 / 2) (i92 % 2)))))), (f1, .inl (cJ, 6, .inr (.inl ff))), (s2, .inl (cJ, 6, .inr (.inl sf))), (ms, .inl (cI, 6, .inl mm)), (nx, .inl (cI, 6, .inl nf)), (bs, .inl (cI, 6, .inl bf))] := hD
                                refine lv_iload_n hx hb dX7_winningTurns_165 rfl (lv_at hl 1 rfl) ?_
                                refine lv_aload_n hx hb dX7_winningTurns_166 rfl (lv_at hl 2 rfl) ?_
                                refine va_get (D := D) (ci := 4) (v := .ref lk) (C := RX7) (T := TX7) (N := 15) hx hb hts hinX7 hown hK hP 0 rfl rfl 8 (by decide) hfl24 (fun _ h9 => h9) rfl dX7_winningTurns_167 ?_
                                refine lv_iconst (v := 1) hx hb dX7_winningTurns_170 (by decide) ?_
                                refine va_lald hx hb hK hP 4 1 rfl rfl (vp_in_nI (n := 1) (N := 3) (by omega) (by decide)) dX7_winningTurns_171 ?_
                                refine pk_tl (y := (mturned (fo 1) (i92 / 2) (i92 % 2))) ((congrArg (vp_updL (vp_updL lo92 2 (mturned x119 (i92 / 2) (i92 % 2))) 1 (mturned (fo 1) (i92 / 2) (i92 % 2))) (pk_cl 1)).trans (pk_uLs)) ?_
                                refine lv_aload_n hx hb dX7_winningTurns_172 rfl (lv_at hl 2 rfl) ?_
                                refine va_get (D := D) (ci := 4) (v := .ref lk) (C := RX7) (T := TX7) (N := 15) hx hb hts hinX7 hown hK hP 0 rfl rfl 8 (by decide) hfl24 (fun _ h9 => h9) rfl dX7_winningTurns_173 ?_
                                refine lv_iconst (v := 2) hx hb dX7_winningTurns_176 (by decide) ?_
                                refine va_lald hx hb hK hP 4 1 rfl rfl (vp_in_nI (n := 2) (N := 3) (by omega) (by decide)) dX7_winningTurns_177 ?_
                                refine pk_tl (y := (mturned x119 (i92 / 2) (i92 % 2))) ((congrArg (vp_updL (vp_updL lo92 2 (mturned x119 (i92 / 2) (i92 % 2))) 1 (mturned (fo 1) (i92 / 2) (i92 % 2))) (pk_cl 2)).trans ((pk_uLn (by decide)).trans (pk_uLs))) ?_
                                refine vp_callSi (W.runS (As := [.long (mturned (fo 1) (i92 / 2) (i92 % 2)), .long (mturned x119 (i92 / 2) (i92 % 2))]) (rest := [.int (mwt (fo 1) (fo 2 ||| jshl 1 (nI j)) 2 i92)]) ⟨hx, hb, hml, hown, hts⟩ (c_X7_judge l (mturned (fo 1) (i92 / 2) (i92 % 2)) (mturned x119 (i92 / 2) (i92 % 2))) (va_cwS 2 hts gX7_winningTurns_X7_judge rfl rfl rfl (by decide +kernel) ⟨Nat.le_of_ble_eq_true rfl, Nat.le_of_ble_eq_true rfl⟩) ⟨px_blind0, fun U hU hW => ⟨rfl, trivial⟩⟩ rfl rfl hl.1 rfl (lv_room (Nat.le_of_ble_eq_true rfl)) dX7_winningTurns_178 ⟨(Nat.le_of_ble_eq_true rfl), (Nat.le_of_ble_eq_true rfl)⟩) (fun r178 er178 => ?_)
                                obtain rfl := er178.symm
                                refine lv_aload_n hx hb dX7_winningTurns_181 rfl (lv_at hl 2 rfl) ?_
                                refine va_get (D := D) (ci := 4) (v := .int 2) (C := RX7) (T := TX7) (N := 15) hx hb hts hinX7 hown hK hP 0 rfl rfl 3 (by decide) hfl13 (fun _ h9 => h9) rfl dX7_winningTurns_182 ?_
                                refine lv_icmp_ne (tgt := 192) hx hb dX7_winningTurns_185 (by decide) (fun c185 => ?_) (fun c185 => ?_)
                                · refine lv_iconst (v := 0) hx hb dX7_winningTurns_192 (by decide) ?_
                                  refine lv_iadd hx hb dX7_winningTurns_193 ?_
                                  refine lv_topi (fun x193 ex193 => ?_)
                                  refine lv_istore_n (lv' := [(3, .int x193), (4, .int (nI i92)), (0, .ref h0), (1, .int (nI j))]) hx hb dX7_winningTurns_194 rfl hl (by decide) rfl (fun ls hl => ?_)
                                  refine lv_iinc (v := nI (i92 + 1)) (lv' := [(4, .int (nI (i92 + 1))), (3, .int x193), (0, .ref h0), (1, .int (nI j))]) hx hb dX7_winningTurns_195 hl (k := 1) rfl (nI_add i92 1) (by decide) rfl (fun ls hl => ?_)
                                  refine lv_goto (tgt := 92) hx hb dX7_winningTurns_198 (by decide) ?_
                                  exact ih92 (i92 + 1) (by omega) _ trivial _ _ hP hD hS ls (by { have e9 : (x193 : Int32) = (mwt (fo 1) (fo 2 ||| jshl 1 (nI j)) 2 (i92 + 1)) := by { obtain rfl := ex118.symm; obtain rfl := ex119.symm; obtain rfl := ex193.symm; first | exact mwt_1 c185 | exact mwt_2 c185 }; rw [← e9]; exact lv_sub hl [0, 1, 2, 3] rfl })
                                · refine lv_iconst (v := 1) hx hb dX7_winningTurns_188 (by decide) ?_
                                  refine lv_goto (tgt := 193) hx hb dX7_winningTurns_189 (by decide) ?_
                                  refine lv_iadd hx hb dX7_winningTurns_193 ?_
                                  refine lv_topi (fun x193 ex193 => ?_)
                                  refine lv_istore_n (lv' := [(3, .int x193), (4, .int (nI i92)), (0, .ref h0), (1, .int (nI j))]) hx hb dX7_winningTurns_194 rfl hl (by decide) rfl (fun ls hl => ?_)
                                  refine lv_iinc (v := nI (i92 + 1)) (lv' := [(4, .int (nI (i92 + 1))), (3, .int x193), (0, .ref h0), (1, .int (nI j))]) hx hb dX7_winningTurns_195 hl (k := 1) rfl (nI_add i92 1) (by decide) rfl (fun ls hl => ?_)
                                  refine lv_goto (tgt := 92) hx hb dX7_winningTurns_198 (by decide) ?_
                                  exact ih92 (i92 + 1) (by omega) _ trivial _ _ hP hD hS ls (by { have e9 : (x193 : Int32) = (mwt (fo 1) (fo 2 ||| jshl 1 (nI j)) 2 (i92 + 1)) := by { obtain rfl := ex118.symm; obtain rfl := ex119.symm; obtain rfl := ex193.symm; first | exact mwt_1 c185 | exact mwt_2 c185 }; rw [← e9]; exact lv_sub hl [0, 1, 2, 3] rfl })
                          exact loop92 8 0 (by omega) _ trivial _ _ hP hD hS ls (lv_sub hl [0, 1, 3, 4] rfl)
                        · exact absurd c81 (by decide)
                    · exact absurd c71 (by decide)
                  · exact absurd c60 (by decide)
                · exact absurd c52 (by decide)
              · exact absurd (cell_ok hj) b49
            · exact absurd c38 (by decide)
  · exact absurd (cell_ok hj) b1
