theorem has_iff (a : Int64) {i : Nat} (hi : i < 64) : (jshr a (nI i) &&& 1) = 1 ↔ bt a i = true := by
  rw [and1, bt_shr a hi (by omega : i + 0 < 64)]
  show (if bt a i = true then (1 : Int64) else 0) = 1 ↔ _
  split
  · rename_i h; simp [h]
  · rename_i h; simp [h]

set_option maxHeartbeats 400000 in
set_option maxRecDepth 100000 in
theorem c_X7_has (l : Launch) (a : Int64) (i : Nat) (hi : i < 64) : Met l yX7_has wsX7_has ({ frames := 0, cells := 0, slots := 0, locals := 0 } : Room) (va_Pc [.long a, .int (nI i)] (fun _ => True)) (vp_Si (fun r => r = if bt a i = true then 1 else 0)) 0 0 (fun _ => False) := by
  refine Met.ofW (cc := cX7_has) (maxL := 3) (ret := (some .boolean)) (by decide) rfl ?_
  intro p e s m args below meth c s₁ B hml hv
  obtain ⟨rfl, -⟩ := hv
  have hx := B.exec
  have hb := B.bytes
  have hr := B.returns
  have hts := atoms_spec (ws := wsX7_has) B.pre
  have hown : s.vm.findClass RX7 = some m.cls := findClass_of_methodNamed B.named
  have hlocks := B.notSynchronized
  have hl := lv_entry ([.long a, .int (nI i)]) (n := 3) (Nat.le_of_ble_eq_true rfl)
  rw [lg_entry_eq]
  generalize (lg_sl ([.long a, .int (nI i)]) ++ List.replicate (3 - (lg_sl ([.long a, .int (nI i)])).length) Slot.unset).toArray = ls at hl ⊢
  have hl : lv_has ls 3 [(0, .long a), (2, .int (nI i))] := hl
  refine lv_lload_n hx hb dX7_has_0 rfl (lv_at hl 0 rfl) ?_
  refine lv_iload_n hx hb dX7_has_1 rfl (lv_at hl 1 rfl) ?_
  refine lv_lshr (v := jshr a (nI i)) hx hb dX7_has_2 rfl ?_
  refine lv_topl (fun x2 ex2 => ?_)
  refine lv_lconst (v := 1) hx hb dX7_has_3 (by decide) ?_
  refine lv_land hx hb dX7_has_4 ?_
  refine lv_topl (fun x4 ex4 => ?_)
  refine lv_lconst (v := 1) hx hb dX7_has_5 (by decide) ?_
  refine W.lcmp hx hb dX7_has_6 ?_
  refine lv_if_ne (tgt := 14) hx hb dX7_has_7 (by decide) (fun c7 => ?_) (fun c7 => ?_)
  · rw [lg_cmp_eq] at c7
    refine lv_iconst (v := 0) hx hb dX7_has_14 (by decide) ?_
    refine W.zret (v := 0) hx hb hr (rfl) (fun tt ht hW => ⟨0, rfl, ?_, ht⟩) (fun _ h => nomatch h) dX7_has_15
    obtain rfl := ex2.symm; obtain rfl := ex4.symm; rw [has_iff a hi] at c7; exact (if_neg c7).symm
  · rw [lg_cmp_eq] at c7
    refine lv_iconst (v := 1) hx hb dX7_has_10 (by decide) ?_
    refine lv_goto (tgt := 15) hx hb dX7_has_11 (by decide) ?_
    refine W.zret (v := 1) hx hb hr (rfl) (fun tt ht hW => ⟨1, rfl, ?_, ht⟩) (fun _ h => nomatch h) dX7_has_15
    obtain rfl := ex2.symm; obtain rfl := ex4.symm; rw [has_iff a hi] at c7; exact (if_pos c7).symm

set_option maxHeartbeats 400000 in
set_option maxRecDepth 100000 in
theorem c_X7_in (l : Launch) (v a b : Int32) : Met l yX7_in wsX7_in ({ frames := 0, cells := 0, slots := 0, locals := 0 } : Room) (va_Pc [.int v, .int a, .int b] (fun _ => True)) (vp_Si (fun r => r = if a ≤ v ∧ v ≤ b then 1 else 0)) 0 0 (fun _ => False) := by
  refine Met.ofW (cc := cX7_in) (maxL := 3) (ret := (some .boolean)) (by decide) rfl ?_
  intro p e s m args below meth c s₁ B hml hv
  obtain ⟨rfl, -⟩ := hv
  have hx := B.exec
  have hb := B.bytes
  have hr := B.returns
  have hts := atoms_spec (ws := wsX7_in) B.pre
  have hown : s.vm.findClass RX7 = some m.cls := findClass_of_methodNamed B.named
  have hlocks := B.notSynchronized
  have hl := lv_entry ([.int v, .int a, .int b]) (n := 3) (Nat.le_of_ble_eq_true rfl)
  rw [lg_entry_eq]
  generalize (lg_sl ([.int v, .int a, .int b]) ++ List.replicate (3 - (lg_sl ([.int v, .int a, .int b])).length) Slot.unset).toArray = ls at hl ⊢
  have hl : lv_has ls 3 [(0, .int v), (1, .int a), (2, .int b)] := hl
  refine lv_iload_n hx hb dX7_in_0 rfl (lv_at hl 0 rfl) ?_
  refine lv_iload_n hx hb dX7_in_1 rfl (lv_at hl 1 rfl) ?_
  refine lv_icmp_lt (tgt := 14) hx hb dX7_in_2 (by decide) (fun c2 => ?_) (fun c2 => ?_)
  · refine lv_iconst (v := 0) hx hb dX7_in_14 (by decide) ?_
    refine W.zret (v := 0) hx hb hr (rfl) (fun tt ht hW => ⟨0, rfl, ?_, ht⟩) (fun _ h => nomatch h) dX7_in_15
    (try simp only [Int32.lt_iff_toInt_lt, Int32.le_iff_toInt_le] at c2); (try simp only [Int32.lt_iff_toInt_lt, Int32.le_iff_toInt_le] at c7); simp only [Int32.lt_iff_toInt_lt, Int32.le_iff_toInt_le]; split <;> first | rfl | omega
  · refine lv_iload_n hx hb dX7_in_5 rfl (lv_at hl 0 rfl) ?_
    refine lv_iload_n hx hb dX7_in_6 rfl (lv_at hl 2 rfl) ?_
    refine lv_icmp_gt (tgt := 14) hx hb dX7_in_7 (by decide) (fun c7 => ?_) (fun c7 => ?_)
    · refine lv_iconst (v := 0) hx hb dX7_in_14 (by decide) ?_
      refine W.zret (v := 0) hx hb hr (rfl) (fun tt ht hW => ⟨0, rfl, ?_, ht⟩) (fun _ h => nomatch h) dX7_in_15
      (try simp only [Int32.lt_iff_toInt_lt, Int32.le_iff_toInt_le] at c2); (try simp only [Int32.lt_iff_toInt_lt, Int32.le_iff_toInt_le] at c7); simp only [Int32.lt_iff_toInt_lt, Int32.le_iff_toInt_le]; split <;> first | rfl | omega
    · refine lv_iconst (v := 1) hx hb dX7_in_10 (by decide) ?_
      refine lv_goto (tgt := 15) hx hb dX7_in_11 (by decide) ?_
      refine W.zret (v := 1) hx hb hr (rfl) (fun tt ht hW => ⟨1, rfl, ?_, ht⟩) (fun _ h => nomatch h) dX7_in_15
      (try simp only [Int32.lt_iff_toInt_lt, Int32.le_iff_toInt_le] at c2); (try simp only [Int32.lt_iff_toInt_lt, Int32.le_iff_toInt_le] at c7); simp only [Int32.lt_iff_toInt_lt, Int32.le_iff_toInt_le]; split <;> first | rfl | omega

set_option maxHeartbeats 400000 in
set_option maxRecDepth 100000 in
theorem c_X7_isCell (l : Launch) (v : Int32) : Met l yX7_isCell wsX7_isCell ({ frames := 1, cells := 0, slots := 0, locals := 22 } : Room) (va_Pc [.int v] (fun _ => True)) (vp_Si (fun r => r = if 0 ≤ v ∧ v ≤ 35 then 1 else 0)) 0 0 (fun _ => False) := by
  refine Met.ofW (cc := cX7_isCell) (maxL := 1) (ret := (some .boolean)) (by decide) rfl ?_
  intro p e s m args below meth c s₁ B hml hv
  obtain ⟨rfl, -⟩ := hv
  have hx := B.exec
  have hb := B.bytes
  have hr := B.returns
  have hts := atoms_spec (ws := wsX7_isCell) B.pre
  have hown : s.vm.findClass RX7 = some m.cls := findClass_of_methodNamed B.named
  have hlocks := B.notSynchronized
  have hl := lv_entry ([.int v]) (n := 1) (Nat.le_of_ble_eq_true rfl)
  rw [lg_entry_eq]
  generalize (lg_sl ([.int v]) ++ List.replicate (1 - (lg_sl ([.int v])).length) Slot.unset).toArray = ls at hl ⊢
  have hl : lv_has ls 1 [(0, .int v)] := hl
  refine lv_iload_n hx hb dX7_isCell_0 rfl (lv_at hl 0 rfl) ?_
  refine lv_iconst (v := 0) hx hb dX7_isCell_1 (by decide) ?_
  refine lv_bipush (v := 35) hx hb dX7_isCell_2 (by decide) ?_
  refine vp_callSi (W.runS (As := [.int v, .int 0, .int 35]) (rest := []) ⟨hx, hb, hml, hown, hts⟩ (c_X7_in l v 0 35) (va_cwS 3 hts gX7_isCell_X7_in rfl rfl rfl (by decide +kernel) ⟨Nat.le_of_ble_eq_true rfl, Nat.le_of_ble_eq_true rfl⟩) ⟨px_blind0, fun U hU hW => ⟨rfl, trivial⟩⟩ rfl rfl hl.1 rfl (lv_room (Nat.le_of_ble_eq_true rfl)) dX7_isCell_4 ⟨(Nat.le_of_ble_eq_true rfl), (Nat.le_of_ble_eq_true rfl)⟩) (fun r4 er4 => ?_)
  obtain rfl := er4.symm
  refine W.zret (v := (if 0 ≤ v ∧ v ≤ 35 then 1 else 0)) hx hb hr (nb_if) (fun tt ht hW => ⟨(if 0 ≤ v ∧ v ≤ 35 then 1 else 0), rfl, ?_, ht⟩) (fun _ h => nomatch h) dX7_isCell_7
  rfl

set_option maxHeartbeats 400000 in
set_option maxRecDepth 100000 in
theorem c_X7_isSide (l : Launch) (v : Int32) : Met l yX7_isSide wsX7_isSide ({ frames := 1, cells := 0, slots := 0, locals := 22 } : Room) (va_Pc [.int v] (fun _ => True)) (vp_Si (fun r => r = if 1 ≤ v ∧ v ≤ 2 then 1 else 0)) 0 0 (fun _ => False) := by
  refine Met.ofW (cc := cX7_isSide) (maxL := 1) (ret := (some .boolean)) (by decide) rfl ?_
  intro p e s m args below meth c s₁ B hml hv
  obtain ⟨rfl, -⟩ := hv
  have hx := B.exec
  have hb := B.bytes
  have hr := B.returns
  have hts := atoms_spec (ws := wsX7_isSide) B.pre
  have hown : s.vm.findClass RX7 = some m.cls := findClass_of_methodNamed B.named
  have hlocks := B.notSynchronized
  have hl := lv_entry ([.int v]) (n := 1) (Nat.le_of_ble_eq_true rfl)
  rw [lg_entry_eq]
  generalize (lg_sl ([.int v]) ++ List.replicate (1 - (lg_sl ([.int v])).length) Slot.unset).toArray = ls at hl ⊢
  have hl : lv_has ls 1 [(0, .int v)] := hl
  refine lv_iload_n hx hb dX7_isSide_0 rfl (lv_at hl 0 rfl) ?_
  refine lv_iconst (v := 1) hx hb dX7_isSide_1 (by decide) ?_
  refine lv_iconst (v := 2) hx hb dX7_isSide_2 (by decide) ?_
  refine vp_callSi (W.runS (As := [.int v, .int 1, .int 2]) (rest := []) ⟨hx, hb, hml, hown, hts⟩ (c_X7_in l v 1 2) (va_cwS 3 hts gX7_isSide_X7_in rfl rfl rfl (by decide +kernel) ⟨Nat.le_of_ble_eq_true rfl, Nat.le_of_ble_eq_true rfl⟩) ⟨px_blind0, fun U hU hW => ⟨rfl, trivial⟩⟩ rfl rfl hl.1 rfl (lv_room (Nat.le_of_ble_eq_true rfl)) dX7_isSide_3 ⟨(Nat.le_of_ble_eq_true rfl), (Nat.le_of_ble_eq_true rfl)⟩) (fun r3 er3 => ?_)
  obtain rfl := er3.symm
  refine W.zret (v := (if 1 ≤ v ∧ v ≤ 2 then 1 else 0)) hx hb hr (nb_if) (fun tt ht hW => ⟨(if 1 ≤ v ∧ v ≤ 2 then 1 else 0), rfl, ?_, ht⟩) (fun _ h => nomatch h) dX7_isSide_6
  rfl

set_option maxHeartbeats 400000 in
set_option maxRecDepth 100000 in
theorem c_X7_cellOf (l : Launch) (pl k : Nat) (hp : pl < 32) (hk : k < 5) : Met l yX7_cellOf wsX7_cellOf ({ frames := 0, cells := 0, slots := 0, locals := 0 } : Room) (va_Pc [.int (nI pl), .int (nI k)] (fun _ => True)) (vp_Si (fun r => r = nI (mcell pl k))) 0 0 (fun _ => False) := by
  refine Met.ofW (cc := cX7_cellOf) (maxL := 3) (ret := (some .int)) (by decide) rfl ?_
  intro p e s m args below meth c s₁ B hml hv
  obtain ⟨rfl, -⟩ := hv
  have hx := B.exec
  have hb := B.bytes
  have hr := B.returns
  have hts := atoms_spec (ws := wsX7_cellOf) B.pre
  have hown : s.vm.findClass RX7 = some m.cls := findClass_of_methodNamed B.named
  have hlocks := B.notSynchronized
  have hl := lv_entry ([.int (nI pl), .int (nI k)]) (n := 3) (Nat.le_of_ble_eq_true rfl)
  rw [lg_entry_eq]
  generalize (lg_sl ([.int (nI pl), .int (nI k)]) ++ List.replicate (3 - (lg_sl ([.int (nI pl), .int (nI k)])).length) Slot.unset).toArray = ls at hl ⊢
  have hl : lv_has ls 3 [(0, .int (nI pl)), (1, .int (nI k))] := hl
  refine lv_iload_n hx hb dX7_cellOf_0 rfl (lv_at hl 0 rfl) ?_
  refine lv_bipush (v := 12) hx hb dX7_cellOf_1 (by decide) ?_
  refine lv_icmp_ge (tgt := 19) hx hb dX7_cellOf_3 (by decide) (fun c3 => ?_) (fun c3 => ?_)
  · have c3 : 12 ≤ pl := (nq_le (a := 12) (b := pl) (by omega) (by omega)).mp c3
    refine lv_iload_n hx hb dX7_cellOf_19 rfl (lv_at hl 0 rfl) ?_
    refine lv_bipush (v := 24) hx hb dX7_cellOf_20 (by decide) ?_
    refine lv_icmp_ge (tgt := 44) hx hb dX7_cellOf_22 (by decide) (fun c22 => ?_) (fun c22 => ?_)
    · have c22 : 24 ≤ pl := (nq_le (a := 24) (b := pl) (by omega) (by omega)).mp c22
      refine lv_iload_n hx hb dX7_cellOf_44 rfl (lv_at hl 0 rfl) ?_
      refine lv_bipush (v := 24) hx hb dX7_cellOf_45 (by decide) ?_
      refine lv_isub hx hb dX7_cellOf_47 ?_
      refine pk_ti (y := nI (pl - 24)) (pk_sub (a := pl) (b := 24) (by omega)) ?_
      refine lv_iconst (v := 2) hx hb dX7_cellOf_48 (by decide) ?_
      refine lv_idiv hx hb dX7_cellOf_49 (by decide) ?_
      refine pk_ti (y := nI ((pl - 24) / 2)) (pk_div (a := (pl - 24)) (d := 2) (by omega) (by omega) (by omega)) ?_
      refine lv_iconst (v := 2) hx hb dX7_cellOf_50 (by decide) ?_
      refine lv_irem hx hb dX7_cellOf_51 (by decide) ?_
      refine pk_ti (y := nI (((pl - 24) / 2) % 2)) (pk_rem (a := ((pl - 24) / 2)) (d := 2) (by omega) (by omega) (by omega)) ?_
      refine lv_iload_n hx hb dX7_cellOf_52 rfl (lv_at hl 1 rfl) ?_
      refine lv_iadd hx hb dX7_cellOf_53 ?_
      refine pk_ti (y := nI ((((pl - 24) / 2) % 2) + k)) (nI_add (((pl - 24) / 2) % 2) k) ?_
      refine lv_istore_n (lv' := [(2, .int (nI ((((pl - 24) / 2) % 2) + k))), (0, .int (nI pl)), (1, .int (nI k))]) hx hb dX7_cellOf_54 rfl hl (by decide) rfl (fun ls hl => ?_)
      refine lv_iload_n hx hb dX7_cellOf_55 rfl (lv_at hl 1 rfl) ?_
      refine lv_bipush (v := 28) hx hb dX7_cellOf_56 (by decide) ?_
      refine lv_icmp_ge (tgt := 74) hx hb dX7_cellOf_58 (by decide) (fun c58 => ?_) (fun c58 => ?_)
      · have c58 : 28 ≤ pl := (nq_le (a := 28) (b := pl) (by omega) (by omega)).mp c58
        refine lv_bipush (v := 6) hx hb dX7_cellOf_74 (by decide) ?_
        refine lv_iload_n hx hb dX7_cellOf_76 rfl (lv_at hl 0 rfl) ?_
        refine lv_imul hx hb dX7_cellOf_77 ?_
        refine pk_ti (y := nI (6 * ((((pl - 24) / 2) % 2) + k))) (pk_mul 6 ((((pl - 24) / 2) % 2) + k)) ?_
        refine lv_iconst (v := 5) hx hb dX7_cellOf_78 (by decide) ?_
        refine lv_iadd hx hb dX7_cellOf_79 ?_
        refine pk_ti (y := nI ((6 * ((((pl - 24) / 2) % 2) + k)) + 5)) (nI_add (6 * ((((pl - 24) / 2) % 2) + k)) 5) ?_
        refine lv_iload_n hx hb dX7_cellOf_80 rfl (lv_at hl 1 rfl) ?_
        refine lv_iconst (v := 2) hx hb dX7_cellOf_81 (by decide) ?_
        refine lv_irem hx hb dX7_cellOf_82 (by decide) ?_
        refine pk_ti (y := nI (pl % 2)) (pk_rem (a := pl) (d := 2) (by omega) (by omega) (by omega)) ?_
        refine lv_isub hx hb dX7_cellOf_83 ?_
        refine pk_ti (y := nI (((6 * ((((pl - 24) / 2) % 2) + k)) + 5) - (pl % 2))) (pk_sub (a := ((6 * ((((pl - 24) / 2) % 2) + k)) + 5)) (b := (pl % 2)) (by omega)) ?_
        refine lv_iload_n hx hb dX7_cellOf_84 rfl (lv_at hl 2 rfl) ?_
        refine lv_isub hx hb dX7_cellOf_85 ?_
        refine pk_ti (y := nI ((((6 * ((((pl - 24) / 2) % 2) + k)) + 5) - (pl % 2)) - k)) (pk_sub (a := (((6 * ((((pl - 24) / 2) % 2) + k)) + 5) - (pl % 2))) (b := k) (by omega)) ?_
        refine W.iret (v := (nI ((((6 * ((((pl - 24) / 2) % 2) + k)) + 5) - (pl % 2)) - k))) hx hb hr (fun tt ht hW => ⟨(nI ((((6 * ((((pl - 24) / 2) % 2) + k)) + 5) - (pl % 2)) - k)), rfl, ?_, ht⟩) (fun _ h => nomatch h) dX7_cellOf_86
        simp only [mcell]; congr 1; (repeat' split) <;> omega
      · have c58 : ¬ 28 ≤ pl := _root_.mt (nq_le (a := 28) (b := pl) (by omega) (by omega)).mpr c58
        refine lv_bipush (v := 6) hx hb dX7_cellOf_61 (by decide) ?_
        refine lv_iload_n hx hb dX7_cellOf_63 rfl (lv_at hl 0 rfl) ?_
        refine lv_imul hx hb dX7_cellOf_64 ?_
        refine pk_ti (y := nI (6 * ((((pl - 24) / 2) % 2) + k))) (pk_mul 6 ((((pl - 24) / 2) % 2) + k)) ?_
        refine lv_iload_n hx hb dX7_cellOf_65 rfl (lv_at hl 1 rfl) ?_
        refine lv_iconst (v := 2) hx hb dX7_cellOf_66 (by decide) ?_
        refine lv_irem hx hb dX7_cellOf_67 (by decide) ?_
        refine pk_ti (y := nI (pl % 2)) (pk_rem (a := pl) (d := 2) (by omega) (by omega) (by omega)) ?_
        refine lv_iadd hx hb dX7_cellOf_68 ?_
        refine pk_ti (y := nI ((6 * ((((pl - 24) / 2) % 2) + k)) + (pl % 2))) (nI_add (6 * ((((pl - 24) / 2) % 2) + k)) (pl % 2)) ?_
        refine lv_iload_n hx hb dX7_cellOf_69 rfl (lv_at hl 2 rfl) ?_
        refine lv_iadd hx hb dX7_cellOf_70 ?_
        refine pk_ti (y := nI (((6 * ((((pl - 24) / 2) % 2) + k)) + (pl % 2)) + k)) (nI_add ((6 * ((((pl - 24) / 2) % 2) + k)) + (pl % 2)) k) ?_
        refine lv_goto (tgt := 86) hx hb dX7_cellOf_71 (by decide) ?_
        refine W.iret (v := (nI (((6 * ((((pl - 24) / 2) % 2) + k)) + (pl % 2)) + k))) hx hb hr (fun tt ht hW => ⟨(nI (((6 * ((((pl - 24) / 2) % 2) + k)) + (pl % 2)) + k)), rfl, ?_, ht⟩) (fun _ h => nomatch h) dX7_cellOf_86
        simp only [mcell]; congr 1; (repeat' split) <;> omega
    · have c22 : ¬ 24 ≤ pl := _root_.mt (nq_le (a := 24) (b := pl) (by omega) (by omega)).mpr c22
      refine lv_bipush (v := 6) hx hb dX7_cellOf_25 (by decide) ?_
      refine lv_iload_n hx hb dX7_cellOf_27 rfl (lv_at hl 0 rfl) ?_
      refine lv_bipush (v := 12) hx hb dX7_cellOf_28 (by decide) ?_
      refine lv_isub hx hb dX7_cellOf_30 ?_
      refine pk_ti (y := nI (pl - 12)) (pk_sub (a := pl) (b := 12) (by omega)) ?_
      refine lv_iconst (v := 2) hx hb dX7_cellOf_31 (by decide) ?_
      refine lv_irem hx hb dX7_cellOf_32 (by decide) ?_
      refine pk_ti (y := nI ((pl - 12) % 2)) (pk_rem (a := (pl - 12)) (d := 2) (by omega) (by omega) (by omega)) ?_
      refine lv_iload_n hx hb dX7_cellOf_33 rfl (lv_at hl 1 rfl) ?_
      refine lv_iadd hx hb dX7_cellOf_34 ?_
      refine pk_ti (y := nI (((pl - 12) % 2) + k)) (nI_add ((pl - 12) % 2) k) ?_
      refine lv_imul hx hb dX7_cellOf_35 ?_
      refine pk_ti (y := nI (6 * (((pl - 12) % 2) + k))) (pk_mul 6 (((pl - 12) % 2) + k)) ?_
      refine lv_iload_n hx hb dX7_cellOf_36 rfl (lv_at hl 0 rfl) ?_
      refine lv_bipush (v := 12) hx hb dX7_cellOf_37 (by decide) ?_
      refine lv_isub hx hb dX7_cellOf_39 ?_
      refine pk_ti (y := nI (pl - 12)) (pk_sub (a := pl) (b := 12) (by omega)) ?_
      refine lv_iconst (v := 2) hx hb dX7_cellOf_40 (by decide) ?_
      refine lv_idiv hx hb dX7_cellOf_41 (by decide) ?_
      refine pk_ti (y := nI ((pl - 12) / 2)) (pk_div (a := (pl - 12)) (d := 2) (by omega) (by omega) (by omega)) ?_
      refine lv_iadd hx hb dX7_cellOf_42 ?_
      refine pk_ti (y := nI ((6 * (((pl - 12) % 2) + k)) + ((pl - 12) / 2))) (nI_add (6 * (((pl - 12) % 2) + k)) ((pl - 12) / 2)) ?_
      refine W.iret (v := (nI ((6 * (((pl - 12) % 2) + k)) + ((pl - 12) / 2)))) hx hb hr (fun tt ht hW => ⟨(nI ((6 * (((pl - 12) % 2) + k)) + ((pl - 12) / 2))), rfl, ?_, ht⟩) (fun _ h => nomatch h) dX7_cellOf_43
      simp only [mcell]; congr 1; (repeat' split) <;> omega
  · have c3 : ¬ 12 ≤ pl := _root_.mt (nq_le (a := 12) (b := pl) (by omega) (by omega)).mpr c3
    refine lv_bipush (v := 6) hx hb dX7_cellOf_6 (by decide) ?_
    refine lv_iload_n hx hb dX7_cellOf_8 rfl (lv_at hl 0 rfl) ?_
    refine lv_iconst (v := 2) hx hb dX7_cellOf_9 (by decide) ?_
    refine lv_idiv hx hb dX7_cellOf_10 (by decide) ?_
    refine pk_ti (y := nI (pl / 2)) (pk_div (a := pl) (d := 2) (by omega) (by omega) (by omega)) ?_
    refine lv_imul hx hb dX7_cellOf_11 ?_
    refine pk_ti (y := nI (6 * (pl / 2))) (pk_mul 6 (pl / 2)) ?_
    refine lv_iload_n hx hb dX7_cellOf_12 rfl (lv_at hl 0 rfl) ?_
    refine lv_iconst (v := 2) hx hb dX7_cellOf_13 (by decide) ?_
    refine lv_irem hx hb dX7_cellOf_14 (by decide) ?_
    refine pk_ti (y := nI (pl % 2)) (pk_rem (a := pl) (d := 2) (by omega) (by omega) (by omega)) ?_
    refine lv_iadd hx hb dX7_cellOf_15 ?_
    refine pk_ti (y := nI ((6 * (pl / 2)) + (pl % 2))) (nI_add (6 * (pl / 2)) (pl % 2)) ?_
    refine lv_iload_n hx hb dX7_cellOf_16 rfl (lv_at hl 1 rfl) ?_
    refine lv_iadd hx hb dX7_cellOf_17 ?_
    refine pk_ti (y := nI (((6 * (pl / 2)) + (pl % 2)) + k)) (nI_add ((6 * (pl / 2)) + (pl % 2)) k) ?_
    refine W.iret (v := (nI (((6 * (pl / 2)) + (pl % 2)) + k))) hx hb hr (fun tt ht hW => ⟨(nI (((6 * (pl / 2)) + (pl % 2)) + k)), rfl, ?_, ht⟩) (fun _ h => nomatch h) dX7_cellOf_18
    simp only [mcell]; congr 1; (repeat' split) <;> omega

set_option maxHeartbeats 400000 in
set_option maxRecDepth 100000 in
theorem c_X7_count (l : Launch) (a b : Int64) (n : Int32) : Met l yX7_count wsX7_count ({ frames := 1, cells := 0, slots := 0, locals := 22 } : Room) (va_Pc [.long a, .long b, .int n] (fun _ => True)) (vp_Si (fun r => r = msum a b n 32)) 0 0 (fun _ => False) := by
  refine Met.ofW (cc := cX7_count) (maxL := 10) (ret := (some .int)) (by decide) rfl ?_
  intro p e s m args below meth c s₁ B hml hv
  obtain ⟨rfl, -⟩ := hv
  have hx := B.exec
  have hb := B.bytes
  have hr := B.returns
  have hts := atoms_spec (ws := wsX7_count) B.pre
  have hown : s.vm.findClass RX7 = some m.cls := findClass_of_methodNamed B.named
  have hlocks := B.notSynchronized
  have hl := lv_entry ([.long a, .long b, .int n]) (n := 10) (Nat.le_of_ble_eq_true rfl)
  rw [lg_entry_eq]
  generalize (lg_sl ([.long a, .long b, .int n]) ++ List.replicate (10 - (lg_sl ([.long a, .long b, .int n])).length) Slot.unset).toArray = ls at hl ⊢
  have hl : lv_has ls 10 [(0, .long a), (2, .long b), (4, .int n)] := hl
  refine lv_iconst (v := 0) hx hb dX7_count_0 (by decide) ?_
  refine lv_istore (lv' := [(5, .int 0), (0, .long a), (2, .long b), (4, .int n)]) hx hb dX7_count_1 hl (by decide) rfl (fun ls hl => ?_)
  refine lv_iconst (v := 0) hx hb dX7_count_3 (by decide) ?_
  refine lv_istore (lv' := [(6, .int 0), (5, .int 0), (0, .long a), (2, .long b), (4, .int n)]) hx hb dX7_count_4 hl (by decide) rfl (fun ls hl => ?_)
  have loop6 : ∀ (nn i6 : Nat), i6 + nn = 32 → ∀ ls, lv_has ls 10 [(6, .int (nI i6)), (5, .int (msum a b n i6)), (0, .long a), (2, .long b), (4, .int n)] → W p l e (headSpec wsX7_count ({ frames := 1, cells := 0, slots := 0, locals := 22 } : Room)).room s m ([.long a, .long b, .int n] : List Value).toArray below meth c s.heap [] 0 0 (MQ below (vp_Si (fun r => r = msum a b n 32)) ([.long a, .long b, .int n] : List Value).toArray s 0 0 (fun _ => False)) (F0 m 6 ls []) := by
    intro nn
    induction nn with
    | zero =>
      intro i6 hi6 ls hl
      obtain rfl : i6 = 32 := by omega
      refine lv_iload hx hb dX7_count_6 (lv_at hl 0 rfl) ?_
      refine lv_bipush (v := 32) hx hb dX7_count_8 (by decide) ?_
      refine lv_icmp_ge (tgt := 96) hx hb dX7_count_10 (by decide) (fun c10 => ?_) (fun c10 => ?_)
      · have c10 : 32 ≤ 32 := (nq_le (a := 32) (b := 32) (by omega) (by omega)).mp c10
        refine lv_iload hx hb dX7_count_96 (lv_at hl 1 rfl) ?_
        refine W.iret (v := (msum a b n 32)) hx hb hr (fun tt ht hW => ⟨(msum a b n 32), rfl, ?_, ht⟩) (fun _ h => nomatch h) dX7_count_98
        rfl
      · have c10 : ¬ 32 ≤ 32 := _root_.mt (nq_le (a := 32) (b := 32) (by omega) (by omega)).mpr c10
        omega
    | succ nn ih6 =>
      intro i6 hi6 ls hl
      refine lv_iload hx hb dX7_count_6 (lv_at hl 0 rfl) ?_
      refine lv_bipush (v := 32) hx hb dX7_count_8 (by decide) ?_
      refine lv_icmp_ge (tgt := 96) hx hb dX7_count_10 (by decide) (fun c10 => ?_) (fun c10 => ?_)
      · have c10 : 32 ≤ i6 := (nq_le (a := 32) (b := i6) (by omega) (by omega)).mp c10
        omega
      · have c10 : ¬ 32 ≤ i6 := _root_.mt (nq_le (a := 32) (b := i6) (by omega) (by omega)).mpr c10
        refine lv_iconst (v := 0) hx hb dX7_count_13 (by decide) ?_
        refine lv_istore (lv' := [(7, .int 0), (6, .int (nI i6)), (5, .int (msum a b n i6)), (0, .long a), (2, .long b), (4, .int n)]) hx hb dX7_count_14 hl (by decide) rfl (fun ls hl => ?_)
        refine lv_iconst (v := 0) hx hb dX7_count_16 (by decide) ?_
        refine lv_istore (lv' := [(8, .int 0), (7, .int 0), (6, .int (nI i6)), (5, .int (msum a b n i6)), (0, .long a), (2, .long b), (4, .int n)]) hx hb dX7_count_17 hl (by decide) rfl (fun ls hl => ?_)
        have loop19 : ∀ (nn i19 : Nat), i19 + nn = 5 → ∀ ls, lv_has ls 10 [(8, .int (nI i19)), (7, .int (mmany a b i6 i19)), (6, .int (nI i6)), (5, .int (msum a b n i6)), (0, .long a), (2, .long b), (4, .int n)] → W p l e (headSpec wsX7_count ({ frames := 1, cells := 0, slots := 0, locals := 22 } : Room)).room s m ([.long a, .long b, .int n] : List Value).toArray below meth c s.heap [] 0 0 (MQ below (vp_Si (fun r => r = msum a b n 32)) ([.long a, .long b, .int n] : List Value).toArray s 0 0 (fun _ => False)) (F0 m 19 ls []) := by
          intro nn
          induction nn with
          | zero =>
            intro i19 hi19 ls hl
            obtain rfl : i19 = 5 := by omega
            refine lv_iload hx hb dX7_count_19 (lv_at hl 0 rfl) ?_
            refine lv_iconst (v := 5) hx hb dX7_count_21 (by decide) ?_
            refine lv_icmp_ge (tgt := 73) hx hb dX7_count_22 (by decide) (fun c22 => ?_) (fun c22 => ?_)
            · have c22 : 5 ≤ 5 := (nq_le (a := 5) (b := 5) (by omega) (by omega)).mp c22
              refine lv_iload hx hb dX7_count_73 (lv_at hl 3 rfl) ?_
              refine lv_iload hx hb dX7_count_75 (lv_at hl 1 rfl) ?_
              refine lv_iload hx hb dX7_count_77 (lv_at hl 6 rfl) ?_
              refine lv_icmp_ne (tgt := 86) hx hb dX7_count_79 (by decide) (fun c79 => ?_) (fun c79 => ?_)
              · refine lv_iconst (v := 0) hx hb dX7_count_86 (by decide) ?_
                refine lv_iadd hx hb dX7_count_87 ?_
                refine lv_topi (fun x87 ex87 => ?_)
                refine lv_istore (lv' := [(5, .int x87), (8, .int (nI 5)), (7, .int (mmany a b i6 5)), (6, .int (nI i6)), (0, .long a), (2, .long b), (4, .int n)]) hx hb dX7_count_88 hl (by decide) rfl (fun ls hl => ?_)
                refine lv_iinc (v := nI (i6 + 1)) (lv' := [(6, .int (nI (i6 + 1))), (5, .int x87), (8, .int (nI 5)), (7, .int (mmany a b i6 5)), (0, .long a), (2, .long b), (4, .int n)]) hx hb dX7_count_90 hl (k := 3) rfl (nI_add i6 1) (by decide) rfl (fun ls hl => ?_)
                refine lv_goto (tgt := 6) hx hb dX7_count_93 (by decide) ?_
                exact ih6 (i6 + 1) (by omega) ls (by { have e9 : (x87 : Int32) = (msum a b n (i6 + 1)) := by { obtain rfl := ex87.symm; simp only [msum]; simp_all }; rw [← e9]; exact lv_sub hl [0, 1, 4, 5, 6] rfl })
              · refine lv_iconst (v := 1) hx hb dX7_count_82 (by decide) ?_
                refine lv_goto (tgt := 87) hx hb dX7_count_83 (by decide) ?_
                refine lv_iadd hx hb dX7_count_87 ?_
                refine lv_topi (fun x87 ex87 => ?_)
                refine lv_istore (lv' := [(5, .int x87), (8, .int (nI 5)), (7, .int (mmany a b i6 5)), (6, .int (nI i6)), (0, .long a), (2, .long b), (4, .int n)]) hx hb dX7_count_88 hl (by decide) rfl (fun ls hl => ?_)
                refine lv_iinc (v := nI (i6 + 1)) (lv' := [(6, .int (nI (i6 + 1))), (5, .int x87), (8, .int (nI 5)), (7, .int (mmany a b i6 5)), (0, .long a), (2, .long b), (4, .int n)]) hx hb dX7_count_90 hl (k := 3) rfl (nI_add i6 1) (by decide) rfl (fun ls hl => ?_)
                refine lv_goto (tgt := 6) hx hb dX7_count_93 (by decide) ?_
                exact ih6 (i6 + 1) (by omega) ls (by { have e9 : (x87 : Int32) = (msum a b n (i6 + 1)) := by { obtain rfl := ex87.symm; simp only [msum]; simp_all }; rw [← e9]; exact lv_sub hl [0, 1, 4, 5, 6] rfl })
            · have c22 : ¬ 5 ≤ 5 := _root_.mt (nq_le (a := 5) (b := 5) (by omega) (by omega)).mpr c22
              omega
          | succ nn ih19 =>
            intro i19 hi19 ls hl
            refine lv_iload hx hb dX7_count_19 (lv_at hl 0 rfl) ?_
            refine lv_iconst (v := 5) hx hb dX7_count_21 (by decide) ?_
            refine lv_icmp_ge (tgt := 73) hx hb dX7_count_22 (by decide) (fun c22 => ?_) (fun c22 => ?_)
            · have c22 : 5 ≤ i19 := (nq_le (a := 5) (b := i19) (by omega) (by omega)).mp c22
              omega
            · have c22 : ¬ 5 ≤ i19 := _root_.mt (nq_le (a := 5) (b := i19) (by omega) (by omega)).mpr c22
              refine lv_iload hx hb dX7_count_25 (lv_at hl 2 rfl) ?_
              refine lv_iload hx hb dX7_count_27 (lv_at hl 0 rfl) ?_
              refine vp_callSi (W.runS (As := [.int (nI i6), .int (nI i19)]) (rest := []) ⟨hx, hb, hml, hown, hts⟩ (c_X7_cellOf l i6 i19 (by omega) (by omega)) (va_cwS 2 hts gX7_count_X7_cellOf rfl rfl rfl (by decide +kernel) ⟨Nat.le_of_ble_eq_true rfl, Nat.le_of_ble_eq_true rfl⟩) ⟨px_blind0, fun U hU hW => ⟨rfl, trivial⟩⟩ rfl rfl hl.1 rfl (lv_room (Nat.le_of_ble_eq_true rfl)) dX7_count_29 ⟨(Nat.le_of_ble_eq_true rfl), (Nat.le_of_ble_eq_true rfl)⟩) (fun r29 er29 => ?_)
              obtain rfl := er29.symm
              refine lv_istore (lv' := [(9, .int (nI (mcell i6 i19))), (8, .int (nI i19)), (7, .int (mmany a b i6 i19)), (6, .int (nI i6)), (5, .int (msum a b n i6)), (0, .long a), (2, .long b), (4, .int n)]) hx hb dX7_count_32 hl (by decide) rfl (fun ls hl => ?_)
              have hm9 := mcell_lt i6 (by omega) i19 (by omega)
              refine lv_iload hx hb dX7_count_34 (lv_at hl 2 rfl) ?_
              refine lv_lload_n hx hb dX7_count_36 rfl (lv_at hl 5 rfl) ?_
              refine lv_iload hx hb dX7_count_37 (lv_at hl 0 rfl) ?_
              refine vp_callSi (W.runS (As := [.long a, .int (nI (mcell i6 i19))]) (rest := [.int (mmany a b i6 i19)]) ⟨hx, hb, hml, hown, hts⟩ (c_X7_has l a (mcell i6 i19) (by omega)) (va_cwS 2 hts gX7_count_X7_has rfl rfl rfl (by decide +kernel) ⟨Nat.le_of_ble_eq_true rfl, Nat.le_of_ble_eq_true rfl⟩) ⟨px_blind0, fun U hU hW => ⟨rfl, trivial⟩⟩ rfl rfl hl.1 rfl (lv_room (Nat.le_of_ble_eq_true rfl)) dX7_count_39 ⟨(Nat.le_of_ble_eq_true rfl), (Nat.le_of_ble_eq_true rfl)⟩) (fun r39 er39 => ?_)
              obtain rfl := er39.symm
              refine pk_b (P := bt a (mcell i6 i19) = true) (fun b39 => ?_) (fun b39 => ?_)
              · refine lv_if_eq (tgt := 49) hx hb dX7_count_42 (by decide) (fun c42 => ?_) (fun c42 => ?_)
                · exact absurd c42 (by decide)
                · refine lv_iconst (v := 1) hx hb dX7_count_45 (by decide) ?_
                  refine lv_goto (tgt := 64) hx hb dX7_count_46 (by decide) ?_
                  refine lv_iadd hx hb dX7_count_64 ?_
                  refine lv_topi (fun x64 ex64 => ?_)
                  refine lv_istore (lv' := [(7, .int x64), (9, .int (nI (mcell i6 i19))), (8, .int (nI i19)), (6, .int (nI i6)), (5, .int (msum a b n i6)), (0, .long a), (2, .long b), (4, .int n)]) hx hb dX7_count_65 hl (by decide) rfl (fun ls hl => ?_)
                  refine lv_iinc (v := nI (i19 + 1)) (lv' := [(8, .int (nI (i19 + 1))), (7, .int x64), (9, .int (nI (mcell i6 i19))), (6, .int (nI i6)), (5, .int (msum a b n i6)), (0, .long a), (2, .long b), (4, .int n)]) hx hb dX7_count_67 hl (k := 2) rfl (nI_add i19 1) (by decide) rfl (fun ls hl => ?_)
                  refine lv_goto (tgt := 19) hx hb dX7_count_70 (by decide) ?_
                  exact ih19 (i19 + 1) (by omega) ls (by { have e9 : (x64 : Int32) = (mmany a b i6 (i19 + 1)) := by { obtain rfl := ex64.symm; simp only [mmany]; simp_all }; rw [← e9]; exact lv_sub hl [0, 1, 3, 4, 5, 6, 7] rfl })
              · refine lv_if_eq (tgt := 49) hx hb dX7_count_42 (by decide) (fun c42 => ?_) (fun c42 => ?_)
                · refine lv_lload_n hx hb dX7_count_49 rfl (lv_at hl 6 rfl) ?_
                  refine lv_iload hx hb dX7_count_50 (lv_at hl 0 rfl) ?_
                  refine vp_callSi (W.runS (As := [.long b, .int (nI (mcell i6 i19))]) (rest := [.int (mmany a b i6 i19)]) ⟨hx, hb, hml, hown, hts⟩ (c_X7_has l b (mcell i6 i19) (by omega)) (va_cwS 2 hts gX7_count_X7_has rfl rfl rfl (by decide +kernel) ⟨Nat.le_of_ble_eq_true rfl, Nat.le_of_ble_eq_true rfl⟩) ⟨px_blind0, fun U hU hW => ⟨rfl, trivial⟩⟩ rfl rfl hl.1 rfl (lv_room (Nat.le_of_ble_eq_true rfl)) dX7_count_52 ⟨(Nat.le_of_ble_eq_true rfl), (Nat.le_of_ble_eq_true rfl)⟩) (fun r52 er52 => ?_)
                  obtain rfl := er52.symm
                  refine pk_b (P := bt b (mcell i6 i19) = true) (fun b52 => ?_) (fun b52 => ?_)
                  · refine lv_if_eq (tgt := 63) hx hb dX7_count_55 (by decide) (fun c55 => ?_) (fun c55 => ?_)
                    · exact absurd c55 (by decide)
                    · refine lv_bipush (v := (-9)) hx hb dX7_count_58 (by decide) ?_
                      refine lv_goto (tgt := 64) hx hb dX7_count_60 (by decide) ?_
                      refine lv_iadd hx hb dX7_count_64 ?_
                      refine lv_topi (fun x64 ex64 => ?_)
                      refine lv_istore (lv' := [(7, .int x64), (9, .int (nI (mcell i6 i19))), (8, .int (nI i19)), (6, .int (nI i6)), (5, .int (msum a b n i6)), (0, .long a), (2, .long b), (4, .int n)]) hx hb dX7_count_65 hl (by decide) rfl (fun ls hl => ?_)
                      refine lv_iinc (v := nI (i19 + 1)) (lv' := [(8, .int (nI (i19 + 1))), (7, .int x64), (9, .int (nI (mcell i6 i19))), (6, .int (nI i6)), (5, .int (msum a b n i6)), (0, .long a), (2, .long b), (4, .int n)]) hx hb dX7_count_67 hl (k := 2) rfl (nI_add i19 1) (by decide) rfl (fun ls hl => ?_)
                      refine lv_goto (tgt := 19) hx hb dX7_count_70 (by decide) ?_
                      exact ih19 (i19 + 1) (by omega) ls (by { have e9 : (x64 : Int32) = (mmany a b i6 (i19 + 1)) := by { obtain rfl := ex64.symm; simp only [mmany]; simp_all }; rw [← e9]; exact lv_sub hl [0, 1, 3, 4, 5, 6, 7] rfl })
                  · refine lv_if_eq (tgt := 63) hx hb dX7_count_55 (by decide) (fun c55 => ?_) (fun c55 => ?_)
                    · refine lv_iconst (v := 0) hx hb dX7_count_63 (by decide) ?_
                      refine lv_iadd hx hb dX7_count_64 ?_
                      refine lv_topi (fun x64 ex64 => ?_)
                      refine lv_istore (lv' := [(7, .int x64), (9, .int (nI (mcell i6 i19))), (8, .int (nI i19)), (6, .int (nI i6)), (5, .int (msum a b n i6)), (0, .long a), (2, .long b), (4, .int n)]) hx hb dX7_count_65 hl (by decide) rfl (fun ls hl => ?_)
                      refine lv_iinc (v := nI (i19 + 1)) (lv' := [(8, .int (nI (i19 + 1))), (7, .int x64), (9, .int (nI (mcell i6 i19))), (6, .int (nI i6)), (5, .int (msum a b n i6)), (0, .long a), (2, .long b), (4, .int n)]) hx hb dX7_count_67 hl (k := 2) rfl (nI_add i19 1) (by decide) rfl (fun ls hl => ?_)
                      refine lv_goto (tgt := 19) hx hb dX7_count_70 (by decide) ?_
                      exact ih19 (i19 + 1) (by omega) ls (by { have e9 : (x64 : Int32) = (mmany a b i6 (i19 + 1)) := by { obtain rfl := ex64.symm; simp only [mmany]; simp_all }; rw [← e9]; exact lv_sub hl [0, 1, 3, 4, 5, 6, 7] rfl })
                    · exact absurd c55 (by decide)
                · exact absurd c42 (by decide)
        exact loop19 5 0 (by omega) ls (lv_sub hl [0, 1, 2, 3, 4, 5, 6] rfl)
  exact loop6 32 0 (by omega) ls (lv_sub hl [0, 1, 2, 3, 4] rfl)

set_option maxHeartbeats 400000 in
set_option maxRecDepth 100000 in
theorem c_X7_hasLine (l : Launch) (a : Int64) : Met l yX7_hasLine wsX7_hasLine ({ frames := 2, cells := 0, slots := 0, locals := 51 } : Room) (va_Pc [.long a] (fun _ => True)) (vp_Si (fun r => r = if 0 < msum a 0 5 32 then 1 else 0)) 0 0 (fun _ => False) := by
  refine Met.ofW (cc := cX7_hasLine) (maxL := 2) (ret := (some .boolean)) (by decide) rfl ?_
  intro p e s m args below meth c s₁ B hml hv
  obtain ⟨rfl, -⟩ := hv
  have hx := B.exec
  have hb := B.bytes
  have hr := B.returns
  have hts := atoms_spec (ws := wsX7_hasLine) B.pre
  have hown : s.vm.findClass RX7 = some m.cls := findClass_of_methodNamed B.named
  have hlocks := B.notSynchronized
  have hl := lv_entry ([.long a]) (n := 2) (Nat.le_of_ble_eq_true rfl)
  rw [lg_entry_eq]
  generalize (lg_sl ([.long a]) ++ List.replicate (2 - (lg_sl ([.long a])).length) Slot.unset).toArray = ls at hl ⊢
  have hl : lv_has ls 2 [(0, .long a)] := hl
  refine lv_lload_n hx hb dX7_hasLine_0 rfl (lv_at hl 0 rfl) ?_
  refine lv_lconst (v := 0) hx hb dX7_hasLine_1 (by decide) ?_
  refine lv_iconst (v := 5) hx hb dX7_hasLine_2 (by decide) ?_
  refine vp_callSi (W.runS (As := [.long a, .long 0, .int 5]) (rest := []) ⟨hx, hb, hml, hown, hts⟩ (c_X7_count l a 0 5) (va_cwS 3 hts gX7_hasLine_X7_count rfl rfl rfl (by decide +kernel) ⟨Nat.le_of_ble_eq_true rfl, Nat.le_of_ble_eq_true rfl⟩) ⟨px_blind0, fun U hU hW => ⟨rfl, trivial⟩⟩ rfl rfl hl.1 rfl (lv_room (Nat.le_of_ble_eq_true rfl)) dX7_hasLine_3 ⟨(Nat.le_of_ble_eq_true rfl), (Nat.le_of_ble_eq_true rfl)⟩) (fun r3 er3 => ?_)
  obtain rfl := er3.symm
  refine lv_if_le (tgt := 13) hx hb dX7_hasLine_6 (by decide) (fun c6 => ?_) (fun c6 => ?_)
  · refine lv_iconst (v := 0) hx hb dX7_hasLine_13 (by decide) ?_
    refine W.zret (v := 0) hx hb hr (rfl) (fun tt ht hW => ⟨0, rfl, ?_, ht⟩) (fun _ h => nomatch h) dX7_hasLine_14
    simp_all
  · refine lv_iconst (v := 1) hx hb dX7_hasLine_9 (by decide) ?_
    refine lv_goto (tgt := 14) hx hb dX7_hasLine_10 (by decide) ?_
    refine W.zret (v := 1) hx hb hr (rfl) (fun tt ht hW => ⟨1, rfl, ?_, ht⟩) (fun _ h => nomatch h) dX7_hasLine_14
    simp_all

set_option maxHeartbeats 400000 in
set_option maxRecDepth 100000 in
theorem c_X7_judge (l : Launch) (a b : Int64) : Met l yX7_judge wsX7_judge ({ frames := 3, cells := 0, slots := 0, locals := 72 } : Room) (va_Pc [.long a, .long b] (fun _ => True)) (vp_Si (fun r => r = mjudge a b)) 0 0 (fun _ => False) := by
  refine Met.ofW (cc := cX7_judge) (maxL := 6) (ret := (some .int)) (by decide) rfl ?_
  intro p e s m args below meth c s₁ B hml hv
  obtain ⟨rfl, -⟩ := hv
  have hx := B.exec
  have hb := B.bytes
  have hr := B.returns
  have hts := atoms_spec (ws := wsX7_judge) B.pre
  have hown : s.vm.findClass RX7 = some m.cls := findClass_of_methodNamed B.named
  have hlocks := B.notSynchronized
  have hl := lv_entry ([.long a, .long b]) (n := 6) (Nat.le_of_ble_eq_true rfl)
  rw [lg_entry_eq]
  generalize (lg_sl ([.long a, .long b]) ++ List.replicate (6 - (lg_sl ([.long a, .long b])).length) Slot.unset).toArray = ls at hl ⊢
  have hl : lv_has ls 6 [(0, .long a), (2, .long b)] := hl
  refine lv_lload_n hx hb dX7_judge_0 rfl (lv_at hl 0 rfl) ?_
  refine vp_callSi (W.runS (As := [.long a]) (rest := []) ⟨hx, hb, hml, hown, hts⟩ (c_X7_hasLine l a) (va_cwS 1 hts gX7_judge_X7_hasLine rfl rfl rfl (by decide +kernel) ⟨Nat.le_of_ble_eq_true rfl, Nat.le_of_ble_eq_true rfl⟩) ⟨px_blind0, fun U hU hW => ⟨rfl, trivial⟩⟩ rfl rfl hl.1 rfl (lv_room (Nat.le_of_ble_eq_true rfl)) dX7_judge_1 ⟨(Nat.le_of_ble_eq_true rfl), (Nat.le_of_ble_eq_true rfl)⟩) (fun r1 er1 => ?_)
  obtain rfl := er1.symm
  refine pk_b (P := 0 < msum a 0 5 32) (fun b1 => ?_) (fun b1 => ?_)
  · refine lv_istore (lv' := [(4, .int 1), (0, .long a), (2, .long b)]) hx hb dX7_judge_4 hl (by decide) rfl (fun ls hl => ?_)
    refine lv_lload_n hx hb dX7_judge_6 rfl (lv_at hl 2 rfl) ?_
    refine vp_callSi (W.runS (As := [.long b]) (rest := []) ⟨hx, hb, hml, hown, hts⟩ (c_X7_hasLine l b) (va_cwS 1 hts gX7_judge_X7_hasLine rfl rfl rfl (by decide +kernel) ⟨Nat.le_of_ble_eq_true rfl, Nat.le_of_ble_eq_true rfl⟩) ⟨px_blind0, fun U hU hW => ⟨rfl, trivial⟩⟩ rfl rfl hl.1 rfl (lv_room (Nat.le_of_ble_eq_true rfl)) dX7_judge_7 ⟨(Nat.le_of_ble_eq_true rfl), (Nat.le_of_ble_eq_true rfl)⟩) (fun r7 er7 => ?_)
    obtain rfl := er7.symm
    refine pk_b (P := 0 < msum b 0 5 32) (fun b7 => ?_) (fun b7 => ?_)
    · refine lv_istore (lv' := [(5, .int 1), (4, .int 1), (0, .long a), (2, .long b)]) hx hb dX7_judge_10 hl (by decide) rfl (fun ls hl => ?_)
      refine lv_iload hx hb dX7_judge_12 (lv_at hl 1 rfl) ?_
      refine lv_if_eq (tgt := 26) hx hb dX7_judge_14 (by decide) (fun c14 => ?_) (fun c14 => ?_)
      · exact absurd c14 (by decide)
      · refine lv_iload hx hb dX7_judge_17 (lv_at hl 0 rfl) ?_
        refine lv_if_eq (tgt := 26) hx hb dX7_judge_19 (by decide) (fun c19 => ?_) (fun c19 => ?_)
        · exact absurd c19 (by decide)
        · refine lv_iconst (v := 3) hx hb dX7_judge_22 (by decide) ?_
          refine lv_goto (tgt := 59) hx hb dX7_judge_23 (by decide) ?_
          refine W.iret (v := 3) hx hb hr (fun tt ht hW => ⟨3, rfl, ?_, ht⟩) (fun _ h => nomatch h) dX7_judge_59
          skip; unfold mjudge; first | (rw [if_pos ⟨b1, b7⟩]; done) | (rw [if_neg (fun h => b7 h.2), if_pos b1]; done) | (rw [if_neg (fun h => b1 h.1), if_neg b1, if_pos b7]; done) | (rw [if_neg (fun h => b1 h.1), if_neg b1, if_neg b7, if_pos c51]; done) | (rw [if_neg (fun h => b1 h.1), if_neg b1, if_neg b7, if_neg c51]; done)
    · refine lv_istore (lv' := [(5, .int 0), (4, .int 1), (0, .long a), (2, .long b)]) hx hb dX7_judge_10 hl (by decide) rfl (fun ls hl => ?_)
      refine lv_iload hx hb dX7_judge_12 (lv_at hl 1 rfl) ?_
      refine lv_if_eq (tgt := 26) hx hb dX7_judge_14 (by decide) (fun c14 => ?_) (fun c14 => ?_)
      · exact absurd c14 (by decide)
      · refine lv_iload hx hb dX7_judge_17 (lv_at hl 0 rfl) ?_
        refine lv_if_eq (tgt := 26) hx hb dX7_judge_19 (by decide) (fun c19 => ?_) (fun c19 => ?_)
        · refine lv_iload hx hb dX7_judge_26 (lv_at hl 1 rfl) ?_
          refine lv_if_eq (tgt := 35) hx hb dX7_judge_28 (by decide) (fun c28 => ?_) (fun c28 => ?_)
          · exact absurd c28 (by decide)
          · refine lv_iconst (v := 1) hx hb dX7_judge_31 (by decide) ?_
            refine lv_goto (tgt := 59) hx hb dX7_judge_32 (by decide) ?_
            refine W.iret (v := 1) hx hb hr (fun tt ht hW => ⟨1, rfl, ?_, ht⟩) (fun _ h => nomatch h) dX7_judge_59
            skip; unfold mjudge; first | (rw [if_pos ⟨b1, b7⟩]; done) | (rw [if_neg (fun h => b7 h.2), if_pos b1]; done) | (rw [if_neg (fun h => b1 h.1), if_neg b1, if_pos b7]; done) | (rw [if_neg (fun h => b1 h.1), if_neg b1, if_neg b7, if_pos c51]; done) | (rw [if_neg (fun h => b1 h.1), if_neg b1, if_neg b7, if_neg c51]; done)
        · exact absurd c19 (by decide)
  · refine lv_istore (lv' := [(4, .int 0), (0, .long a), (2, .long b)]) hx hb dX7_judge_4 hl (by decide) rfl (fun ls hl => ?_)
    refine lv_lload_n hx hb dX7_judge_6 rfl (lv_at hl 2 rfl) ?_
    refine vp_callSi (W.runS (As := [.long b]) (rest := []) ⟨hx, hb, hml, hown, hts⟩ (c_X7_hasLine l b) (va_cwS 1 hts gX7_judge_X7_hasLine rfl rfl rfl (by decide +kernel) ⟨Nat.le_of_ble_eq_true rfl, Nat.le_of_ble_eq_true rfl⟩) ⟨px_blind0, fun U hU hW => ⟨rfl, trivial⟩⟩ rfl rfl hl.1 rfl (lv_room (Nat.le_of_ble_eq_true rfl)) dX7_judge_7 ⟨(Nat.le_of_ble_eq_true rfl), (Nat.le_of_ble_eq_true rfl)⟩) (fun r7 er7 => ?_)
    obtain rfl := er7.symm
    refine pk_b (P := 0 < msum b 0 5 32) (fun b7 => ?_) (fun b7 => ?_)
    · refine lv_istore (lv' := [(5, .int 1), (4, .int 0), (0, .long a), (2, .long b)]) hx hb dX7_judge_10 hl (by decide) rfl (fun ls hl => ?_)
      refine lv_iload hx hb dX7_judge_12 (lv_at hl 1 rfl) ?_
      refine lv_if_eq (tgt := 26) hx hb dX7_judge_14 (by decide) (fun c14 => ?_) (fun c14 => ?_)
      · refine lv_iload hx hb dX7_judge_26 (lv_at hl 1 rfl) ?_
        refine lv_if_eq (tgt := 35) hx hb dX7_judge_28 (by decide) (fun c28 => ?_) (fun c28 => ?_)
        · refine lv_iload hx hb dX7_judge_35 (lv_at hl 0 rfl) ?_
          refine lv_if_eq (tgt := 44) hx hb dX7_judge_37 (by decide) (fun c37 => ?_) (fun c37 => ?_)
          · exact absurd c37 (by decide)
          · refine lv_iconst (v := 2) hx hb dX7_judge_40 (by decide) ?_
            refine lv_goto (tgt := 59) hx hb dX7_judge_41 (by decide) ?_
            refine W.iret (v := 2) hx hb hr (fun tt ht hW => ⟨2, rfl, ?_, ht⟩) (fun _ h => nomatch h) dX7_judge_59
            skip; unfold mjudge; first | (rw [if_pos ⟨b1, b7⟩]; done) | (rw [if_neg (fun h => b7 h.2), if_pos b1]; done) | (rw [if_neg (fun h => b1 h.1), if_neg b1, if_pos b7]; done) | (rw [if_neg (fun h => b1 h.1), if_neg b1, if_neg b7, if_pos c51]; done) | (rw [if_neg (fun h => b1 h.1), if_neg b1, if_neg b7, if_neg c51]; done)
        · exact absurd c28 (by decide)
      · exact absurd c14 (by decide)
    · refine lv_istore (lv' := [(5, .int 0), (4, .int 0), (0, .long a), (2, .long b)]) hx hb dX7_judge_10 hl (by decide) rfl (fun ls hl => ?_)
      refine lv_iload hx hb dX7_judge_12 (lv_at hl 1 rfl) ?_
      refine lv_if_eq (tgt := 26) hx hb dX7_judge_14 (by decide) (fun c14 => ?_) (fun c14 => ?_)
      · refine lv_iload hx hb dX7_judge_26 (lv_at hl 1 rfl) ?_
        refine lv_if_eq (tgt := 35) hx hb dX7_judge_28 (by decide) (fun c28 => ?_) (fun c28 => ?_)
        · refine lv_iload hx hb dX7_judge_35 (lv_at hl 0 rfl) ?_
          refine lv_if_eq (tgt := 44) hx hb dX7_judge_37 (by decide) (fun c37 => ?_) (fun c37 => ?_)
          · refine lv_lload_n hx hb dX7_judge_44 rfl (lv_at hl 2 rfl) ?_
            refine lv_lload_n hx hb dX7_judge_45 rfl (lv_at hl 3 rfl) ?_
            refine lv_lor hx hb dX7_judge_46 ?_
            refine lv_topl (fun x46 ex46 => ?_)
            refine lv_ldc2 (v := 68719476735) hx hb hown (hts (.constantLong RX7 67 (68719476735)) (by decide +kernel)) dX7_judge_47 ?_
            refine W.lcmp hx hb dX7_judge_50 ?_
            refine lv_if_ne (tgt := 58) hx hb dX7_judge_51 (by decide) (fun c51 => ?_) (fun c51 => ?_)
            · rw [lg_cmp_eq] at c51
              refine lv_iconst (v := 0) hx hb dX7_judge_58 (by decide) ?_
              refine W.iret (v := 0) hx hb hr (fun tt ht hW => ⟨0, rfl, ?_, ht⟩) (fun _ h => nomatch h) dX7_judge_59
              obtain rfl := ex46.symm; unfold mjudge; first | (rw [if_pos ⟨b1, b7⟩]; done) | (rw [if_neg (fun h => b7 h.2), if_pos b1]; done) | (rw [if_neg (fun h => b1 h.1), if_neg b1, if_pos b7]; done) | (rw [if_neg (fun h => b1 h.1), if_neg b1, if_neg b7, if_pos c51]; done) | (rw [if_neg (fun h => b1 h.1), if_neg b1, if_neg b7, if_neg c51]; done)
            · rw [lg_cmp_eq] at c51
              refine lv_iconst (v := 3) hx hb dX7_judge_54 (by decide) ?_
              refine lv_goto (tgt := 59) hx hb dX7_judge_55 (by decide) ?_
              refine W.iret (v := 3) hx hb hr (fun tt ht hW => ⟨3, rfl, ?_, ht⟩) (fun _ h => nomatch h) dX7_judge_59
              obtain rfl := ex46.symm; unfold mjudge; first | (rw [if_pos ⟨b1, b7⟩]; done) | (rw [if_neg (fun h => b7 h.2), if_pos b1]; done) | (rw [if_neg (fun h => b1 h.1), if_neg b1, if_pos b7]; done) | (rw [if_neg (fun h => b1 h.1), if_neg b1, if_neg b7, if_pos c51]; done) | (rw [if_neg (fun h => b1 h.1), if_neg b1, if_neg b7, if_neg c51]; done)
          · exact absurd c37 (by decide)
        · exact absurd c28 (by decide)
      · exact absurd c14 (by decide)

set_option maxHeartbeats 400000 in
set_option maxRecDepth 100000 in
theorem c_X7_sizeOf (l : Launch) (a : Int64) : Met l yX7_sizeOf wsX7_sizeOf ({ frames := 1, cells := 0, slots := 0, locals := 22 } : Room) (va_Pc [.long a] (fun _ => True)) (vp_Si (fun r => r = nI (msize a 36))) 0 0 (fun _ => False) := by
  refine Met.ofW (cc := cX7_sizeOf) (maxL := 4) (ret := (some .int)) (by decide) rfl ?_
  intro p e s m args below meth c s₁ B hml hv
  obtain ⟨rfl, -⟩ := hv
  have hx := B.exec
  have hb := B.bytes
  have hr := B.returns
  have hts := atoms_spec (ws := wsX7_sizeOf) B.pre
  have hown : s.vm.findClass RX7 = some m.cls := findClass_of_methodNamed B.named
  have hlocks := B.notSynchronized
  have hl := lv_entry ([.long a]) (n := 4) (Nat.le_of_ble_eq_true rfl)
  rw [lg_entry_eq]
  generalize (lg_sl ([.long a]) ++ List.replicate (4 - (lg_sl ([.long a])).length) Slot.unset).toArray = ls at hl ⊢
  have hl : lv_has ls 4 [(0, .long a)] := hl
  refine lv_iconst (v := 0) hx hb dX7_sizeOf_0 (by decide) ?_
  refine lv_istore_n (lv' := [(2, .int 0), (0, .long a)]) hx hb dX7_sizeOf_1 rfl hl (by decide) rfl (fun ls hl => ?_)
  refine lv_iconst (v := 0) hx hb dX7_sizeOf_2 (by decide) ?_
  refine lv_istore_n (lv' := [(3, .int 0), (2, .int 0), (0, .long a)]) hx hb dX7_sizeOf_3 rfl hl (by decide) rfl (fun ls hl => ?_)
  have loop4 : ∀ (nn i4 : Nat), i4 + nn = 36 → ∀ ls, lv_has ls 4 [(3, .int (nI i4)), (2, .int (nI (msize a i4))), (0, .long a)] → W p l e (headSpec wsX7_sizeOf ({ frames := 1, cells := 0, slots := 0, locals := 22 } : Room)).room s m ([.long a] : List Value).toArray below meth c s.heap [] 0 0 (MQ below (vp_Si (fun r => r = nI (msize a 36))) ([.long a] : List Value).toArray s 0 0 (fun _ => False)) (F0 m 4 ls []) := by
    intro nn
    induction nn with
    | zero =>
      intro i4 hi4 ls hl
      obtain rfl : i4 = 36 := by omega
      refine lv_iload_n hx hb dX7_sizeOf_4 rfl (lv_at hl 0 rfl) ?_
      refine lv_bipush (v := 36) hx hb dX7_sizeOf_5 (by decide) ?_
      refine lv_icmp_ge (tgt := 32) hx hb dX7_sizeOf_7 (by decide) (fun c7 => ?_) (fun c7 => ?_)
      · have c7 : 36 ≤ 36 := (nq_le (a := 36) (b := 36) (by omega) (by omega)).mp c7
        refine lv_iload_n hx hb dX7_sizeOf_32 rfl (lv_at hl 1 rfl) ?_
        refine W.iret (v := (nI (msize a 36))) hx hb hr (fun tt ht hW => ⟨(nI (msize a 36)), rfl, ?_, ht⟩) (fun _ h => nomatch h) dX7_sizeOf_33
        rfl
      · have c7 : ¬ 36 ≤ 36 := _root_.mt (nq_le (a := 36) (b := 36) (by omega) (by omega)).mpr c7
        omega
    | succ nn ih4 =>
      intro i4 hi4 ls hl
      refine lv_iload_n hx hb dX7_sizeOf_4 rfl (lv_at hl 0 rfl) ?_
      refine lv_bipush (v := 36) hx hb dX7_sizeOf_5 (by decide) ?_
      refine lv_icmp_ge (tgt := 32) hx hb dX7_sizeOf_7 (by decide) (fun c7 => ?_) (fun c7 => ?_)
      · have c7 : 36 ≤ i4 := (nq_le (a := 36) (b := i4) (by omega) (by omega)).mp c7
        omega
      · have c7 : ¬ 36 ≤ i4 := _root_.mt (nq_le (a := 36) (b := i4) (by omega) (by omega)).mpr c7
        refine lv_iload_n hx hb dX7_sizeOf_10 rfl (lv_at hl 1 rfl) ?_
        refine lv_lload_n hx hb dX7_sizeOf_11 rfl (lv_at hl 2 rfl) ?_
        refine lv_iload_n hx hb dX7_sizeOf_12 rfl (lv_at hl 0 rfl) ?_
        refine vp_callSi (W.runS (As := [.long a, .int (nI i4)]) (rest := [.int (nI (msize a i4))]) ⟨hx, hb, hml, hown, hts⟩ (c_X7_has l a i4 (by omega)) (va_cwS 2 hts gX7_sizeOf_X7_has rfl rfl rfl (by decide +kernel) ⟨Nat.le_of_ble_eq_true rfl, Nat.le_of_ble_eq_true rfl⟩) ⟨px_blind0, fun U hU hW => ⟨rfl, trivial⟩⟩ rfl rfl hl.1 rfl (lv_room (Nat.le_of_ble_eq_true rfl)) dX7_sizeOf_13 ⟨(Nat.le_of_ble_eq_true rfl), (Nat.le_of_ble_eq_true rfl)⟩) (fun r13 er13 => ?_)
        obtain rfl := er13.symm
        refine pk_b (P := bt a i4 = true) (fun b13 => ?_) (fun b13 => ?_)
        · refine lv_if_eq (tgt := 23) hx hb dX7_sizeOf_16 (by decide) (fun c16 => ?_) (fun c16 => ?_)
          · exact absurd c16 (by decide)
          · refine lv_iconst (v := 1) hx hb dX7_sizeOf_19 (by decide) ?_
            refine lv_goto (tgt := 24) hx hb dX7_sizeOf_20 (by decide) ?_
            refine lv_iadd hx hb dX7_sizeOf_24 ?_
            refine pk_ti (y := nI ((msize a i4) + 1)) (nI_add (msize a i4) 1) ?_
            refine lv_istore_n (lv' := [(2, .int (nI ((msize a i4) + 1))), (3, .int (nI i4)), (0, .long a)]) hx hb dX7_sizeOf_25 rfl hl (by decide) rfl (fun ls hl => ?_)
            refine lv_iinc (v := nI (i4 + 1)) (lv' := [(3, .int (nI (i4 + 1))), (2, .int (nI ((msize a i4) + 1))), (0, .long a)]) hx hb dX7_sizeOf_26 hl (k := 1) rfl (nI_add i4 1) (by decide) rfl (fun ls hl => ?_)
            refine lv_goto (tgt := 4) hx hb dX7_sizeOf_29 (by decide) ?_
            exact ih4 (i4 + 1) (by omega) ls (by { have e9 : ((nI ((msize a i4) + 1)) : Int32) = (nI (msize a (i4 + 1))) := by { skip; simp only [msize]; simp_all }; rw [← e9]; exact lv_sub hl [0, 1, 2] rfl })
        · refine lv_if_eq (tgt := 23) hx hb dX7_sizeOf_16 (by decide) (fun c16 => ?_) (fun c16 => ?_)
          · refine lv_iconst (v := 0) hx hb dX7_sizeOf_23 (by decide) ?_
            refine lv_iadd hx hb dX7_sizeOf_24 ?_
            refine pk_ti (y := nI ((msize a i4) + 0)) (nI_add (msize a i4) 0) ?_
            refine lv_istore_n (lv' := [(2, .int (nI ((msize a i4) + 0))), (3, .int (nI i4)), (0, .long a)]) hx hb dX7_sizeOf_25 rfl hl (by decide) rfl (fun ls hl => ?_)
            refine lv_iinc (v := nI (i4 + 1)) (lv' := [(3, .int (nI (i4 + 1))), (2, .int (nI ((msize a i4) + 0))), (0, .long a)]) hx hb dX7_sizeOf_26 hl (k := 1) rfl (nI_add i4 1) (by decide) rfl (fun ls hl => ?_)
            refine lv_goto (tgt := 4) hx hb dX7_sizeOf_29 (by decide) ?_
            exact ih4 (i4 + 1) (by omega) ls (by { have e9 : ((nI ((msize a i4) + 0)) : Int32) = (nI (msize a (i4 + 1))) := by { skip; simp only [msize]; simp_all }; rw [← e9]; exact lv_sub hl [0, 1, 2] rfl })
          · exact absurd c16 (by decide)
  exact loop4 36 0 (by omega) ls (lv_sub hl [0, 1, 2] rfl)
theorem mto_lt {q w r c : Nat} (hq : q < 4) (hr : r < 3) (hc : c < 3) : mbase q + mto w r c < 36 ∧ mto w r c < 18 ∧ mbase q < 22 ∧ mbase q + 6 * r + c < 36 := by
  unfold mbase mto
  split <;> omega

set_option maxHeartbeats 400000 in
set_option maxRecDepth 100000 in
theorem c_X7_turned (l : Launch) (a : Int64) (q w : Nat) (hq : q < 4) (hw : w < 2) : Met l yX7_turned wsX7_turned ({ frames := 1, cells := 0, slots := 0, locals := 22 } : Room) (va_Pc [.long a, .int (nI q), .int (nI w)] (fun _ => True)) (vp_Sl (fun r => r = mturned a q w)) 0 0 (fun _ => False) := by
  refine Met.ofW (cc := cX7_turned) (maxL := 10) (ret := (some .long)) (by decide) rfl ?_
  intro p e s m args below meth c s₁ B hml hv
  obtain ⟨rfl, -⟩ := hv
  have hx := B.exec
  have hb := B.bytes
  have hr := B.returns
  have hts := atoms_spec (ws := wsX7_turned) B.pre
  have hown : s.vm.findClass RX7 = some m.cls := findClass_of_methodNamed B.named
  have hlocks := B.notSynchronized
  have hl := lv_entry ([.long a, .int (nI q), .int (nI w)]) (n := 10) (Nat.le_of_ble_eq_true rfl)
  rw [lg_entry_eq]
  generalize (lg_sl ([.long a, .int (nI q), .int (nI w)]) ++ List.replicate (10 - (lg_sl ([.long a, .int (nI q), .int (nI w)])).length) Slot.unset).toArray = ls at hl ⊢
  have hl : lv_has ls 10 [(0, .long a), (2, .int (nI q)), (3, .int (nI w))] := hl
  refine lv_iload_n hx hb dX7_turned_0 rfl (lv_at hl 1 rfl) ?_
  refine lv_iconst (v := 2) hx hb dX7_turned_1 (by decide) ?_
  refine lv_idiv hx hb dX7_turned_2 (by decide) ?_
  refine pk_ti (y := nI (q / 2)) (pk_div (a := q) (d := 2) (by omega) (by omega) (by omega)) ?_
  refine lv_bipush (v := 18) hx hb dX7_turned_3 (by decide) ?_
  refine lv_imul hx hb dX7_turned_5 ?_
  refine pk_ti (y := nI ((q / 2) * 18)) (pk_mul (q / 2) 18) ?_
  refine lv_iload_n hx hb dX7_turned_6 rfl (lv_at hl 1 rfl) ?_
  refine lv_iconst (v := 2) hx hb dX7_turned_7 (by decide) ?_
  refine lv_irem hx hb dX7_turned_8 (by decide) ?_
  refine pk_ti (y := nI (q % 2)) (pk_rem (a := q) (d := 2) (by omega) (by omega) (by omega)) ?_
  refine lv_iconst (v := 3) hx hb dX7_turned_9 (by decide) ?_
  refine lv_imul hx hb dX7_turned_10 ?_
  refine pk_ti (y := nI ((q % 2) * 3)) (pk_mul (q % 2) 3) ?_
  refine lv_iadd hx hb dX7_turned_11 ?_
  refine pk_ti (y := nI (mbase q)) (nI_add _ _) ?_
  refine lv_istore (lv' := [(4, .int (nI (mbase q))), (0, .long a), (2, .int (nI q)), (3, .int (nI w))]) hx hb dX7_turned_12 hl (by decide) rfl (fun ls hl => ?_)
  refine lv_lload_n hx hb dX7_turned_14 rfl (lv_at hl 1 rfl) ?_
  refine lv_lstore (lv' := [(5, .long a), (4, .int (nI (mbase q))), (0, .long a), (2, .int (nI q)), (3, .int (nI w))]) hx hb dX7_turned_15 hl (by decide) rfl (fun ls hl => ?_)
  refine lv_iconst (v := 0) hx hb dX7_turned_17 (by decide) ?_
  refine lv_istore (lv' := [(7, .int 0), (5, .long a), (4, .int (nI (mbase q))), (0, .long a), (2, .int (nI q)), (3, .int (nI w))]) hx hb dX7_turned_18 hl (by decide) rfl (fun ls hl => ?_)
  have loop20 : ∀ (nn i20 : Nat), i20 + nn = 3 → ∀ ls, lv_has ls 10 [(7, .int (nI i20)), (5, .long (mclrs q w a i20)), (4, .int (nI (mbase q))), (0, .long a), (2, .int (nI q)), (3, .int (nI w))] → W p l e (headSpec wsX7_turned ({ frames := 1, cells := 0, slots := 0, locals := 22 } : Room)).room s m ([.long a, .int (nI q), .int (nI w)] : List Value).toArray below meth c s.heap [] 0 0 (MQ below (vp_Sl (fun r => r = mturned a q w)) ([.long a, .int (nI q), .int (nI w)] : List Value).toArray s 0 0 (fun _ => False)) (F0 m 20 ls []) := by
    intro nn
    induction nn with
    | zero =>
      intro i20 hi20 ls hl
      obtain rfl : i20 = 3 := by omega
      refine lv_iload hx hb dX7_turned_20 (lv_at hl 0 rfl) ?_
      refine lv_iconst (v := 3) hx hb dX7_turned_22 (by decide) ?_
      refine lv_icmp_ge (tgt := 92) hx hb dX7_turned_23 (by decide) (fun c23 => ?_) (fun c23 => ?_)
      · have c23 : 3 ≤ 3 := (nq_le (a := 3) (b := 3) (by omega) (by omega)).mp c23
        refine lv_iconst (v := 0) hx hb dX7_turned_92 (by decide) ?_
        refine lv_istore (lv' := [(7, .int 0), (5, .long (mclrs q w a 3)), (4, .int (nI (mbase q))), (0, .long a), (2, .int (nI q)), (3, .int (nI w))]) hx hb dX7_turned_93 hl (by decide) rfl (fun ls hl => ?_)
        have loop95 : ∀ (nn i95 : Nat), i95 + nn = 3 → ∀ ls, lv_has ls 10 [(7, .int (nI i95)), (5, .long (msets q w a (mclrs q w a 3) i95)), (4, .int (nI (mbase q))), (0, .long a), (2, .int (nI q)), (3, .int (nI w))] → W p l e (headSpec wsX7_turned ({ frames := 1, cells := 0, slots := 0, locals := 22 } : Room)).room s m ([.long a, .int (nI q), .int (nI w)] : List Value).toArray below meth c s.heap [] 0 0 (MQ below (vp_Sl (fun r => r = mturned a q w)) ([.long a, .int (nI q), .int (nI w)] : List Value).toArray s 0 0 (fun _ => False)) (F0 m 95 ls []) := by
          intro nn
          induction nn with
          | zero =>
            intro i95 hi95 ls hl
            obtain rfl : i95 = 3 := by omega
            refine lv_iload hx hb dX7_turned_95 (lv_at hl 0 rfl) ?_
            refine lv_iconst (v := 3) hx hb dX7_turned_97 (by decide) ?_
            refine lv_icmp_ge (tgt := 185) hx hb dX7_turned_98 (by decide) (fun c98 => ?_) (fun c98 => ?_)
            · have c98 : 3 ≤ 3 := (nq_le (a := 3) (b := 3) (by omega) (by omega)).mp c98
              refine lv_lload hx hb dX7_turned_185 (lv_at hl 1 rfl) ?_
              refine W.lret (v := (msets q w a (mclrs q w a 3) 3)) hx hb hr (fun tt ht hW => ⟨(msets q w a (mclrs q w a 3) 3), rfl, ?_, ht⟩) (fun _ h => nomatch h) dX7_turned_187
              rfl
            · have c98 : ¬ 3 ≤ 3 := _root_.mt (nq_le (a := 3) (b := 3) (by omega) (by omega)).mpr c98
              omega
          | succ nn ih95 =>
            intro i95 hi95 ls hl
            refine lv_iload hx hb dX7_turned_95 (lv_at hl 0 rfl) ?_
            refine lv_iconst (v := 3) hx hb dX7_turned_97 (by decide) ?_
            refine lv_icmp_ge (tgt := 185) hx hb dX7_turned_98 (by decide) (fun c98 => ?_) (fun c98 => ?_)
            · have c98 : 3 ≤ i95 := (nq_le (a := 3) (b := i95) (by omega) (by omega)).mp c98
              omega
            · have c98 : ¬ 3 ≤ i95 := _root_.mt (nq_le (a := 3) (b := i95) (by omega) (by omega)).mpr c98
              refine lv_iconst (v := 0) hx hb dX7_turned_101 (by decide) ?_
              refine lv_istore (lv' := [(8, .int 0), (7, .int (nI i95)), (5, .long (msets q w a (mclrs q w a 3) i95)), (4, .int (nI (mbase q))), (0, .long a), (2, .int (nI q)), (3, .int (nI w))]) hx hb dX7_turned_102 hl (by decide) rfl (fun ls hl => ?_)
              have loop104 : ∀ (nn i104 : Nat), i104 + nn = 3 → ∀ ls, lv_has ls 10 [(8, .int (nI i104)), (5, .long (mset q w a (msets q w a (mclrs q w a 3) i95) i95 i104)), (7, .int (nI i95)), (4, .int (nI (mbase q))), (0, .long a), (2, .int (nI q)), (3, .int (nI w))] → W p l e (headSpec wsX7_turned ({ frames := 1, cells := 0, slots := 0, locals := 22 } : Room)).room s m ([.long a, .int (nI q), .int (nI w)] : List Value).toArray below meth c s.heap [] 0 0 (MQ below (vp_Sl (fun r => r = mturned a q w)) ([.long a, .int (nI q), .int (nI w)] : List Value).toArray s 0 0 (fun _ => False)) (F0 m 104 ls []) := by
                intro nn
                induction nn with
                | zero =>
                  intro i104 hi104 ls hl
                  obtain rfl : i104 = 3 := by omega
                  refine lv_iload hx hb dX7_turned_104 (lv_at hl 0 rfl) ?_
                  refine lv_iconst (v := 3) hx hb dX7_turned_106 (by decide) ?_
                  refine lv_icmp_ge (tgt := 179) hx hb dX7_turned_107 (by decide) (fun c107 => ?_) (fun c107 => ?_)
                  · have c107 : 3 ≤ 3 := (nq_le (a := 3) (b := 3) (by omega) (by omega)).mp c107
                    refine lv_iinc (v := nI (i95 + 1)) (lv' := [(7, .int (nI (i95 + 1))), (8, .int (nI 3)), (5, .long (mset q w a (msets q w a (mclrs q w a 3) i95) i95 3)), (4, .int (nI (mbase q))), (0, .long a), (2, .int (nI q)), (3, .int (nI w))]) hx hb dX7_turned_179 hl (k := 2) rfl (nI_add i95 1) (by decide) rfl (fun ls hl => ?_)
                    refine lv_goto (tgt := 95) hx hb dX7_turned_182 (by decide) ?_
                    exact ih95 (i95 + 1) (by omega) ls (by { have e9 : ((mset q w a (msets q w a (mclrs q w a 3) i95) i95 3) : Int64) = (msets q w a (mclrs q w a 3) (i95 + 1)) := by { skip; first | rfl | (simp only [mclr, mclrs, mset, msets]; simp_all; done) }; rw [← e9]; exact lv_sub hl [0, 2, 3, 4, 5, 6] rfl })
                  · have c107 : ¬ 3 ≤ 3 := _root_.mt (nq_le (a := 3) (b := 3) (by omega) (by omega)).mpr c107
                    omega
                | succ nn ih104 =>
                  intro i104 hi104 ls hl
                  refine lv_iload hx hb dX7_turned_104 (lv_at hl 0 rfl) ?_
                  refine lv_iconst (v := 3) hx hb dX7_turned_106 (by decide) ?_
                  refine lv_icmp_ge (tgt := 179) hx hb dX7_turned_107 (by decide) (fun c107 => ?_) (fun c107 => ?_)
                  · have c107 : 3 ≤ i104 := (nq_le (a := 3) (b := i104) (by omega) (by omega)).mp c107
                    omega
                  · have c107 : ¬ 3 ≤ i104 := _root_.mt (nq_le (a := 3) (b := i104) (by omega) (by omega)).mpr c107
                    have hto := mto_lt (q := q) (w := w) (r := i95) (c := i104) hq (by omega) (by omega)
                    refine lv_iload_n hx hb dX7_turned_110 rfl (lv_at hl 6 rfl) ?_
                    refine lv_if_ne (tgt := 127) hx hb dX7_turned_111 (by decide) (fun c111 => ?_) (fun c111 => ?_)
                    · have c111 : ¬ w = 0 := _root_.mt (nq_eq (a := w) (b := 0) (by omega) (by omega)).mpr c111
                      refine lv_bipush (v := 6) hx hb dX7_turned_127 (by decide) ?_
                      refine lv_iconst (v := 2) hx hb dX7_turned_129 (by decide) ?_
                      refine lv_iload hx hb dX7_turned_130 (lv_at hl 0 rfl) ?_
                      refine lv_isub hx hb dX7_turned_132 ?_
                      refine pk_ti (y := nI (2 - i104)) (pk_sub (a := 2) (b := i104) (by omega)) ?_
                      refine lv_imul hx hb dX7_turned_133 ?_
                      refine pk_ti (y := nI (6 * (2 - i104))) (pk_mul 6 (2 - i104)) ?_
                      refine lv_iload hx hb dX7_turned_134 (lv_at hl 2 rfl) ?_
                      refine lv_iadd hx hb dX7_turned_136 ?_
                      refine pk_ti (y := nI ((6 * (2 - i104)) + i95)) (nI_add (6 * (2 - i104)) i95) ?_
                      refine pk_ti (y := nI (mto w i95 i104)) (congrArg nI (by unfold mto; first | exact (if_pos (by assumption)).symm | exact (if_neg (by assumption)).symm)) ?_
                      refine lv_istore (lv' := [(9, .int (nI (mto w i95 i104))), (8, .int (nI i104)), (5, .long (mset q w a (msets q w a (mclrs q w a 3) i95) i95 i104)), (7, .int (nI i95)), (4, .int (nI (mbase q))), (0, .long a), (2, .int (nI q)), (3, .int (nI w))]) hx hb dX7_turned_137 hl (by decide) rfl (fun ls hl => ?_)
                      refine lv_lload hx hb dX7_turned_139 (lv_at hl 2 rfl) ?_
                      refine lv_lload_n hx hb dX7_turned_141 rfl (lv_at hl 5 rfl) ?_
                      refine lv_iload hx hb dX7_turned_142 (lv_at hl 4 rfl) ?_
                      refine lv_bipush (v := 6) hx hb dX7_turned_144 (by decide) ?_
                      refine lv_iload hx hb dX7_turned_146 (lv_at hl 3 rfl) ?_
                      refine lv_imul hx hb dX7_turned_148 ?_
                      refine pk_ti (y := nI (6 * i95)) (pk_mul 6 i95) ?_
                      refine lv_iadd hx hb dX7_turned_149 ?_
                      refine pk_ti (y := nI ((mbase q) + (6 * i95))) (nI_add (mbase q) (6 * i95)) ?_
                      refine lv_iload hx hb dX7_turned_150 (lv_at hl 1 rfl) ?_
                      refine lv_iadd hx hb dX7_turned_152 ?_
                      refine pk_ti (y := nI (((mbase q) + (6 * i95)) + i104)) (nI_add ((mbase q) + (6 * i95)) i104) ?_
                      refine vp_callSi (W.runS (As := [.long a, .int (nI (((mbase q) + (6 * i95)) + i104))]) (rest := [.long (mset q w a (msets q w a (mclrs q w a 3) i95) i95 i104)]) ⟨hx, hb, hml, hown, hts⟩ (c_X7_has l a (((mbase q) + (6 * i95)) + i104) (by omega)) (va_cwS 2 hts gX7_turned_X7_has rfl rfl rfl (by decide +kernel) ⟨Nat.le_of_ble_eq_true rfl, Nat.le_of_ble_eq_true rfl⟩) ⟨px_blind0, fun U hU hW => ⟨rfl, trivial⟩⟩ rfl rfl hl.1 rfl (lv_room (Nat.le_of_ble_eq_true rfl)) dX7_turned_153 ⟨(Nat.le_of_ble_eq_true rfl), (Nat.le_of_ble_eq_true rfl)⟩) (fun r153 er153 => ?_)
                      obtain rfl := er153.symm
                      refine pk_b (P := bt a (((mbase q) + (6 * i95)) + i104) = true) (fun b153 => ?_) (fun b153 => ?_)
                      · refine lv_if_eq (tgt := 169) hx hb dX7_turned_156 (by decide) (fun c156 => ?_) (fun c156 => ?_)
                        · exact absurd c156 (by decide)
                        · refine lv_lconst (v := 1) hx hb dX7_turned_159 (by decide) ?_
                          refine lv_iload hx hb dX7_turned_160 (lv_at hl 4 rfl) ?_
                          refine lv_iload hx hb dX7_turned_162 (lv_at hl 0 rfl) ?_
                          refine lv_iadd hx hb dX7_turned_164 ?_
                          refine pk_ti (y := nI ((mbase q) + (mto w i95 i104))) (nI_add (mbase q) (mto w i95 i104)) ?_
                          refine lv_lshl (v := jshl 1 (nI ((mbase q) + (mto w i95 i104)))) hx hb dX7_turned_165 rfl ?_
                          refine lv_topl (fun x165 ex165 => ?_)
                          refine lv_goto (tgt := 170) hx hb dX7_turned_166 (by decide) ?_
                          refine lv_lor hx hb dX7_turned_170 ?_
                          refine lv_topl (fun x170 ex170 => ?_)
                          refine lv_lstore (lv' := [(5, .long x170), (9, .int (nI (mto w i95 i104))), (8, .int (nI i104)), (7, .int (nI i95)), (4, .int (nI (mbase q))), (0, .long a), (2, .int (nI q)), (3, .int (nI w))]) hx hb dX7_turned_171 hl (by decide) rfl (fun ls hl => ?_)
                          refine lv_iinc (v := nI (i104 + 1)) (lv' := [(8, .int (nI (i104 + 1))), (5, .long x170), (9, .int (nI (mto w i95 i104))), (7, .int (nI i95)), (4, .int (nI (mbase q))), (0, .long a), (2, .int (nI q)), (3, .int (nI w))]) hx hb dX7_turned_173 hl (k := 2) rfl (nI_add i104 1) (by decide) rfl (fun ls hl => ?_)
                          refine lv_goto (tgt := 104) hx hb dX7_turned_176 (by decide) ?_
                          exact ih104 (i104 + 1) (by omega) ls (by { have e9 : (x170 : Int64) = (mset q w a (msets q w a (mclrs q w a 3) i95) i95 (i104 + 1)) := by { obtain rfl := ex165.symm; obtain rfl := ex170.symm; first | rfl | (simp only [mclr, mclrs, mset, msets]; simp_all; done) }; rw [← e9]; exact lv_sub hl [0, 1, 3, 4, 5, 6, 7] rfl })
                      · refine lv_if_eq (tgt := 169) hx hb dX7_turned_156 (by decide) (fun c156 => ?_) (fun c156 => ?_)
                        · refine lv_lconst (v := 0) hx hb dX7_turned_169 (by decide) ?_
                          refine lv_lor hx hb dX7_turned_170 ?_
                          refine lv_topl (fun x170 ex170 => ?_)
                          refine lv_lstore (lv' := [(5, .long x170), (9, .int (nI (mto w i95 i104))), (8, .int (nI i104)), (7, .int (nI i95)), (4, .int (nI (mbase q))), (0, .long a), (2, .int (nI q)), (3, .int (nI w))]) hx hb dX7_turned_171 hl (by decide) rfl (fun ls hl => ?_)
                          refine lv_iinc (v := nI (i104 + 1)) (lv' := [(8, .int (nI (i104 + 1))), (5, .long x170), (9, .int (nI (mto w i95 i104))), (7, .int (nI i95)), (4, .int (nI (mbase q))), (0, .long a), (2, .int (nI q)), (3, .int (nI w))]) hx hb dX7_turned_173 hl (k := 2) rfl (nI_add i104 1) (by decide) rfl (fun ls hl => ?_)
                          refine lv_goto (tgt := 104) hx hb dX7_turned_176 (by decide) ?_
                          exact ih104 (i104 + 1) (by omega) ls (by { have e9 : (x170 : Int64) = (mset q w a (msets q w a (mclrs q w a 3) i95) i95 (i104 + 1)) := by { obtain rfl := ex170.symm; first | rfl | (simp only [mclr, mclrs, mset, msets]; simp_all; done) }; rw [← e9]; exact lv_sub hl [0, 1, 3, 4, 5, 6, 7] rfl })
                        · exact absurd c156 (by decide)
                    · have c111 : w = 0 := (nq_eq (a := w) (b := 0) (by omega) (by omega)).mp c111
                      refine lv_bipush (v := 6) hx hb dX7_turned_114 (by decide) ?_
                      refine lv_iload hx hb dX7_turned_116 (lv_at hl 0 rfl) ?_
                      refine lv_imul hx hb dX7_turned_118 ?_
                      refine pk_ti (y := nI (6 * i104)) (pk_mul 6 i104) ?_
                      refine lv_iconst (v := 2) hx hb dX7_turned_119 (by decide) ?_
                      refine lv_iadd hx hb dX7_turned_120 ?_
                      refine pk_ti (y := nI ((6 * i104) + 2)) (nI_add (6 * i104) 2) ?_
                      refine lv_iload hx hb dX7_turned_121 (lv_at hl 2 rfl) ?_
                      refine lv_isub hx hb dX7_turned_123 ?_
                      refine pk_ti (y := nI (((6 * i104) + 2) - i95)) (pk_sub (a := ((6 * i104) + 2)) (b := i95) (by omega)) ?_
                      refine lv_goto (tgt := 137) hx hb dX7_turned_124 (by decide) ?_
                      refine pk_ti (y := nI (mto w i95 i104)) (congrArg nI (by unfold mto; first | exact (if_pos (by assumption)).symm | exact (if_neg (by assumption)).symm)) ?_
                      refine lv_istore (lv' := [(9, .int (nI (mto w i95 i104))), (8, .int (nI i104)), (5, .long (mset q w a (msets q w a (mclrs q w a 3) i95) i95 i104)), (7, .int (nI i95)), (4, .int (nI (mbase q))), (0, .long a), (2, .int (nI q)), (3, .int (nI w))]) hx hb dX7_turned_137 hl (by decide) rfl (fun ls hl => ?_)
                      refine lv_lload hx hb dX7_turned_139 (lv_at hl 2 rfl) ?_
                      refine lv_lload_n hx hb dX7_turned_141 rfl (lv_at hl 5 rfl) ?_
                      refine lv_iload hx hb dX7_turned_142 (lv_at hl 4 rfl) ?_
                      refine lv_bipush (v := 6) hx hb dX7_turned_144 (by decide) ?_
                      refine lv_iload hx hb dX7_turned_146 (lv_at hl 3 rfl) ?_
                      refine lv_imul hx hb dX7_turned_148 ?_
                      refine pk_ti (y := nI (6 * i95)) (pk_mul 6 i95) ?_
                      refine lv_iadd hx hb dX7_turned_149 ?_
                      refine pk_ti (y := nI ((mbase q) + (6 * i95))) (nI_add (mbase q) (6 * i95)) ?_
                      refine lv_iload hx hb dX7_turned_150 (lv_at hl 1 rfl) ?_
                      refine lv_iadd hx hb dX7_turned_152 ?_
                      refine pk_ti (y := nI (((mbase q) + (6 * i95)) + i104)) (nI_add ((mbase q) + (6 * i95)) i104) ?_
                      refine vp_callSi (W.runS (As := [.long a, .int (nI (((mbase q) + (6 * i95)) + i104))]) (rest := [.long (mset q w a (msets q w a (mclrs q w a 3) i95) i95 i104)]) ⟨hx, hb, hml, hown, hts⟩ (c_X7_has l a (((mbase q) + (6 * i95)) + i104) (by omega)) (va_cwS 2 hts gX7_turned_X7_has rfl rfl rfl (by decide +kernel) ⟨Nat.le_of_ble_eq_true rfl, Nat.le_of_ble_eq_true rfl⟩) ⟨px_blind0, fun U hU hW => ⟨rfl, trivial⟩⟩ rfl rfl hl.1 rfl (lv_room (Nat.le_of_ble_eq_true rfl)) dX7_turned_153 ⟨(Nat.le_of_ble_eq_true rfl), (Nat.le_of_ble_eq_true rfl)⟩) (fun r153 er153 => ?_)
                      obtain rfl := er153.symm
                      refine pk_b (P := bt a (((mbase q) + (6 * i95)) + i104) = true) (fun b153 => ?_) (fun b153 => ?_)
                      · refine lv_if_eq (tgt := 169) hx hb dX7_turned_156 (by decide) (fun c156 => ?_) (fun c156 => ?_)
                        · exact absurd c156 (by decide)
                        · refine lv_lconst (v := 1) hx hb dX7_turned_159 (by decide) ?_
                          refine lv_iload hx hb dX7_turned_160 (lv_at hl 4 rfl) ?_
                          refine lv_iload hx hb dX7_turned_162 (lv_at hl 0 rfl) ?_
                          refine lv_iadd hx hb dX7_turned_164 ?_
                          refine pk_ti (y := nI ((mbase q) + (mto w i95 i104))) (nI_add (mbase q) (mto w i95 i104)) ?_
                          refine lv_lshl (v := jshl 1 (nI ((mbase q) + (mto w i95 i104)))) hx hb dX7_turned_165 rfl ?_
                          refine lv_topl (fun x165 ex165 => ?_)
                          refine lv_goto (tgt := 170) hx hb dX7_turned_166 (by decide) ?_
                          refine lv_lor hx hb dX7_turned_170 ?_
                          refine lv_topl (fun x170 ex170 => ?_)
                          refine lv_lstore (lv' := [(5, .long x170), (9, .int (nI (mto w i95 i104))), (8, .int (nI i104)), (7, .int (nI i95)), (4, .int (nI (mbase q))), (0, .long a), (2, .int (nI q)), (3, .int (nI w))]) hx hb dX7_turned_171 hl (by decide) rfl (fun ls hl => ?_)
                          refine lv_iinc (v := nI (i104 + 1)) (lv' := [(8, .int (nI (i104 + 1))), (5, .long x170), (9, .int (nI (mto w i95 i104))), (7, .int (nI i95)), (4, .int (nI (mbase q))), (0, .long a), (2, .int (nI q)), (3, .int (nI w))]) hx hb dX7_turned_173 hl (k := 2) rfl (nI_add i104 1) (by decide) rfl (fun ls hl => ?_)
                          refine lv_goto (tgt := 104) hx hb dX7_turned_176 (by decide) ?_
                          exact ih104 (i104 + 1) (by omega) ls (by { have e9 : (x170 : Int64) = (mset q w a (msets q w a (mclrs q w a 3) i95) i95 (i104 + 1)) := by { obtain rfl := ex165.symm; obtain rfl := ex170.symm; first | rfl | (simp only [mclr, mclrs, mset, msets]; simp_all; done) }; rw [← e9]; exact lv_sub hl [0, 1, 3, 4, 5, 6, 7] rfl })
                      · refine lv_if_eq (tgt := 169) hx hb dX7_turned_156 (by decide) (fun c156 => ?_) (fun c156 => ?_)
                        · refine lv_lconst (v := 0) hx hb dX7_turned_169 (by decide) ?_
                          refine lv_lor hx hb dX7_turned_170 ?_
                          refine lv_topl (fun x170 ex170 => ?_)
                          refine lv_lstore (lv' := [(5, .long x170), (9, .int (nI (mto w i95 i104))), (8, .int (nI i104)), (7, .int (nI i95)), (4, .int (nI (mbase q))), (0, .long a), (2, .int (nI q)), (3, .int (nI w))]) hx hb dX7_turned_171 hl (by decide) rfl (fun ls hl => ?_)
                          refine lv_iinc (v := nI (i104 + 1)) (lv' := [(8, .int (nI (i104 + 1))), (5, .long x170), (9, .int (nI (mto w i95 i104))), (7, .int (nI i95)), (4, .int (nI (mbase q))), (0, .long a), (2, .int (nI q)), (3, .int (nI w))]) hx hb dX7_turned_173 hl (k := 2) rfl (nI_add i104 1) (by decide) rfl (fun ls hl => ?_)
                          refine lv_goto (tgt := 104) hx hb dX7_turned_176 (by decide) ?_
                          exact ih104 (i104 + 1) (by omega) ls (by { have e9 : (x170 : Int64) = (mset q w a (msets q w a (mclrs q w a 3) i95) i95 (i104 + 1)) := by { obtain rfl := ex170.symm; first | rfl | (simp only [mclr, mclrs, mset, msets]; simp_all; done) }; rw [← e9]; exact lv_sub hl [0, 1, 3, 4, 5, 6, 7] rfl })
                        · exact absurd c156 (by decide)
              exact loop104 3 0 (by omega) ls (by { have e9 : ((msets q w a (mclrs q w a 3) i95) : Int64) = (mset q w a (msets q w a (mclrs q w a 3) i95) i95 0) := by { skip; first | rfl | (simp only [mclr, mclrs, mset, msets]; simp_all; done) }; rw [← e9]; exact lv_sub hl [0, 2, 1, 3, 4, 5, 6] rfl })
        exact loop95 3 0 (by omega) ls (by { have e9 : ((mclrs q w a 3) : Int64) = (msets q w a (mclrs q w a 3) 0) := by { skip; first | rfl | (simp only [mclr, mclrs, mset, msets]; simp_all; done) }; rw [← e9]; exact lv_sub hl [0, 1, 2, 3, 4, 5] rfl })
      · have c23 : ¬ 3 ≤ 3 := _root_.mt (nq_le (a := 3) (b := 3) (by omega) (by omega)).mpr c23
        omega
    | succ nn ih20 =>
      intro i20 hi20 ls hl
      refine lv_iload hx hb dX7_turned_20 (lv_at hl 0 rfl) ?_
      refine lv_iconst (v := 3) hx hb dX7_turned_22 (by decide) ?_
      refine lv_icmp_ge (tgt := 92) hx hb dX7_turned_23 (by decide) (fun c23 => ?_) (fun c23 => ?_)
      · have c23 : 3 ≤ i20 := (nq_le (a := 3) (b := i20) (by omega) (by omega)).mp c23
        omega
      · have c23 : ¬ 3 ≤ i20 := _root_.mt (nq_le (a := 3) (b := i20) (by omega) (by omega)).mpr c23
        refine lv_iconst (v := 0) hx hb dX7_turned_26 (by decide) ?_
        refine lv_istore (lv' := [(8, .int 0), (7, .int (nI i20)), (5, .long (mclrs q w a i20)), (4, .int (nI (mbase q))), (0, .long a), (2, .int (nI q)), (3, .int (nI w))]) hx hb dX7_turned_27 hl (by decide) rfl (fun ls hl => ?_)
        have loop29 : ∀ (nn i29 : Nat), i29 + nn = 3 → ∀ ls, lv_has ls 10 [(8, .int (nI i29)), (5, .long (mclr q w (mclrs q w a i20) i20 i29)), (7, .int (nI i20)), (4, .int (nI (mbase q))), (0, .long a), (2, .int (nI q)), (3, .int (nI w))] → W p l e (headSpec wsX7_turned ({ frames := 1, cells := 0, slots := 0, locals := 22 } : Room)).room s m ([.long a, .int (nI q), .int (nI w)] : List Value).toArray below meth c s.heap [] 0 0 (MQ below (vp_Sl (fun r => r = mturned a q w)) ([.long a, .int (nI q), .int (nI w)] : List Value).toArray s 0 0 (fun _ => False)) (F0 m 29 ls []) := by
          intro nn
          induction nn with
          | zero =>
            intro i29 hi29 ls hl
            obtain rfl : i29 = 3 := by omega
            refine lv_iload hx hb dX7_turned_29 (lv_at hl 0 rfl) ?_
            refine lv_iconst (v := 3) hx hb dX7_turned_31 (by decide) ?_
            refine lv_icmp_ge (tgt := 86) hx hb dX7_turned_32 (by decide) (fun c32 => ?_) (fun c32 => ?_)
            · have c32 : 3 ≤ 3 := (nq_le (a := 3) (b := 3) (by omega) (by omega)).mp c32
              refine lv_iinc (v := nI (i20 + 1)) (lv' := [(7, .int (nI (i20 + 1))), (8, .int (nI 3)), (5, .long (mclr q w (mclrs q w a i20) i20 3)), (4, .int (nI (mbase q))), (0, .long a), (2, .int (nI q)), (3, .int (nI w))]) hx hb dX7_turned_86 hl (k := 2) rfl (nI_add i20 1) (by decide) rfl (fun ls hl => ?_)
              refine lv_goto (tgt := 20) hx hb dX7_turned_89 (by decide) ?_
              exact ih20 (i20 + 1) (by omega) ls (by { have e9 : ((mclr q w (mclrs q w a i20) i20 3) : Int64) = (mclrs q w a (i20 + 1)) := by { skip; first | rfl | (simp only [mclr, mclrs, mset, msets]; simp_all; done) }; rw [← e9]; exact lv_sub hl [0, 2, 3, 4, 5, 6] rfl })
            · have c32 : ¬ 3 ≤ 3 := _root_.mt (nq_le (a := 3) (b := 3) (by omega) (by omega)).mpr c32
              omega
          | succ nn ih29 =>
            intro i29 hi29 ls hl
            refine lv_iload hx hb dX7_turned_29 (lv_at hl 0 rfl) ?_
            refine lv_iconst (v := 3) hx hb dX7_turned_31 (by decide) ?_
            refine lv_icmp_ge (tgt := 86) hx hb dX7_turned_32 (by decide) (fun c32 => ?_) (fun c32 => ?_)
            · have c32 : 3 ≤ i29 := (nq_le (a := 3) (b := i29) (by omega) (by omega)).mp c32
              omega
            · have c32 : ¬ 3 ≤ i29 := _root_.mt (nq_le (a := 3) (b := i29) (by omega) (by omega)).mpr c32
              have hto := mto_lt (q := q) (w := w) (r := i20) (c := i29) hq (by omega) (by omega)
              refine lv_iload_n hx hb dX7_turned_35 rfl (lv_at hl 6 rfl) ?_
              refine lv_if_ne (tgt := 52) hx hb dX7_turned_36 (by decide) (fun c36 => ?_) (fun c36 => ?_)
              · have c36 : ¬ w = 0 := _root_.mt (nq_eq (a := w) (b := 0) (by omega) (by omega)).mpr c36
                refine lv_bipush (v := 6) hx hb dX7_turned_52 (by decide) ?_
                refine lv_iconst (v := 2) hx hb dX7_turned_54 (by decide) ?_
                refine lv_iload hx hb dX7_turned_55 (lv_at hl 0 rfl) ?_
                refine lv_isub hx hb dX7_turned_57 ?_
                refine pk_ti (y := nI (2 - i29)) (pk_sub (a := 2) (b := i29) (by omega)) ?_
                refine lv_imul hx hb dX7_turned_58 ?_
                refine pk_ti (y := nI (6 * (2 - i29))) (pk_mul 6 (2 - i29)) ?_
                refine lv_iload hx hb dX7_turned_59 (lv_at hl 2 rfl) ?_
                refine lv_iadd hx hb dX7_turned_61 ?_
                refine pk_ti (y := nI ((6 * (2 - i29)) + i20)) (nI_add (6 * (2 - i29)) i20) ?_
                refine pk_ti (y := nI (mto w i20 i29)) (congrArg nI (by unfold mto; first | exact (if_pos (by assumption)).symm | exact (if_neg (by assumption)).symm)) ?_
                refine lv_istore (lv' := [(9, .int (nI (mto w i20 i29))), (8, .int (nI i29)), (5, .long (mclr q w (mclrs q w a i20) i20 i29)), (7, .int (nI i20)), (4, .int (nI (mbase q))), (0, .long a), (2, .int (nI q)), (3, .int (nI w))]) hx hb dX7_turned_62 hl (by decide) rfl (fun ls hl => ?_)
                refine lv_lload hx hb dX7_turned_64 (lv_at hl 2 rfl) ?_
                refine lv_lconst (v := 1) hx hb dX7_turned_66 (by decide) ?_
                refine lv_iload hx hb dX7_turned_67 (lv_at hl 4 rfl) ?_
                refine lv_iload hx hb dX7_turned_69 (lv_at hl 0 rfl) ?_
                refine lv_iadd hx hb dX7_turned_71 ?_
                refine pk_ti (y := nI ((mbase q) + (mto w i20 i29))) (nI_add (mbase q) (mto w i20 i29)) ?_
                refine lv_lshl (v := jshl 1 (nI ((mbase q) + (mto w i20 i29)))) hx hb dX7_turned_72 rfl ?_
                refine lv_topl (fun x72 ex72 => ?_)
                refine lv_ldc2 (v := (-1)) hx hb hown (hts (.constantLong RX7 61 (-1)) (by decide +kernel)) dX7_turned_73 ?_
                refine lv_lxor hx hb dX7_turned_76 ?_
                refine lv_topl (fun x76 ex76 => ?_)
                refine lv_land hx hb dX7_turned_77 ?_
                refine lv_topl (fun x77 ex77 => ?_)
                refine lv_lstore (lv' := [(5, .long x77), (9, .int (nI (mto w i20 i29))), (8, .int (nI i29)), (7, .int (nI i20)), (4, .int (nI (mbase q))), (0, .long a), (2, .int (nI q)), (3, .int (nI w))]) hx hb dX7_turned_78 hl (by decide) rfl (fun ls hl => ?_)
                refine lv_iinc (v := nI (i29 + 1)) (lv' := [(8, .int (nI (i29 + 1))), (5, .long x77), (9, .int (nI (mto w i20 i29))), (7, .int (nI i20)), (4, .int (nI (mbase q))), (0, .long a), (2, .int (nI q)), (3, .int (nI w))]) hx hb dX7_turned_80 hl (k := 2) rfl (nI_add i29 1) (by decide) rfl (fun ls hl => ?_)
                refine lv_goto (tgt := 29) hx hb dX7_turned_83 (by decide) ?_
                exact ih29 (i29 + 1) (by omega) ls (by { have e9 : (x77 : Int64) = (mclr q w (mclrs q w a i20) i20 (i29 + 1)) := by { obtain rfl := ex72.symm; obtain rfl := ex76.symm; obtain rfl := ex77.symm; first | rfl | (simp only [mclr, mclrs, mset, msets]; simp_all; done) }; rw [← e9]; exact lv_sub hl [0, 1, 3, 4, 5, 6, 7] rfl })
              · have c36 : w = 0 := (nq_eq (a := w) (b := 0) (by omega) (by omega)).mp c36
                refine lv_bipush (v := 6) hx hb dX7_turned_39 (by decide) ?_
                refine lv_iload hx hb dX7_turned_41 (lv_at hl 0 rfl) ?_
                refine lv_imul hx hb dX7_turned_43 ?_
                refine pk_ti (y := nI (6 * i29)) (pk_mul 6 i29) ?_
                refine lv_iconst (v := 2) hx hb dX7_turned_44 (by decide) ?_
                refine lv_iadd hx hb dX7_turned_45 ?_
                refine pk_ti (y := nI ((6 * i29) + 2)) (nI_add (6 * i29) 2) ?_
                refine lv_iload hx hb dX7_turned_46 (lv_at hl 2 rfl) ?_
                refine lv_isub hx hb dX7_turned_48 ?_
                refine pk_ti (y := nI (((6 * i29) + 2) - i20)) (pk_sub (a := ((6 * i29) + 2)) (b := i20) (by omega)) ?_
                refine lv_goto (tgt := 62) hx hb dX7_turned_49 (by decide) ?_
                refine pk_ti (y := nI (mto w i20 i29)) (congrArg nI (by unfold mto; first | exact (if_pos (by assumption)).symm | exact (if_neg (by assumption)).symm)) ?_
                refine lv_istore (lv' := [(9, .int (nI (mto w i20 i29))), (8, .int (nI i29)), (5, .long (mclr q w (mclrs q w a i20) i20 i29)), (7, .int (nI i20)), (4, .int (nI (mbase q))), (0, .long a), (2, .int (nI q)), (3, .int (nI w))]) hx hb dX7_turned_62 hl (by decide) rfl (fun ls hl => ?_)
                refine lv_lload hx hb dX7_turned_64 (lv_at hl 2 rfl) ?_
                refine lv_lconst (v := 1) hx hb dX7_turned_66 (by decide) ?_
                refine lv_iload hx hb dX7_turned_67 (lv_at hl 4 rfl) ?_
                refine lv_iload hx hb dX7_turned_69 (lv_at hl 0 rfl) ?_
                refine lv_iadd hx hb dX7_turned_71 ?_
                refine pk_ti (y := nI ((mbase q) + (mto w i20 i29))) (nI_add (mbase q) (mto w i20 i29)) ?_
                refine lv_lshl (v := jshl 1 (nI ((mbase q) + (mto w i20 i29)))) hx hb dX7_turned_72 rfl ?_
                refine lv_topl (fun x72 ex72 => ?_)
                refine lv_ldc2 (v := (-1)) hx hb hown (hts (.constantLong RX7 61 (-1)) (by decide +kernel)) dX7_turned_73 ?_
                refine lv_lxor hx hb dX7_turned_76 ?_
                refine lv_topl (fun x76 ex76 => ?_)
                refine lv_land hx hb dX7_turned_77 ?_
                refine lv_topl (fun x77 ex77 => ?_)
                refine lv_lstore (lv' := [(5, .long x77), (9, .int (nI (mto w i20 i29))), (8, .int (nI i29)), (7, .int (nI i20)), (4, .int (nI (mbase q))), (0, .long a), (2, .int (nI q)), (3, .int (nI w))]) hx hb dX7_turned_78 hl (by decide) rfl (fun ls hl => ?_)
                refine lv_iinc (v := nI (i29 + 1)) (lv' := [(8, .int (nI (i29 + 1))), (5, .long x77), (9, .int (nI (mto w i20 i29))), (7, .int (nI i20)), (4, .int (nI (mbase q))), (0, .long a), (2, .int (nI q)), (3, .int (nI w))]) hx hb dX7_turned_80 hl (k := 2) rfl (nI_add i29 1) (by decide) rfl (fun ls hl => ?_)
                refine lv_goto (tgt := 29) hx hb dX7_turned_83 (by decide) ?_
                exact ih29 (i29 + 1) (by omega) ls (by { have e9 : (x77 : Int64) = (mclr q w (mclrs q w a i20) i20 (i29 + 1)) := by { obtain rfl := ex72.symm; obtain rfl := ex76.symm; obtain rfl := ex77.symm; first | rfl | (simp only [mclr, mclrs, mset, msets]; simp_all; done) }; rw [← e9]; exact lv_sub hl [0, 1, 3, 4, 5, 6, 7] rfl })
        exact loop29 3 0 (by omega) ls (by { have e9 : ((mclrs q w a i20) : Int64) = (mclr q w (mclrs q w a i20) i20 0) := by { skip; first | rfl | (simp only [mclr, mclrs, mset, msets]; simp_all; done) }; rw [← e9]; exact lv_sub hl [0, 2, 1, 3, 4, 5, 6] rfl })
  exact loop20 3 0 (by omega) ls (by { have e9 : (a : Int64) = (mclrs q w a 0) := by { skip; first | rfl | (simp only [mclr, mclrs, mset, msets]; simp_all; done) }; rw [← e9]; exact lv_sub hl [0, 1, 2, 3, 4, 5] rfl })
set_option maxHeartbeats 400000 in
set_option maxRecDepth 100000 in
theorem c_J13_bitCount_95d88 (l : Launch) (a : Int64) : Met l yJ13_bitCount_95d88 wsJ13_bitCount_95d88 ({ frames := 0, cells := 0, slots := 0, locals := 0 } : Room) (va_Pc [.long a] (fun _ => True)) (vp_Si (fun r => r = nI (pop a))) 0 0 (fun _ => False) := by
  refine Met.ofW (cc := cJ13_bitCount_95d88) (maxL := 2) (ret := (some .int)) (by decide) rfl ?_
  intro p e s m args below meth c s₁ B hml hv
  obtain ⟨rfl, -⟩ := hv
  have hx := B.exec
  have hb := B.bytes
  have hr := B.returns
  have hts := atoms_spec (ws := wsJ13_bitCount_95d88) B.pre
  have hown : s.vm.findClass RJ13 = some m.cls := findClass_of_methodNamed B.named
  have hlocks := B.notSynchronized
  have hl := lv_entry ([.long a]) (n := 2) (Nat.le_of_ble_eq_true rfl)
  rw [lg_entry_eq]
  generalize (lg_sl ([.long a]) ++ List.replicate (2 - (lg_sl ([.long a])).length) Slot.unset).toArray = ls at hl ⊢
  have hl : lv_has ls 2 [(0, .long a)] := hl
  refine lv_lload_n hx hb dJ13_bitCount_95d88_0 rfl (lv_at hl 0 rfl) ?_
  refine lv_lload_n hx hb dJ13_bitCount_95d88_1 rfl (lv_at hl 0 rfl) ?_
  refine lv_iconst (v := 1) hx hb dJ13_bitCount_95d88_2 (by decide) ?_
  refine lv_lushr (v := jushr a 1) hx hb dJ13_bitCount_95d88_3 rfl ?_
  refine lv_topl (fun x3 ex3 => ?_)
  refine lv_ldc2 (v := 6148914691236517205) hx hb hown (hts (.constantLong RJ13 314 (6148914691236517205)) (by decide +kernel)) dJ13_bitCount_95d88_4 ?_
  refine lv_land hx hb dJ13_bitCount_95d88_7 ?_
  refine lv_topl (fun x7 ex7 => ?_)
  refine lv_lsub hx hb dJ13_bitCount_95d88_8 ?_
  refine lv_topl (fun x8 ex8 => ?_)
  refine lv_lstore_n (lv' := [(0, .long x8)]) hx hb dJ13_bitCount_95d88_9 rfl hl (by decide) rfl (fun ls hl => ?_)
  refine lv_lload_n hx hb dJ13_bitCount_95d88_10 rfl (lv_at hl 0 rfl) ?_
  refine lv_ldc2 (v := 3689348814741910323) hx hb hown (hts (.constantLong RJ13 316 (3689348814741910323)) (by decide +kernel)) dJ13_bitCount_95d88_11 ?_
  refine lv_land hx hb dJ13_bitCount_95d88_14 ?_
  refine lv_topl (fun x14 ex14 => ?_)
  refine lv_lload_n hx hb dJ13_bitCount_95d88_15 rfl (lv_at hl 0 rfl) ?_
  refine lv_iconst (v := 2) hx hb dJ13_bitCount_95d88_16 (by decide) ?_
  refine lv_lushr (v := jushr x8 2) hx hb dJ13_bitCount_95d88_17 rfl ?_
  refine lv_topl (fun x17 ex17 => ?_)
  refine lv_ldc2 (v := 3689348814741910323) hx hb hown (hts (.constantLong RJ13 316 (3689348814741910323)) (by decide +kernel)) dJ13_bitCount_95d88_18 ?_
  refine lv_land hx hb dJ13_bitCount_95d88_21 ?_
  refine lv_topl (fun x21 ex21 => ?_)
  refine lv_ladd hx hb dJ13_bitCount_95d88_22 ?_
  refine lv_topl (fun x22 ex22 => ?_)
  refine lv_lstore_n (lv' := [(0, .long x22)]) hx hb dJ13_bitCount_95d88_23 rfl hl (by decide) rfl (fun ls hl => ?_)
  refine lv_lload_n hx hb dJ13_bitCount_95d88_24 rfl (lv_at hl 0 rfl) ?_
  refine lv_lload_n hx hb dJ13_bitCount_95d88_25 rfl (lv_at hl 0 rfl) ?_
  refine lv_iconst (v := 4) hx hb dJ13_bitCount_95d88_26 (by decide) ?_
  refine lv_lushr (v := jushr x22 4) hx hb dJ13_bitCount_95d88_27 rfl ?_
  refine lv_topl (fun x27 ex27 => ?_)
  refine lv_ladd hx hb dJ13_bitCount_95d88_28 ?_
  refine lv_topl (fun x28 ex28 => ?_)
  refine lv_ldc2 (v := 1085102592571150095) hx hb hown (hts (.constantLong RJ13 318 (1085102592571150095)) (by decide +kernel)) dJ13_bitCount_95d88_29 ?_
  refine lv_land hx hb dJ13_bitCount_95d88_32 ?_
  refine lv_topl (fun x32 ex32 => ?_)
  refine lv_lstore_n (lv' := [(0, .long x32)]) hx hb dJ13_bitCount_95d88_33 rfl hl (by decide) rfl (fun ls hl => ?_)
  refine lv_lload_n hx hb dJ13_bitCount_95d88_34 rfl (lv_at hl 0 rfl) ?_
  refine lv_lload_n hx hb dJ13_bitCount_95d88_35 rfl (lv_at hl 0 rfl) ?_
  refine lv_bipush (v := 8) hx hb dJ13_bitCount_95d88_36 (by decide) ?_
  refine lv_lushr (v := jushr x32 8) hx hb dJ13_bitCount_95d88_38 rfl ?_
  refine lv_topl (fun x38 ex38 => ?_)
  refine lv_ladd hx hb dJ13_bitCount_95d88_39 ?_
  refine lv_topl (fun x39 ex39 => ?_)
  refine lv_lstore_n (lv' := [(0, .long x39)]) hx hb dJ13_bitCount_95d88_40 rfl hl (by decide) rfl (fun ls hl => ?_)
  refine lv_lload_n hx hb dJ13_bitCount_95d88_41 rfl (lv_at hl 0 rfl) ?_
  refine lv_lload_n hx hb dJ13_bitCount_95d88_42 rfl (lv_at hl 0 rfl) ?_
  refine lv_bipush (v := 16) hx hb dJ13_bitCount_95d88_43 (by decide) ?_
  refine lv_lushr (v := jushr x39 16) hx hb dJ13_bitCount_95d88_45 rfl ?_
  refine lv_topl (fun x45 ex45 => ?_)
  refine lv_ladd hx hb dJ13_bitCount_95d88_46 ?_
  refine lv_topl (fun x46 ex46 => ?_)
  refine lv_lstore_n (lv' := [(0, .long x46)]) hx hb dJ13_bitCount_95d88_47 rfl hl (by decide) rfl (fun ls hl => ?_)
  refine lv_lload_n hx hb dJ13_bitCount_95d88_48 rfl (lv_at hl 0 rfl) ?_
  refine lv_lload_n hx hb dJ13_bitCount_95d88_49 rfl (lv_at hl 0 rfl) ?_
  refine lv_bipush (v := 32) hx hb dJ13_bitCount_95d88_50 (by decide) ?_
  refine lv_lushr (v := jushr x46 32) hx hb dJ13_bitCount_95d88_52 rfl ?_
  refine lv_topl (fun x52 ex52 => ?_)
  refine lv_ladd hx hb dJ13_bitCount_95d88_53 ?_
  refine lv_topl (fun x53 ex53 => ?_)
  refine lv_lstore_n (lv' := [(0, .long x53)]) hx hb dJ13_bitCount_95d88_54 rfl hl (by decide) rfl (fun ls hl => ?_)
  refine lv_lload_n hx hb dJ13_bitCount_95d88_55 rfl (lv_at hl 0 rfl) ?_
  refine lv_l2i (v := (x53 : Int64).toInt32) hx hb dJ13_bitCount_95d88_56 rfl ?_
  refine lv_topi (fun x56 ex56 => ?_)
  refine lv_bipush (v := 127) hx hb dJ13_bitCount_95d88_57 (by decide) ?_
  refine lv_iand hx hb dJ13_bitCount_95d88_59 ?_
  refine lv_topi (fun x59 ex59 => ?_)
  refine W.iret (v := x59) hx hb hr (fun tt ht hW => ⟨x59, rfl, ?_, ht⟩) (fun _ h => nomatch h) dJ13_bitCount_95d88_60
  obtain rfl := ex3.symm; obtain rfl := ex7.symm; obtain rfl := ex8.symm; obtain rfl := ex14.symm; obtain rfl := ex17.symm; obtain rfl := ex21.symm; obtain rfl := ex22.symm; obtain rfl := ex27.symm; obtain rfl := ex28.symm; obtain rfl := ex32.symm; obtain rfl := ex38.symm; obtain rfl := ex39.symm; obtain rfl := ex45.symm; obtain rfl := ex46.symm; obtain rfl := ex52.symm; obtain rfl := ex53.symm; obtain rfl := ex56.symm; obtain rfl := ex59.symm; exact jbits_pop a

set_option maxHeartbeats 400000 in
set_option maxRecDepth 100000 in
theorem c_X1_fives (l : Launch) (a : Int64) (n : Nat) (hn : n < 8) : Met l yX1_fives wsX1_fives ({ frames := 0, cells := 0, slots := 0, locals := 0 } : Room) (va_Pc [.long a, .int (nI n)] (fun _ => True)) (vp_Sl (fun r => r = cfives a n)) 0 0 (fun _ => False) := by
  refine Met.ofW (cc := cX1_fives) (maxL := 5) (ret := (some .long)) (by decide) rfl ?_
  intro p e s m args below meth c s₁ B hml hv
  obtain ⟨rfl, -⟩ := hv
  have hx := B.exec
  have hb := B.bytes
  have hr := B.returns
  have hts := atoms_spec (ws := wsX1_fives) B.pre
  have hown : s.vm.findClass RX1 = some m.cls := findClass_of_methodNamed B.named
  have hlocks := B.notSynchronized
  have hl := lv_entry ([.long a, .int (nI n)]) (n := 5) (Nat.le_of_ble_eq_true rfl)
  rw [lg_entry_eq]
  generalize (lg_sl ([.long a, .int (nI n)]) ++ List.replicate (5 - (lg_sl ([.long a, .int (nI n)])).length) Slot.unset).toArray = ls at hl ⊢
  have hl : lv_has ls 5 [(0, .long a), (2, .int (nI n))] := hl
  refine lv_lload_n hx hb dX1_fives_0 rfl (lv_at hl 0 rfl) ?_
  refine lv_lload_n hx hb dX1_fives_1 rfl (lv_at hl 0 rfl) ?_
  refine lv_iload_n hx hb dX1_fives_2 rfl (lv_at hl 1 rfl) ?_
  refine lv_lushr (v := jushr a (nI n)) hx hb dX1_fives_3 rfl ?_
  refine lv_topl (fun x3 ex3 => ?_)
  refine lv_land hx hb dX1_fives_4 ?_
  refine lv_topl (fun x4 ex4 => ?_)
  refine lv_lstore_n (lv' := [(3, .long x4), (0, .long a), (2, .int (nI n))]) hx hb dX1_fives_5 rfl hl (by decide) rfl (fun ls hl => ?_)
  refine lv_lload_n hx hb dX1_fives_6 rfl (lv_at hl 0 rfl) ?_
  refine lv_lload_n hx hb dX1_fives_7 rfl (lv_at hl 0 rfl) ?_
  refine lv_iconst (v := 2) hx hb dX1_fives_8 (by decide) ?_
  refine lv_iload_n hx hb dX1_fives_9 rfl (lv_at hl 2 rfl) ?_
  refine lv_imul hx hb dX1_fives_10 ?_
  refine pk_ti (y := nI (2 * n)) (pk_mul 2 n) ?_
  refine lv_lushr (v := jushr x4 (nI (2 * n))) hx hb dX1_fives_11 rfl ?_
  refine lv_topl (fun x11 ex11 => ?_)
  refine lv_land hx hb dX1_fives_12 ?_
  refine lv_topl (fun x12 ex12 => ?_)
  refine lv_lload_n hx hb dX1_fives_13 rfl (lv_at hl 1 rfl) ?_
  refine lv_iconst (v := 4) hx hb dX1_fives_14 (by decide) ?_
  refine lv_iload_n hx hb dX1_fives_15 rfl (lv_at hl 2 rfl) ?_
  refine lv_imul hx hb dX1_fives_16 ?_
  refine pk_ti (y := nI (4 * n)) (pk_mul 4 n) ?_
  refine lv_lushr (v := jushr a (nI (4 * n))) hx hb dX1_fives_17 rfl ?_
  refine lv_topl (fun x17 ex17 => ?_)
  refine lv_land hx hb dX1_fives_18 ?_
  refine lv_topl (fun x18 ex18 => ?_)
  refine W.lret (v := x18) hx hb hr (fun tt ht hW => ⟨x18, rfl, ?_, ht⟩) (fun _ h => nomatch h) dX1_fives_19
  obtain rfl := ex3.symm; obtain rfl := ex4.symm; obtain rfl := ex11.symm; obtain rfl := ex12.symm; obtain rfl := ex17.symm; obtain rfl := ex18.symm; rfl

set_option maxHeartbeats 400000 in
set_option maxRecDepth 100000 in
theorem c_X1_hasLine (l : Launch) (a : Int64) : Met l yX1_hasLine wsX1_hasLine ({ frames := 1, cells := 0, slots := 0, locals := 24 } : Room) (va_Pc [.long a] (fun _ => True)) (vp_Si (fun r => r = if cline a = true then 1 else 0)) 0 0 (fun _ => False) := by
  refine Met.ofW (cc := cX1_hasLine) (maxL := 2) (ret := (some .boolean)) (by decide) rfl ?_
  intro p e s m args below meth c s₁ B hml hv
  obtain ⟨rfl, -⟩ := hv
  have hx := B.exec
  have hb := B.bytes
  have hr := B.returns
  have hts := atoms_spec (ws := wsX1_hasLine) B.pre
  have hown : s.vm.findClass RX1 = some m.cls := findClass_of_methodNamed B.named
  have hlocks := B.notSynchronized
  have hl := lv_entry ([.long a]) (n := 2) (Nat.le_of_ble_eq_true rfl)
  rw [lg_entry_eq]
  generalize (lg_sl ([.long a]) ++ List.replicate (2 - (lg_sl ([.long a])).length) Slot.unset).toArray = ls at hl ⊢
  have hl : lv_has ls 2 [(0, .long a)] := hl
  refine lv_lload_n hx hb dX1_hasLine_0 rfl (lv_at hl 0 rfl) ?_
  refine lv_iconst (v := 1) hx hb dX1_hasLine_1 (by decide) ?_
  refine vp_callSl (W.runS (As := [.long a, .int 1]) (rest := []) ⟨hx, hb, hml, hown, hts⟩ (c_X1_fives l a 1 (by omega)) (va_cwS 2 hts gX1_hasLine_X1_fives rfl rfl rfl (by decide +kernel) ⟨Nat.le_of_ble_eq_true rfl, Nat.le_of_ble_eq_true rfl⟩) ⟨px_blind0, fun U hU hW => ⟨rfl, trivial⟩⟩ rfl rfl hl.1 rfl (lv_room (Nat.le_of_ble_eq_true rfl)) dX1_hasLine_2 ⟨(Nat.le_of_ble_eq_true rfl), (Nat.le_of_ble_eq_true rfl)⟩) (fun r2 er2 => ?_)
  obtain rfl := er2.symm
  refine lv_ldc2 (v := 3272356035) hx hb hown (hts (.constantLong RX1 15 (3272356035)) (by decide +kernel)) dX1_hasLine_5 ?_
  refine lv_land hx hb dX1_hasLine_8 ?_
  refine lv_topl (fun x8 ex8 => ?_)
  refine lv_lconst (v := 0) hx hb dX1_hasLine_9 (by decide) ?_
  refine W.lcmp hx hb dX1_hasLine_10 ?_
  refine lv_if_ne (tgt := 58) hx hb dX1_hasLine_11 (by decide) (fun c11 => ?_) (fun c11 => ?_)
  · rw [lg_cmp_eq] at c11
    refine lv_iconst (v := 1) hx hb dX1_hasLine_58 (by decide) ?_
    refine lv_goto (tgt := 63) hx hb dX1_hasLine_59 (by decide) ?_
    refine W.zret (v := 1) hx hb hr (rfl) (fun tt ht hW => ⟨1, rfl, ?_, ht⟩) (fun _ h => nomatch h) dX1_hasLine_63
    obtain rfl := ex8.symm; simp only [cline]; simp_all
  · rw [lg_cmp_eq] at c11
    refine lv_lload_n hx hb dX1_hasLine_14 rfl (lv_at hl 0 rfl) ?_
    refine lv_bipush (v := 6) hx hb dX1_hasLine_15 (by decide) ?_
    refine vp_callSl (W.runS (As := [.long a, .int 6]) (rest := []) ⟨hx, hb, hml, hown, hts⟩ (c_X1_fives l a 6 (by omega)) (va_cwS 2 hts gX1_hasLine_X1_fives rfl rfl rfl (by decide +kernel) ⟨Nat.le_of_ble_eq_true rfl, Nat.le_of_ble_eq_true rfl⟩) ⟨px_blind0, fun U hU hW => ⟨rfl, trivial⟩⟩ rfl rfl hl.1 rfl (lv_room (Nat.le_of_ble_eq_true rfl)) dX1_hasLine_17 ⟨(Nat.le_of_ble_eq_true rfl), (Nat.le_of_ble_eq_true rfl)⟩) (fun r17 er17 => ?_)
    obtain rfl := er17.symm
    refine lv_ldc2 (v := 4095) hx hb hown (hts (.constantLong RX1 17 (4095)) (by decide +kernel)) dX1_hasLine_20 ?_
    refine lv_land hx hb dX1_hasLine_23 ?_
    refine lv_topl (fun x23 ex23 => ?_)
    refine lv_lconst (v := 0) hx hb dX1_hasLine_24 (by decide) ?_
    refine W.lcmp hx hb dX1_hasLine_25 ?_
    refine lv_if_ne (tgt := 58) hx hb dX1_hasLine_26 (by decide) (fun c26 => ?_) (fun c26 => ?_)
    · rw [lg_cmp_eq] at c26
      refine lv_iconst (v := 1) hx hb dX1_hasLine_58 (by decide) ?_
      refine lv_goto (tgt := 63) hx hb dX1_hasLine_59 (by decide) ?_
      refine W.zret (v := 1) hx hb hr (rfl) (fun tt ht hW => ⟨1, rfl, ?_, ht⟩) (fun _ h => nomatch h) dX1_hasLine_63
      obtain rfl := ex8.symm; obtain rfl := ex23.symm; simp only [cline]; simp_all
    · rw [lg_cmp_eq] at c26
      refine lv_lload_n hx hb dX1_hasLine_29 rfl (lv_at hl 0 rfl) ?_
      refine lv_bipush (v := 7) hx hb dX1_hasLine_30 (by decide) ?_
      refine vp_callSl (W.runS (As := [.long a, .int 7]) (rest := []) ⟨hx, hb, hml, hown, hts⟩ (c_X1_fives l a 7 (by omega)) (va_cwS 2 hts gX1_hasLine_X1_fives rfl rfl rfl (by decide +kernel) ⟨Nat.le_of_ble_eq_true rfl, Nat.le_of_ble_eq_true rfl⟩) ⟨px_blind0, fun U hU hW => ⟨rfl, trivial⟩⟩ rfl rfl hl.1 rfl (lv_room (Nat.le_of_ble_eq_true rfl)) dX1_hasLine_32 ⟨(Nat.le_of_ble_eq_true rfl), (Nat.le_of_ble_eq_true rfl)⟩) (fun r32 er32 => ?_)
      obtain rfl := er32.symm
      refine lv_ldc2 (v := 195) hx hb hown (hts (.constantLong RX1 19 (195)) (by decide +kernel)) dX1_hasLine_35 ?_
      refine lv_land hx hb dX1_hasLine_38 ?_
      refine lv_topl (fun x38 ex38 => ?_)
      refine lv_lconst (v := 0) hx hb dX1_hasLine_39 (by decide) ?_
      refine W.lcmp hx hb dX1_hasLine_40 ?_
      refine lv_if_ne (tgt := 58) hx hb dX1_hasLine_41 (by decide) (fun c41 => ?_) (fun c41 => ?_)
      · rw [lg_cmp_eq] at c41
        refine lv_iconst (v := 1) hx hb dX1_hasLine_58 (by decide) ?_
        refine lv_goto (tgt := 63) hx hb dX1_hasLine_59 (by decide) ?_
        refine W.zret (v := 1) hx hb hr (rfl) (fun tt ht hW => ⟨1, rfl, ?_, ht⟩) (fun _ h => nomatch h) dX1_hasLine_63
        obtain rfl := ex8.symm; obtain rfl := ex23.symm; obtain rfl := ex38.symm; simp only [cline]; simp_all
      · rw [lg_cmp_eq] at c41
        refine lv_lload_n hx hb dX1_hasLine_44 rfl (lv_at hl 0 rfl) ?_
        refine lv_iconst (v := 5) hx hb dX1_hasLine_45 (by decide) ?_
        refine vp_callSl (W.runS (As := [.long a, .int 5]) (rest := []) ⟨hx, hb, hml, hown, hts⟩ (c_X1_fives l a 5 (by omega)) (va_cwS 2 hts gX1_hasLine_X1_fives rfl rfl rfl (by decide +kernel) ⟨Nat.le_of_ble_eq_true rfl, Nat.le_of_ble_eq_true rfl⟩) ⟨px_blind0, fun U hU hW => ⟨rfl, trivial⟩⟩ rfl rfl hl.1 rfl (lv_room (Nat.le_of_ble_eq_true rfl)) dX1_hasLine_46 ⟨(Nat.le_of_ble_eq_true rfl), (Nat.le_of_ble_eq_true rfl)⟩) (fun r46 er46 => ?_)
        obtain rfl := er46.symm
        refine lv_ldc2 (v := 3120) hx hb hown (hts (.constantLong RX1 21 (3120)) (by decide +kernel)) dX1_hasLine_49 ?_
        refine lv_land hx hb dX1_hasLine_52 ?_
        refine lv_topl (fun x52 ex52 => ?_)
        refine lv_lconst (v := 0) hx hb dX1_hasLine_53 (by decide) ?_
        refine W.lcmp hx hb dX1_hasLine_54 ?_
        refine lv_if_eq (tgt := 62) hx hb dX1_hasLine_55 (by decide) (fun c55 => ?_) (fun c55 => ?_)
        · rw [lg_cmp_eq] at c55
          refine lv_iconst (v := 0) hx hb dX1_hasLine_62 (by decide) ?_
          refine W.zret (v := 0) hx hb hr (rfl) (fun tt ht hW => ⟨0, rfl, ?_, ht⟩) (fun _ h => nomatch h) dX1_hasLine_63
          obtain rfl := ex8.symm; obtain rfl := ex23.symm; obtain rfl := ex38.symm; obtain rfl := ex52.symm; simp only [cline]; simp_all
        · rw [lg_cmp_eq] at c55
          refine lv_iconst (v := 1) hx hb dX1_hasLine_58 (by decide) ?_
          refine lv_goto (tgt := 63) hx hb dX1_hasLine_59 (by decide) ?_
          refine W.zret (v := 1) hx hb hr (rfl) (fun tt ht hW => ⟨1, rfl, ?_, ht⟩) (fun _ h => nomatch h) dX1_hasLine_63
          obtain rfl := ex8.symm; obtain rfl := ex23.symm; obtain rfl := ex38.symm; obtain rfl := ex52.symm; simp only [cline]; simp_all

set_option maxHeartbeats 400000 in
set_option maxRecDepth 100000 in
theorem c_X1_countLines (l : Launch) (a : Int64) : Met l yX1_countLines wsX1_countLines ({ frames := 1, cells := 0, slots := 0, locals := 24 } : Room) (va_Pc [.long a] (fun _ => True)) (vp_Si (fun r => r = nI (clines a))) 0 0 (fun _ => False) := by
  refine Met.ofW (cc := cX1_countLines) (maxL := 2) (ret := (some .int)) (by decide) rfl ?_
  intro p e s m args below meth c s₁ B hml hv
  obtain ⟨rfl, -⟩ := hv
  have hx := B.exec
  have hb := B.bytes
  have hr := B.returns
  have hts := atoms_spec (ws := wsX1_countLines) B.pre
  have hown : s.vm.findClass RX1 = some m.cls := findClass_of_methodNamed B.named
  have hlocks := B.notSynchronized
  have hl := lv_entry ([.long a]) (n := 2) (Nat.le_of_ble_eq_true rfl)
  rw [lg_entry_eq]
  generalize (lg_sl ([.long a]) ++ List.replicate (2 - (lg_sl ([.long a])).length) Slot.unset).toArray = ls at hl ⊢
  have hl : lv_has ls 2 [(0, .long a)] := hl
  refine lv_lload_n hx hb dX1_countLines_0 rfl (lv_at hl 0 rfl) ?_
  refine lv_iconst (v := 1) hx hb dX1_countLines_1 (by decide) ?_
  refine vp_callSl (W.runS (As := [.long a, .int 1]) (rest := []) ⟨hx, hb, hml, hown, hts⟩ (c_X1_fives l a 1 (by omega)) (va_cwS 2 hts gX1_countLines_X1_fives rfl rfl rfl (by decide +kernel) ⟨Nat.le_of_ble_eq_true rfl, Nat.le_of_ble_eq_true rfl⟩) ⟨px_blind0, fun U hU hW => ⟨rfl, trivial⟩⟩ rfl rfl hl.1 rfl (lv_room (Nat.le_of_ble_eq_true rfl)) dX1_countLines_2 ⟨(Nat.le_of_ble_eq_true rfl), (Nat.le_of_ble_eq_true rfl)⟩) (fun r2 er2 => ?_)
  obtain rfl := er2.symm
  refine lv_ldc2 (v := 3272356035) hx hb hown (hts (.constantLong RX1 15 (3272356035)) (by decide +kernel)) dX1_countLines_5 ?_
  refine lv_land hx hb dX1_countLines_8 ?_
  refine lv_topl (fun x8 ex8 => ?_)
  refine vp_callSi (W.runS (As := [.long x8]) (rest := []) ⟨hx, hb, hml, hown, hts⟩ (c_J13_bitCount_95d88 l x8) (va_cwS 1 hts gX1_countLines_J13_bitCount_95d88 rfl rfl rfl (by decide +kernel) ⟨Nat.le_of_ble_eq_true rfl, Nat.le_of_ble_eq_true rfl⟩) ⟨px_blind0, fun U hU hW => ⟨rfl, trivial⟩⟩ rfl rfl hl.1 rfl (lv_room (Nat.le_of_ble_eq_true rfl)) dX1_countLines_9 ⟨(Nat.le_of_ble_eq_true rfl), (Nat.le_of_ble_eq_true rfl)⟩) (fun r9 er9 => ?_)
  obtain rfl := er9.symm
  refine lv_lload_n hx hb dX1_countLines_12 rfl (lv_at hl 0 rfl) ?_
  refine lv_bipush (v := 6) hx hb dX1_countLines_13 (by decide) ?_
  refine vp_callSl (W.runS (As := [.long a, .int 6]) (rest := [.int (nI (pop x8))]) ⟨hx, hb, hml, hown, hts⟩ (c_X1_fives l a 6 (by omega)) (va_cwS 2 hts gX1_countLines_X1_fives rfl rfl rfl (by decide +kernel) ⟨Nat.le_of_ble_eq_true rfl, Nat.le_of_ble_eq_true rfl⟩) ⟨px_blind0, fun U hU hW => ⟨rfl, trivial⟩⟩ rfl rfl hl.1 rfl (lv_room (Nat.le_of_ble_eq_true rfl)) dX1_countLines_15 ⟨(Nat.le_of_ble_eq_true rfl), (Nat.le_of_ble_eq_true rfl)⟩) (fun r15 er15 => ?_)
  obtain rfl := er15.symm
  refine lv_ldc2 (v := 4095) hx hb hown (hts (.constantLong RX1 17 (4095)) (by decide +kernel)) dX1_countLines_18 ?_
  refine lv_land hx hb dX1_countLines_21 ?_
  refine lv_topl (fun x21 ex21 => ?_)
  refine vp_callSi (W.runS (As := [.long x21]) (rest := [.int (nI (pop x8))]) ⟨hx, hb, hml, hown, hts⟩ (c_J13_bitCount_95d88 l x21) (va_cwS 1 hts gX1_countLines_J13_bitCount_95d88 rfl rfl rfl (by decide +kernel) ⟨Nat.le_of_ble_eq_true rfl, Nat.le_of_ble_eq_true rfl⟩) ⟨px_blind0, fun U hU hW => ⟨rfl, trivial⟩⟩ rfl rfl hl.1 rfl (lv_room (Nat.le_of_ble_eq_true rfl)) dX1_countLines_22 ⟨(Nat.le_of_ble_eq_true rfl), (Nat.le_of_ble_eq_true rfl)⟩) (fun r22 er22 => ?_)
  obtain rfl := er22.symm
  refine lv_iadd hx hb dX1_countLines_25 ?_
  refine pk_ti (y := nI ((pop x8) + (pop x21))) (nI_add (pop x8) (pop x21)) ?_
  refine lv_lload_n hx hb dX1_countLines_26 rfl (lv_at hl 0 rfl) ?_
  refine lv_bipush (v := 7) hx hb dX1_countLines_27 (by decide) ?_
  refine vp_callSl (W.runS (As := [.long a, .int 7]) (rest := [.int (nI ((pop x8) + (pop x21)))]) ⟨hx, hb, hml, hown, hts⟩ (c_X1_fives l a 7 (by omega)) (va_cwS 2 hts gX1_countLines_X1_fives rfl rfl rfl (by decide +kernel) ⟨Nat.le_of_ble_eq_true rfl, Nat.le_of_ble_eq_true rfl⟩) ⟨px_blind0, fun U hU hW => ⟨rfl, trivial⟩⟩ rfl rfl hl.1 rfl (lv_room (Nat.le_of_ble_eq_true rfl)) dX1_countLines_29 ⟨(Nat.le_of_ble_eq_true rfl), (Nat.le_of_ble_eq_true rfl)⟩) (fun r29 er29 => ?_)
  obtain rfl := er29.symm
  refine lv_ldc2 (v := 195) hx hb hown (hts (.constantLong RX1 19 (195)) (by decide +kernel)) dX1_countLines_32 ?_
  refine lv_land hx hb dX1_countLines_35 ?_
  refine lv_topl (fun x35 ex35 => ?_)
  refine vp_callSi (W.runS (As := [.long x35]) (rest := [.int (nI ((pop x8) + (pop x21)))]) ⟨hx, hb, hml, hown, hts⟩ (c_J13_bitCount_95d88 l x35) (va_cwS 1 hts gX1_countLines_J13_bitCount_95d88 rfl rfl rfl (by decide +kernel) ⟨Nat.le_of_ble_eq_true rfl, Nat.le_of_ble_eq_true rfl⟩) ⟨px_blind0, fun U hU hW => ⟨rfl, trivial⟩⟩ rfl rfl hl.1 rfl (lv_room (Nat.le_of_ble_eq_true rfl)) dX1_countLines_36 ⟨(Nat.le_of_ble_eq_true rfl), (Nat.le_of_ble_eq_true rfl)⟩) (fun r36 er36 => ?_)
  obtain rfl := er36.symm
  refine lv_iadd hx hb dX1_countLines_39 ?_
  refine pk_ti (y := nI (((pop x8) + (pop x21)) + (pop x35))) (nI_add ((pop x8) + (pop x21)) (pop x35)) ?_
  refine lv_lload_n hx hb dX1_countLines_40 rfl (lv_at hl 0 rfl) ?_
  refine lv_iconst (v := 5) hx hb dX1_countLines_41 (by decide) ?_
  refine vp_callSl (W.runS (As := [.long a, .int 5]) (rest := [.int (nI (((pop x8) + (pop x21)) + (pop x35)))]) ⟨hx, hb, hml, hown, hts⟩ (c_X1_fives l a 5 (by omega)) (va_cwS 2 hts gX1_countLines_X1_fives rfl rfl rfl (by decide +kernel) ⟨Nat.le_of_ble_eq_true rfl, Nat.le_of_ble_eq_true rfl⟩) ⟨px_blind0, fun U hU hW => ⟨rfl, trivial⟩⟩ rfl rfl hl.1 rfl (lv_room (Nat.le_of_ble_eq_true rfl)) dX1_countLines_42 ⟨(Nat.le_of_ble_eq_true rfl), (Nat.le_of_ble_eq_true rfl)⟩) (fun r42 er42 => ?_)
  obtain rfl := er42.symm
  refine lv_ldc2 (v := 3120) hx hb hown (hts (.constantLong RX1 21 (3120)) (by decide +kernel)) dX1_countLines_45 ?_
  refine lv_land hx hb dX1_countLines_48 ?_
  refine lv_topl (fun x48 ex48 => ?_)
  refine vp_callSi (W.runS (As := [.long x48]) (rest := [.int (nI (((pop x8) + (pop x21)) + (pop x35)))]) ⟨hx, hb, hml, hown, hts⟩ (c_J13_bitCount_95d88 l x48) (va_cwS 1 hts gX1_countLines_J13_bitCount_95d88 rfl rfl rfl (by decide +kernel) ⟨Nat.le_of_ble_eq_true rfl, Nat.le_of_ble_eq_true rfl⟩) ⟨px_blind0, fun U hU hW => ⟨rfl, trivial⟩⟩ rfl rfl hl.1 rfl (lv_room (Nat.le_of_ble_eq_true rfl)) dX1_countLines_49 ⟨(Nat.le_of_ble_eq_true rfl), (Nat.le_of_ble_eq_true rfl)⟩) (fun r49 er49 => ?_)
  obtain rfl := er49.symm
  refine lv_iadd hx hb dX1_countLines_52 ?_
  refine pk_ti (y := nI ((((pop x8) + (pop x21)) + (pop x35)) + (pop x48))) (nI_add (((pop x8) + (pop x21)) + (pop x35)) (pop x48)) ?_
  refine W.iret (v := (nI ((((pop x8) + (pop x21)) + (pop x35)) + (pop x48)))) hx hb hr (fun tt ht hW => ⟨(nI ((((pop x8) + (pop x21)) + (pop x35)) + (pop x48))), rfl, ?_, ht⟩) (fun _ h => nomatch h) dX1_countLines_53
  obtain rfl := ex8.symm; obtain rfl := ex21.symm; obtain rfl := ex35.symm; obtain rfl := ex48.symm; rfl

set_option maxHeartbeats 400000 in
set_option maxRecDepth 100000 in
theorem c_X1_foursWith (l : Launch) (a b : Int64) (n g : Nat) (hn : n < 8) (hg : g < 5) : Met l yX1_foursWith wsX1_foursWith ({ frames := 0, cells := 0, slots := 0, locals := 0 } : Room) (va_Pc [.long a, .long b, .int (nI n), .int (nI g)] (fun _ => True)) (vp_Sl (fun r => r = cfw a b n g 5)) 0 0 (fun _ => False) := by
  refine Met.ofW (cc := cX1_foursWith) (maxL := 9) (ret := (some .long)) (by decide) rfl ?_
  intro p e s m args below meth c s₁ B hml hv
  obtain ⟨rfl, -⟩ := hv
  have hx := B.exec
  have hb := B.bytes
  have hr := B.returns
  have hts := atoms_spec (ws := wsX1_foursWith) B.pre
  have hown : s.vm.findClass RX1 = some m.cls := findClass_of_methodNamed B.named
  have hlocks := B.notSynchronized
  have hl := lv_entry ([.long a, .long b, .int (nI n), .int (nI g)]) (n := 9) (Nat.le_of_ble_eq_true rfl)
  rw [lg_entry_eq]
  generalize (lg_sl ([.long a, .long b, .int (nI n), .int (nI g)]) ++ List.replicate (9 - (lg_sl ([.long a, .long b, .int (nI n), .int (nI g)])).length) Slot.unset).toArray = ls at hl ⊢
  have hl : lv_has ls 9 [(0, .long a), (2, .long b), (4, .int (nI n)), (5, .int (nI g))] := hl
  refine lv_ldc2 (v := 68719476735) hx hb hown (hts (.constantLong RX1 33 (68719476735)) (by decide +kernel)) dX1_foursWith_0 ?_
  refine lv_lstore (lv' := [(6, .long 68719476735), (0, .long a), (2, .long b), (4, .int (nI n)), (5, .int (nI g))]) hx hb dX1_foursWith_3 hl (by decide) rfl (fun ls hl => ?_)
  refine lv_iconst (v := 0) hx hb dX1_foursWith_5 (by decide) ?_
  refine lv_istore (lv' := [(8, .int 0), (6, .long 68719476735), (0, .long a), (2, .long b), (4, .int (nI n)), (5, .int (nI g))]) hx hb dX1_foursWith_6 hl (by decide) rfl (fun ls hl => ?_)
  have loop8 : ∀ (nn i8 : Nat), i8 + nn = 5 → ∀ ls, lv_has ls 9 [(8, .int (nI i8)), (6, .long (cfw a b n g i8)), (0, .long a), (2, .long b), (4, .int (nI n)), (5, .int (nI g))] → W p l e (headSpec wsX1_foursWith ({ frames := 0, cells := 0, slots := 0, locals := 0 } : Room)).room s m ([.long a, .long b, .int (nI n), .int (nI g)] : List Value).toArray below meth c s.heap [] 0 0 (MQ below (vp_Sl (fun r => r = cfw a b n g 5)) ([.long a, .long b, .int (nI n), .int (nI g)] : List Value).toArray s 0 0 (fun _ => False)) (F0 m 8 ls []) := by
    intro nn
    induction nn with
    | zero =>
      intro i8 hi8 ls hl
      obtain rfl : i8 = 5 := by omega
      refine lv_iload hx hb dX1_foursWith_8 (lv_at hl 0 rfl) ?_
      refine lv_iconst (v := 5) hx hb dX1_foursWith_10 (by decide) ?_
      refine lv_icmp_ge (tgt := 43) hx hb dX1_foursWith_11 (by decide) (fun c11 => ?_) (fun c11 => ?_)
      · have c11 : 5 ≤ 5 := (nq_le (a := 5) (b := 5) (by omega) (by omega)).mp c11
        refine lv_lload hx hb dX1_foursWith_43 (lv_at hl 1 rfl) ?_
        refine W.lret (v := (cfw a b n g 5)) hx hb hr (fun tt ht hW => ⟨(cfw a b n g 5), rfl, ?_, ht⟩) (fun _ h => nomatch h) dX1_foursWith_45
        rfl
      · have c11 : ¬ 5 ≤ 5 := _root_.mt (nq_le (a := 5) (b := 5) (by omega) (by omega)).mpr c11
        omega
    | succ nn ih8 =>
      intro i8 hi8 ls hl
      refine lv_iload hx hb dX1_foursWith_8 (lv_at hl 0 rfl) ?_
      refine lv_iconst (v := 5) hx hb dX1_foursWith_10 (by decide) ?_
      refine lv_icmp_ge (tgt := 43) hx hb dX1_foursWith_11 (by decide) (fun c11 => ?_) (fun c11 => ?_)
      · have c11 : 5 ≤ i8 := (nq_le (a := 5) (b := i8) (by omega) (by omega)).mp c11
        omega
      · have c11 : ¬ 5 ≤ i8 := _root_.mt (nq_le (a := 5) (b := i8) (by omega) (by omega)).mpr c11
        refine lv_lload hx hb dX1_foursWith_14 (lv_at hl 1 rfl) ?_
        refine lv_iload hx hb dX1_foursWith_16 (lv_at hl 0 rfl) ?_
        refine lv_iload hx hb dX1_foursWith_18 (lv_at hl 5 rfl) ?_
        refine lv_icmp_ne (tgt := 27) hx hb dX1_foursWith_20 (by decide) (fun c20 => ?_) (fun c20 => ?_)
        · have c20 : ¬ i8 = g := _root_.mt (nq_eq (a := i8) (b := g) (by omega) (by omega)).mpr c20
          refine lv_lload_n hx hb dX1_foursWith_27 rfl (lv_at hl 2 rfl) ?_
          refine lv_iload hx hb dX1_foursWith_28 (lv_at hl 0 rfl) ?_
          refine lv_iload hx hb dX1_foursWith_30 (lv_at hl 4 rfl) ?_
          refine lv_imul hx hb dX1_foursWith_32 ?_
          refine pk_ti (y := nI (i8 * n)) (pk_mul i8 n) ?_
          refine lv_lushr (v := jushr a (nI (i8 * n))) hx hb dX1_foursWith_33 rfl ?_
          refine lv_topl (fun x33 ex33 => ?_)
          refine lv_land hx hb dX1_foursWith_34 ?_
          refine lv_topl (fun x34 ex34 => ?_)
          refine lv_lstore (lv' := [(6, .long x34), (8, .int (nI i8)), (0, .long a), (2, .long b), (4, .int (nI n)), (5, .int (nI g))]) hx hb dX1_foursWith_35 hl (by decide) rfl (fun ls hl => ?_)
          refine lv_iinc (v := nI (i8 + 1)) (lv' := [(8, .int (nI (i8 + 1))), (6, .long x34), (0, .long a), (2, .long b), (4, .int (nI n)), (5, .int (nI g))]) hx hb dX1_foursWith_37 hl (k := 1) rfl (nI_add i8 1) (by decide) rfl (fun ls hl => ?_)
          refine lv_goto (tgt := 8) hx hb dX1_foursWith_40 (by decide) ?_
          exact ih8 (i8 + 1) (by omega) ls (by { have e9 : (x34 : Int64) = (cfw a b n g (i8 + 1)) := by { obtain rfl := ex33.symm; obtain rfl := ex34.symm; simp only [cfw]; first | rfl | simp_all }; rw [← e9]; exact lv_sub hl [0, 1, 2, 3, 4, 5] rfl })
        · have c20 : i8 = g := (nq_eq (a := i8) (b := g) (by omega) (by omega)).mp c20
          refine lv_lload_n hx hb dX1_foursWith_23 rfl (lv_at hl 3 rfl) ?_
          refine lv_goto (tgt := 28) hx hb dX1_foursWith_24 (by decide) ?_
          refine lv_iload hx hb dX1_foursWith_28 (lv_at hl 0 rfl) ?_
          refine lv_iload hx hb dX1_foursWith_30 (lv_at hl 4 rfl) ?_
          refine lv_imul hx hb dX1_foursWith_32 ?_
          refine pk_ti (y := nI (i8 * n)) (pk_mul i8 n) ?_
          refine lv_lushr (v := jushr b (nI (i8 * n))) hx hb dX1_foursWith_33 rfl ?_
          refine lv_topl (fun x33 ex33 => ?_)
          refine lv_land hx hb dX1_foursWith_34 ?_
          refine lv_topl (fun x34 ex34 => ?_)
          refine lv_lstore (lv' := [(6, .long x34), (8, .int (nI i8)), (0, .long a), (2, .long b), (4, .int (nI n)), (5, .int (nI g))]) hx hb dX1_foursWith_35 hl (by decide) rfl (fun ls hl => ?_)
          refine lv_iinc (v := nI (i8 + 1)) (lv' := [(8, .int (nI (i8 + 1))), (6, .long x34), (0, .long a), (2, .long b), (4, .int (nI n)), (5, .int (nI g))]) hx hb dX1_foursWith_37 hl (k := 1) rfl (nI_add i8 1) (by decide) rfl (fun ls hl => ?_)
          refine lv_goto (tgt := 8) hx hb dX1_foursWith_40 (by decide) ?_
          exact ih8 (i8 + 1) (by omega) ls (by { have e9 : (x34 : Int64) = (cfw a b n g (i8 + 1)) := by { obtain rfl := ex33.symm; obtain rfl := ex34.symm; simp only [cfw]; first | rfl | simp_all }; rw [← e9]; exact lv_sub hl [0, 1, 2, 3, 4, 5] rfl })
  exact loop8 5 0 (by omega) ls (lv_sub hl [0, 1, 2, 3, 4, 5] rfl)

set_option maxHeartbeats 400000 in
set_option maxRecDepth 100000 in
theorem c_X1_countFours (l : Launch) (a b : Int64) : Met l yX1_countFours wsX1_countFours ({ frames := 1, cells := 0, slots := 0, locals := 28 } : Room) (va_Pc [.long a, .long b] (fun _ => True)) (vp_Si (fun r => r = nI (cfours a b 5))) 0 0 (fun _ => False) := by
  refine Met.ofW (cc := cX1_countFours) (maxL := 6) (ret := (some .int)) (by decide) rfl ?_
  intro p e s m args below meth c s₁ B hml hv
  obtain ⟨rfl, -⟩ := hv
  have hx := B.exec
  have hb := B.bytes
  have hr := B.returns
  have hts := atoms_spec (ws := wsX1_countFours) B.pre
  have hown : s.vm.findClass RX1 = some m.cls := findClass_of_methodNamed B.named
  have hlocks := B.notSynchronized
  have hl := lv_entry ([.long a, .long b]) (n := 6) (Nat.le_of_ble_eq_true rfl)
  rw [lg_entry_eq]
  generalize (lg_sl ([.long a, .long b]) ++ List.replicate (6 - (lg_sl ([.long a, .long b])).length) Slot.unset).toArray = ls at hl ⊢
  have hl : lv_has ls 6 [(0, .long a), (2, .long b)] := hl
  refine lv_iconst (v := 0) hx hb dX1_countFours_0 (by decide) ?_
  refine lv_istore (lv' := [(4, .int 0), (0, .long a), (2, .long b)]) hx hb dX1_countFours_1 hl (by decide) rfl (fun ls hl => ?_)
  refine lv_iconst (v := 0) hx hb dX1_countFours_3 (by decide) ?_
  refine lv_istore (lv' := [(5, .int 0), (4, .int 0), (0, .long a), (2, .long b)]) hx hb dX1_countFours_4 hl (by decide) rfl (fun ls hl => ?_)
  have loop6 : ∀ (nn i6 : Nat), i6 + nn = 5 → ∀ ls, lv_has ls 6 [(5, .int (nI i6)), (4, .int (nI (cfours a b i6))), (0, .long a), (2, .long b)] → W p l e (headSpec wsX1_countFours ({ frames := 1, cells := 0, slots := 0, locals := 28 } : Room)).room s m ([.long a, .long b] : List Value).toArray below meth c s.heap [] 0 0 (MQ below (vp_Si (fun r => r = nI (cfours a b 5))) ([.long a, .long b] : List Value).toArray s 0 0 (fun _ => False)) (F0 m 6 ls []) := by
    intro nn
    induction nn with
    | zero =>
      intro i6 hi6 ls hl
      obtain rfl : i6 = 5 := by omega
      refine lv_iload hx hb dX1_countFours_6 (lv_at hl 0 rfl) ?_
      refine lv_iconst (v := 5) hx hb dX1_countFours_8 (by decide) ?_
      refine lv_icmp_ge (tgt := 88) hx hb dX1_countFours_9 (by decide) (fun c9 => ?_) (fun c9 => ?_)
      · have c9 : 5 ≤ 5 := (nq_le (a := 5) (b := 5) (by omega) (by omega)).mp c9
        refine lv_iload hx hb dX1_countFours_88 (lv_at hl 1 rfl) ?_
        refine W.iret (v := (nI (cfours a b 5))) hx hb hr (fun tt ht hW => ⟨(nI (cfours a b 5)), rfl, ?_, ht⟩) (fun _ h => nomatch h) dX1_countFours_90
        rfl
      · have c9 : ¬ 5 ≤ 5 := _root_.mt (nq_le (a := 5) (b := 5) (by omega) (by omega)).mpr c9
        omega
    | succ nn ih6 =>
      intro i6 hi6 ls hl
      refine lv_iload hx hb dX1_countFours_6 (lv_at hl 0 rfl) ?_
      refine lv_iconst (v := 5) hx hb dX1_countFours_8 (by decide) ?_
      refine lv_icmp_ge (tgt := 88) hx hb dX1_countFours_9 (by decide) (fun c9 => ?_) (fun c9 => ?_)
      · have c9 : 5 ≤ i6 := (nq_le (a := 5) (b := i6) (by omega) (by omega)).mp c9
        omega
      · have c9 : ¬ 5 ≤ i6 := _root_.mt (nq_le (a := 5) (b := i6) (by omega) (by omega)).mpr c9
        refine lv_iload hx hb dX1_countFours_12 (lv_at hl 1 rfl) ?_
        refine lv_lload_n hx hb dX1_countFours_14 rfl (lv_at hl 2 rfl) ?_
        refine lv_lload_n hx hb dX1_countFours_15 rfl (lv_at hl 3 rfl) ?_
        refine lv_iconst (v := 1) hx hb dX1_countFours_16 (by decide) ?_
        refine lv_iload hx hb dX1_countFours_17 (lv_at hl 0 rfl) ?_
        refine vp_callSl (W.runS (As := [.long a, .long b, .int 1, .int (nI i6)]) (rest := [.int (nI (cfours a b i6))]) ⟨hx, hb, hml, hown, hts⟩ (c_X1_foursWith l a b 1 i6 (by omega) (by omega)) (va_cwS 4 hts gX1_countFours_X1_foursWith rfl rfl rfl (by decide +kernel) ⟨Nat.le_of_ble_eq_true rfl, Nat.le_of_ble_eq_true rfl⟩) ⟨px_blind0, fun U hU hW => ⟨rfl, trivial⟩⟩ rfl rfl hl.1 rfl (lv_room (Nat.le_of_ble_eq_true rfl)) dX1_countFours_19 ⟨(Nat.le_of_ble_eq_true rfl), (Nat.le_of_ble_eq_true rfl)⟩) (fun r19 er19 => ?_)
        obtain rfl := er19.symm
        refine lv_ldc2 (v := 3272356035) hx hb hown (hts (.constantLong RX1 15 (3272356035)) (by decide +kernel)) dX1_countFours_22 ?_
        refine lv_land hx hb dX1_countFours_25 ?_
        refine lv_topl (fun x25 ex25 => ?_)
        refine vp_callSi (W.runS (As := [.long x25]) (rest := [.int (nI (cfours a b i6))]) ⟨hx, hb, hml, hown, hts⟩ (c_J13_bitCount_95d88 l x25) (va_cwS 1 hts gX1_countFours_J13_bitCount_95d88 rfl rfl rfl (by decide +kernel) ⟨Nat.le_of_ble_eq_true rfl, Nat.le_of_ble_eq_true rfl⟩) ⟨px_blind0, fun U hU hW => ⟨rfl, trivial⟩⟩ rfl rfl hl.1 rfl (lv_room (Nat.le_of_ble_eq_true rfl)) dX1_countFours_26 ⟨(Nat.le_of_ble_eq_true rfl), (Nat.le_of_ble_eq_true rfl)⟩) (fun r26 er26 => ?_)
        obtain rfl := er26.symm
        refine lv_lload_n hx hb dX1_countFours_29 rfl (lv_at hl 2 rfl) ?_
        refine lv_lload_n hx hb dX1_countFours_30 rfl (lv_at hl 3 rfl) ?_
        refine lv_bipush (v := 6) hx hb dX1_countFours_31 (by decide) ?_
        refine lv_iload hx hb dX1_countFours_33 (lv_at hl 0 rfl) ?_
        refine vp_callSl (W.runS (As := [.long a, .long b, .int 6, .int (nI i6)]) (rest := [.int (nI (pop x25)), .int (nI (cfours a b i6))]) ⟨hx, hb, hml, hown, hts⟩ (c_X1_foursWith l a b 6 i6 (by omega) (by omega)) (va_cwS 4 hts gX1_countFours_X1_foursWith rfl rfl rfl (by decide +kernel) ⟨Nat.le_of_ble_eq_true rfl, Nat.le_of_ble_eq_true rfl⟩) ⟨px_blind0, fun U hU hW => ⟨rfl, trivial⟩⟩ rfl rfl hl.1 rfl (lv_room (Nat.le_of_ble_eq_true rfl)) dX1_countFours_35 ⟨(Nat.le_of_ble_eq_true rfl), (Nat.le_of_ble_eq_true rfl)⟩) (fun r35 er35 => ?_)
        obtain rfl := er35.symm
        refine lv_ldc2 (v := 4095) hx hb hown (hts (.constantLong RX1 17 (4095)) (by decide +kernel)) dX1_countFours_38 ?_
        refine lv_land hx hb dX1_countFours_41 ?_
        refine lv_topl (fun x41 ex41 => ?_)
        refine vp_callSi (W.runS (As := [.long x41]) (rest := [.int (nI (pop x25)), .int (nI (cfours a b i6))]) ⟨hx, hb, hml, hown, hts⟩ (c_J13_bitCount_95d88 l x41) (va_cwS 1 hts gX1_countFours_J13_bitCount_95d88 rfl rfl rfl (by decide +kernel) ⟨Nat.le_of_ble_eq_true rfl, Nat.le_of_ble_eq_true rfl⟩) ⟨px_blind0, fun U hU hW => ⟨rfl, trivial⟩⟩ rfl rfl hl.1 rfl (lv_room (Nat.le_of_ble_eq_true rfl)) dX1_countFours_42 ⟨(Nat.le_of_ble_eq_true rfl), (Nat.le_of_ble_eq_true rfl)⟩) (fun r42 er42 => ?_)
        obtain rfl := er42.symm
        refine lv_iadd hx hb dX1_countFours_45 ?_
        refine pk_ti (y := nI ((pop x25) + (pop x41))) (nI_add (pop x25) (pop x41)) ?_
        refine lv_lload_n hx hb dX1_countFours_46 rfl (lv_at hl 2 rfl) ?_
        refine lv_lload_n hx hb dX1_countFours_47 rfl (lv_at hl 3 rfl) ?_
        refine lv_bipush (v := 7) hx hb dX1_countFours_48 (by decide) ?_
        refine lv_iload hx hb dX1_countFours_50 (lv_at hl 0 rfl) ?_
        refine vp_callSl (W.runS (As := [.long a, .long b, .int 7, .int (nI i6)]) (rest := [.int (nI ((pop x25) + (pop x41))), .int (nI (cfours a b i6))]) ⟨hx, hb, hml, hown, hts⟩ (c_X1_foursWith l a b 7 i6 (by omega) (by omega)) (va_cwS 4 hts gX1_countFours_X1_foursWith rfl rfl rfl (by decide +kernel) ⟨Nat.le_of_ble_eq_true rfl, Nat.le_of_ble_eq_true rfl⟩) ⟨px_blind0, fun U hU hW => ⟨rfl, trivial⟩⟩ rfl rfl hl.1 rfl (lv_room (Nat.le_of_ble_eq_true rfl)) dX1_countFours_52 ⟨(Nat.le_of_ble_eq_true rfl), (Nat.le_of_ble_eq_true rfl)⟩) (fun r52 er52 => ?_)
        obtain rfl := er52.symm
        refine lv_ldc2 (v := 195) hx hb hown (hts (.constantLong RX1 19 (195)) (by decide +kernel)) dX1_countFours_55 ?_
        refine lv_land hx hb dX1_countFours_58 ?_
        refine lv_topl (fun x58 ex58 => ?_)
        refine vp_callSi (W.runS (As := [.long x58]) (rest := [.int (nI ((pop x25) + (pop x41))), .int (nI (cfours a b i6))]) ⟨hx, hb, hml, hown, hts⟩ (c_J13_bitCount_95d88 l x58) (va_cwS 1 hts gX1_countFours_J13_bitCount_95d88 rfl rfl rfl (by decide +kernel) ⟨Nat.le_of_ble_eq_true rfl, Nat.le_of_ble_eq_true rfl⟩) ⟨px_blind0, fun U hU hW => ⟨rfl, trivial⟩⟩ rfl rfl hl.1 rfl (lv_room (Nat.le_of_ble_eq_true rfl)) dX1_countFours_59 ⟨(Nat.le_of_ble_eq_true rfl), (Nat.le_of_ble_eq_true rfl)⟩) (fun r59 er59 => ?_)
        obtain rfl := er59.symm
        refine lv_iadd hx hb dX1_countFours_62 ?_
        refine pk_ti (y := nI (((pop x25) + (pop x41)) + (pop x58))) (nI_add ((pop x25) + (pop x41)) (pop x58)) ?_
        refine lv_lload_n hx hb dX1_countFours_63 rfl (lv_at hl 2 rfl) ?_
        refine lv_lload_n hx hb dX1_countFours_64 rfl (lv_at hl 3 rfl) ?_
        refine lv_iconst (v := 5) hx hb dX1_countFours_65 (by decide) ?_
        refine lv_iload hx hb dX1_countFours_66 (lv_at hl 0 rfl) ?_
        refine vp_callSl (W.runS (As := [.long a, .long b, .int 5, .int (nI i6)]) (rest := [.int (nI (((pop x25) + (pop x41)) + (pop x58))), .int (nI (cfours a b i6))]) ⟨hx, hb, hml, hown, hts⟩ (c_X1_foursWith l a b 5 i6 (by omega) (by omega)) (va_cwS 4 hts gX1_countFours_X1_foursWith rfl rfl rfl (by decide +kernel) ⟨Nat.le_of_ble_eq_true rfl, Nat.le_of_ble_eq_true rfl⟩) ⟨px_blind0, fun U hU hW => ⟨rfl, trivial⟩⟩ rfl rfl hl.1 rfl (lv_room (Nat.le_of_ble_eq_true rfl)) dX1_countFours_68 ⟨(Nat.le_of_ble_eq_true rfl), (Nat.le_of_ble_eq_true rfl)⟩) (fun r68 er68 => ?_)
        obtain rfl := er68.symm
        refine lv_ldc2 (v := 3120) hx hb hown (hts (.constantLong RX1 21 (3120)) (by decide +kernel)) dX1_countFours_71 ?_
        refine lv_land hx hb dX1_countFours_74 ?_
        refine lv_topl (fun x74 ex74 => ?_)
        refine vp_callSi (W.runS (As := [.long x74]) (rest := [.int (nI (((pop x25) + (pop x41)) + (pop x58))), .int (nI (cfours a b i6))]) ⟨hx, hb, hml, hown, hts⟩ (c_J13_bitCount_95d88 l x74) (va_cwS 1 hts gX1_countFours_J13_bitCount_95d88 rfl rfl rfl (by decide +kernel) ⟨Nat.le_of_ble_eq_true rfl, Nat.le_of_ble_eq_true rfl⟩) ⟨px_blind0, fun U hU hW => ⟨rfl, trivial⟩⟩ rfl rfl hl.1 rfl (lv_room (Nat.le_of_ble_eq_true rfl)) dX1_countFours_75 ⟨(Nat.le_of_ble_eq_true rfl), (Nat.le_of_ble_eq_true rfl)⟩) (fun r75 er75 => ?_)
        obtain rfl := er75.symm
        refine lv_iadd hx hb dX1_countFours_78 ?_
        refine pk_ti (y := nI ((((pop x25) + (pop x41)) + (pop x58)) + (pop x74))) (nI_add (((pop x25) + (pop x41)) + (pop x58)) (pop x74)) ?_
        refine lv_iadd hx hb dX1_countFours_79 ?_
        refine pk_ti (y := nI ((cfours a b i6) + ((((pop x25) + (pop x41)) + (pop x58)) + (pop x74)))) (nI_add (cfours a b i6) ((((pop x25) + (pop x41)) + (pop x58)) + (pop x74))) ?_
        refine lv_istore (lv' := [(4, .int (nI ((cfours a b i6) + ((((pop x25) + (pop x41)) + (pop x58)) + (pop x74))))), (5, .int (nI i6)), (0, .long a), (2, .long b)]) hx hb dX1_countFours_80 hl (by decide) rfl (fun ls hl => ?_)
        refine lv_iinc (v := nI (i6 + 1)) (lv' := [(5, .int (nI (i6 + 1))), (4, .int (nI ((cfours a b i6) + ((((pop x25) + (pop x41)) + (pop x58)) + (pop x74))))), (0, .long a), (2, .long b)]) hx hb dX1_countFours_82 hl (k := 1) rfl (nI_add i6 1) (by decide) rfl (fun ls hl => ?_)
        refine lv_goto (tgt := 6) hx hb dX1_countFours_85 (by decide) ?_
        exact ih6 (i6 + 1) (by omega) ls (by { have e9 : ((nI ((cfours a b i6) + ((((pop x25) + (pop x41)) + (pop x58)) + (pop x74)))) : Int32) = (nI (cfours a b (i6 + 1))) := by { obtain rfl := ex25.symm; obtain rfl := ex41.symm; obtain rfl := ex58.symm; obtain rfl := ex74.symm; rfl }; rw [← e9]; exact lv_sub hl [0, 1, 2, 3] rfl })
  exact loop6 5 0 (by omega) ls (lv_sub hl [0, 1, 2, 3] rfl)
def j_clockwise (a : Int64) : Int64 :=
  let x2 : Int64 := a &&& 1
  let x4 : Int64 := jshl x2 2
  let x9 : Int64 := a &&& 4
  let x12 : Int64 := jshl x9 12
  let x13 : Int64 := x4 ||| x12
  let x18 : Int64 := a &&& 16384
  let x20 : Int64 := jushr x18 2
  let x21 : Int64 := x13 ||| x20
  let x26 : Int64 := a &&& 4096
  let x29 : Int64 := jushr x26 12
  let x30 : Int64 := x21 ||| x29
  let x36 : Int64 := a &&& 2
  let x39 : Int64 := jshl x36 7
  let x44 : Int64 := a &&& 256
  let x46 : Int64 := jshl x44 5
  let x47 : Int64 := x39 ||| x46
  let x52 : Int64 := a &&& 8192
  let x55 : Int64 := jushr x52 7
  let x56 : Int64 := x47 ||| x55
  let x61 : Int64 := a &&& 64
  let x63 : Int64 := jushr x61 5
  let x64 : Int64 := x56 ||| x63
  let x70 : Int64 := x30 ||| x64
  let x75 : Int64 := a &&& 128
  let x76 : Int64 := x70 ||| x75
  x76

def j_anticlockwise (a : Int64) : Int64 :=
  let x2 : Int64 := a &&& 1
  let x5 : Int64 := jshl x2 12
  let x10 : Int64 := a &&& 4096
  let x12 : Int64 := jshl x10 2
  let x13 : Int64 := x5 ||| x12
  let x18 : Int64 := a &&& 16384
  let x21 : Int64 := jushr x18 12
  let x22 : Int64 := x13 ||| x21
  let x27 : Int64 := a &&& 4
  let x29 : Int64 := jushr x27 2
  let x30 : Int64 := x22 ||| x29
  let x36 : Int64 := a &&& 2
  let x38 : Int64 := jshl x36 5
  let x43 : Int64 := a &&& 64
  let x46 : Int64 := jshl x43 7
  let x47 : Int64 := x38 ||| x46
  let x52 : Int64 := a &&& 8192
  let x54 : Int64 := jushr x52 5
  let x55 : Int64 := x47 ||| x54
  let x60 : Int64 := a &&& 256
  let x63 : Int64 := jushr x60 7
  let x64 : Int64 := x55 ||| x63
  let x70 : Int64 := x30 ||| x64
  let x75 : Int64 := a &&& 128
  let x76 : Int64 := x70 ||| x75
  x76

def cturned (x : Int64) (t : Nat) : Int64 := (x &&& (jshl 29127 (nI (mbase (t / 2))) ^^^ (-1))) ||| jshl (if t % 2 = 0 then j_clockwise (jushr x (nI (mbase (t / 2))) &&& 29127) else j_anticlockwise (jushr x (nI (mbase (t / 2))) &&& 29127)) (nI (mbase (t / 2)))

set_option maxHeartbeats 400000 in
set_option maxRecDepth 100000 in
theorem c_X4_clockwise (l : Launch) (a : Int64) : Met l yX4_clockwise wsX4_clockwise ({ frames := 0, cells := 0, slots := 0, locals := 0 } : Room) (va_Pc [.long a] (fun _ => True)) (vp_Sl (fun r => r = j_clockwise a)) 0 0 (fun _ => False) := by
  refine Met.ofW (cc := cX4_clockwise) (maxL := 6) (ret := (some .long)) (by decide) rfl ?_
  intro p e s m args below meth c s₁ B hml hv
  obtain ⟨rfl, -⟩ := hv
  have hx := B.exec
  have hb := B.bytes
  have hr := B.returns
  have hts := atoms_spec (ws := wsX4_clockwise) B.pre
  have hown : s.vm.findClass RX4 = some m.cls := findClass_of_methodNamed B.named
  have hlocks := B.notSynchronized
  have hl := lv_entry ([.long a]) (n := 6) (Nat.le_of_ble_eq_true rfl)
  rw [lg_entry_eq]
  generalize (lg_sl ([.long a]) ++ List.replicate (6 - (lg_sl ([.long a])).length) Slot.unset).toArray = ls at hl ⊢
  have hl : lv_has ls 6 [(0, .long a)] := hl
  refine lv_lload_n hx hb dX4_clockwise_0 rfl (lv_at hl 0 rfl) ?_
  refine lv_lconst (v := 1) hx hb dX4_clockwise_1 (by decide) ?_
  refine lv_land hx hb dX4_clockwise_2 ?_
  refine lv_topl (fun x2 ex2 => ?_)
  refine lv_iconst (v := 2) hx hb dX4_clockwise_3 (by decide) ?_
  refine lv_lshl (v := jshl x2 2) hx hb dX4_clockwise_4 rfl ?_
  refine lv_topl (fun x4 ex4 => ?_)
  refine lv_lload_n hx hb dX4_clockwise_5 rfl (lv_at hl 0 rfl) ?_
  refine lv_ldc2 (v := 4) hx hb hown (hts (.constantLong RX4 33 (4)) (by decide +kernel)) dX4_clockwise_6 ?_
  refine lv_land hx hb dX4_clockwise_9 ?_
  refine lv_topl (fun x9 ex9 => ?_)
  refine lv_bipush (v := 12) hx hb dX4_clockwise_10 (by decide) ?_
  refine lv_lshl (v := jshl x9 12) hx hb dX4_clockwise_12 rfl ?_
  refine lv_topl (fun x12 ex12 => ?_)
  refine lv_lor hx hb dX4_clockwise_13 ?_
  refine lv_topl (fun x13 ex13 => ?_)
  refine lv_lload_n hx hb dX4_clockwise_14 rfl (lv_at hl 0 rfl) ?_
  refine lv_ldc2 (v := 16384) hx hb hown (hts (.constantLong RX4 35 (16384)) (by decide +kernel)) dX4_clockwise_15 ?_
  refine lv_land hx hb dX4_clockwise_18 ?_
  refine lv_topl (fun x18 ex18 => ?_)
  refine lv_iconst (v := 2) hx hb dX4_clockwise_19 (by decide) ?_
  refine lv_lushr (v := jushr x18 2) hx hb dX4_clockwise_20 rfl ?_
  refine lv_topl (fun x20 ex20 => ?_)
  refine lv_lor hx hb dX4_clockwise_21 ?_
  refine lv_topl (fun x21 ex21 => ?_)
  refine lv_lload_n hx hb dX4_clockwise_22 rfl (lv_at hl 0 rfl) ?_
  refine lv_ldc2 (v := 4096) hx hb hown (hts (.constantLong RX4 37 (4096)) (by decide +kernel)) dX4_clockwise_23 ?_
  refine lv_land hx hb dX4_clockwise_26 ?_
  refine lv_topl (fun x26 ex26 => ?_)
  refine lv_bipush (v := 12) hx hb dX4_clockwise_27 (by decide) ?_
  refine lv_lushr (v := jushr x26 12) hx hb dX4_clockwise_29 rfl ?_
  refine lv_topl (fun x29 ex29 => ?_)
  refine lv_lor hx hb dX4_clockwise_30 ?_
  refine lv_topl (fun x30 ex30 => ?_)
  refine lv_lstore_n (lv' := [(2, .long x30), (0, .long a)]) hx hb dX4_clockwise_31 rfl hl (by decide) rfl (fun ls hl => ?_)
  refine lv_lload_n hx hb dX4_clockwise_32 rfl (lv_at hl 1 rfl) ?_
  refine lv_ldc2 (v := 2) hx hb hown (hts (.constantLong RX4 39 (2)) (by decide +kernel)) dX4_clockwise_33 ?_
  refine lv_land hx hb dX4_clockwise_36 ?_
  refine lv_topl (fun x36 ex36 => ?_)
  refine lv_bipush (v := 7) hx hb dX4_clockwise_37 (by decide) ?_
  refine lv_lshl (v := jshl x36 7) hx hb dX4_clockwise_39 rfl ?_
  refine lv_topl (fun x39 ex39 => ?_)
  refine lv_lload_n hx hb dX4_clockwise_40 rfl (lv_at hl 1 rfl) ?_
  refine lv_ldc2 (v := 256) hx hb hown (hts (.constantLong RX4 41 (256)) (by decide +kernel)) dX4_clockwise_41 ?_
  refine lv_land hx hb dX4_clockwise_44 ?_
  refine lv_topl (fun x44 ex44 => ?_)
  refine lv_iconst (v := 5) hx hb dX4_clockwise_45 (by decide) ?_
  refine lv_lshl (v := jshl x44 5) hx hb dX4_clockwise_46 rfl ?_
  refine lv_topl (fun x46 ex46 => ?_)
  refine lv_lor hx hb dX4_clockwise_47 ?_
  refine lv_topl (fun x47 ex47 => ?_)
  refine lv_lload_n hx hb dX4_clockwise_48 rfl (lv_at hl 1 rfl) ?_
  refine lv_ldc2 (v := 8192) hx hb hown (hts (.constantLong RX4 43 (8192)) (by decide +kernel)) dX4_clockwise_49 ?_
  refine lv_land hx hb dX4_clockwise_52 ?_
  refine lv_topl (fun x52 ex52 => ?_)
  refine lv_bipush (v := 7) hx hb dX4_clockwise_53 (by decide) ?_
  refine lv_lushr (v := jushr x52 7) hx hb dX4_clockwise_55 rfl ?_
  refine lv_topl (fun x55 ex55 => ?_)
  refine lv_lor hx hb dX4_clockwise_56 ?_
  refine lv_topl (fun x56 ex56 => ?_)
  refine lv_lload_n hx hb dX4_clockwise_57 rfl (lv_at hl 1 rfl) ?_
  refine lv_ldc2 (v := 64) hx hb hown (hts (.constantLong RX4 45 (64)) (by decide +kernel)) dX4_clockwise_58 ?_
  refine lv_land hx hb dX4_clockwise_61 ?_
  refine lv_topl (fun x61 ex61 => ?_)
  refine lv_iconst (v := 5) hx hb dX4_clockwise_62 (by decide) ?_
  refine lv_lushr (v := jushr x61 5) hx hb dX4_clockwise_63 rfl ?_
  refine lv_topl (fun x63 ex63 => ?_)
  refine lv_lor hx hb dX4_clockwise_64 ?_
  refine lv_topl (fun x64 ex64 => ?_)
  refine lv_lstore (lv' := [(4, .long x64), (2, .long x30), (0, .long a)]) hx hb dX4_clockwise_65 hl (by decide) rfl (fun ls hl => ?_)
  refine lv_lload_n hx hb dX4_clockwise_67 rfl (lv_at hl 1 rfl) ?_
  refine lv_lload hx hb dX4_clockwise_68 (lv_at hl 0 rfl) ?_
  refine lv_lor hx hb dX4_clockwise_70 ?_
  refine lv_topl (fun x70 ex70 => ?_)
  refine lv_lload_n hx hb dX4_clockwise_71 rfl (lv_at hl 2 rfl) ?_
  refine lv_ldc2 (v := 128) hx hb hown (hts (.constantLong RX4 47 (128)) (by decide +kernel)) dX4_clockwise_72 ?_
  refine lv_land hx hb dX4_clockwise_75 ?_
  refine lv_topl (fun x75 ex75 => ?_)
  refine lv_lor hx hb dX4_clockwise_76 ?_
  refine lv_topl (fun x76 ex76 => ?_)
  refine W.lret (v := x76) hx hb hr (fun tt ht hW => ⟨x76, rfl, ?_, ht⟩) (fun _ h => nomatch h) dX4_clockwise_77
  obtain rfl := ex2.symm; obtain rfl := ex4.symm; obtain rfl := ex9.symm; obtain rfl := ex12.symm; obtain rfl := ex13.symm; obtain rfl := ex18.symm; obtain rfl := ex20.symm; obtain rfl := ex21.symm; obtain rfl := ex26.symm; obtain rfl := ex29.symm; obtain rfl := ex30.symm; obtain rfl := ex36.symm; obtain rfl := ex39.symm; obtain rfl := ex44.symm; obtain rfl := ex46.symm; obtain rfl := ex47.symm; obtain rfl := ex52.symm; obtain rfl := ex55.symm; obtain rfl := ex56.symm; obtain rfl := ex61.symm; obtain rfl := ex63.symm; obtain rfl := ex64.symm; obtain rfl := ex70.symm; obtain rfl := ex75.symm; obtain rfl := ex76.symm; rfl

set_option maxHeartbeats 400000 in
set_option maxRecDepth 100000 in
theorem c_X4_anticlockwise (l : Launch) (a : Int64) : Met l yX4_anticlockwise wsX4_anticlockwise ({ frames := 0, cells := 0, slots := 0, locals := 0 } : Room) (va_Pc [.long a] (fun _ => True)) (vp_Sl (fun r => r = j_anticlockwise a)) 0 0 (fun _ => False) := by
  refine Met.ofW (cc := cX4_anticlockwise) (maxL := 6) (ret := (some .long)) (by decide) rfl ?_
  intro p e s m args below meth c s₁ B hml hv
  obtain ⟨rfl, -⟩ := hv
  have hx := B.exec
  have hb := B.bytes
  have hr := B.returns
  have hts := atoms_spec (ws := wsX4_anticlockwise) B.pre
  have hown : s.vm.findClass RX4 = some m.cls := findClass_of_methodNamed B.named
  have hlocks := B.notSynchronized
  have hl := lv_entry ([.long a]) (n := 6) (Nat.le_of_ble_eq_true rfl)
  rw [lg_entry_eq]
  generalize (lg_sl ([.long a]) ++ List.replicate (6 - (lg_sl ([.long a])).length) Slot.unset).toArray = ls at hl ⊢
  have hl : lv_has ls 6 [(0, .long a)] := hl
  refine lv_lload_n hx hb dX4_anticlockwise_0 rfl (lv_at hl 0 rfl) ?_
  refine lv_lconst (v := 1) hx hb dX4_anticlockwise_1 (by decide) ?_
  refine lv_land hx hb dX4_anticlockwise_2 ?_
  refine lv_topl (fun x2 ex2 => ?_)
  refine lv_bipush (v := 12) hx hb dX4_anticlockwise_3 (by decide) ?_
  refine lv_lshl (v := jshl x2 12) hx hb dX4_anticlockwise_5 rfl ?_
  refine lv_topl (fun x5 ex5 => ?_)
  refine lv_lload_n hx hb dX4_anticlockwise_6 rfl (lv_at hl 0 rfl) ?_
  refine lv_ldc2 (v := 4096) hx hb hown (hts (.constantLong RX4 37 (4096)) (by decide +kernel)) dX4_anticlockwise_7 ?_
  refine lv_land hx hb dX4_anticlockwise_10 ?_
  refine lv_topl (fun x10 ex10 => ?_)
  refine lv_iconst (v := 2) hx hb dX4_anticlockwise_11 (by decide) ?_
  refine lv_lshl (v := jshl x10 2) hx hb dX4_anticlockwise_12 rfl ?_
  refine lv_topl (fun x12 ex12 => ?_)
  refine lv_lor hx hb dX4_anticlockwise_13 ?_
  refine lv_topl (fun x13 ex13 => ?_)
  refine lv_lload_n hx hb dX4_anticlockwise_14 rfl (lv_at hl 0 rfl) ?_
  refine lv_ldc2 (v := 16384) hx hb hown (hts (.constantLong RX4 35 (16384)) (by decide +kernel)) dX4_anticlockwise_15 ?_
  refine lv_land hx hb dX4_anticlockwise_18 ?_
  refine lv_topl (fun x18 ex18 => ?_)
  refine lv_bipush (v := 12) hx hb dX4_anticlockwise_19 (by decide) ?_
  refine lv_lushr (v := jushr x18 12) hx hb dX4_anticlockwise_21 rfl ?_
  refine lv_topl (fun x21 ex21 => ?_)
  refine lv_lor hx hb dX4_anticlockwise_22 ?_
  refine lv_topl (fun x22 ex22 => ?_)
  refine lv_lload_n hx hb dX4_anticlockwise_23 rfl (lv_at hl 0 rfl) ?_
  refine lv_ldc2 (v := 4) hx hb hown (hts (.constantLong RX4 33 (4)) (by decide +kernel)) dX4_anticlockwise_24 ?_
  refine lv_land hx hb dX4_anticlockwise_27 ?_
  refine lv_topl (fun x27 ex27 => ?_)
  refine lv_iconst (v := 2) hx hb dX4_anticlockwise_28 (by decide) ?_
  refine lv_lushr (v := jushr x27 2) hx hb dX4_anticlockwise_29 rfl ?_
  refine lv_topl (fun x29 ex29 => ?_)
  refine lv_lor hx hb dX4_anticlockwise_30 ?_
  refine lv_topl (fun x30 ex30 => ?_)
  refine lv_lstore_n (lv' := [(2, .long x30), (0, .long a)]) hx hb dX4_anticlockwise_31 rfl hl (by decide) rfl (fun ls hl => ?_)
  refine lv_lload_n hx hb dX4_anticlockwise_32 rfl (lv_at hl 1 rfl) ?_
  refine lv_ldc2 (v := 2) hx hb hown (hts (.constantLong RX4 39 (2)) (by decide +kernel)) dX4_anticlockwise_33 ?_
  refine lv_land hx hb dX4_anticlockwise_36 ?_
  refine lv_topl (fun x36 ex36 => ?_)
  refine lv_iconst (v := 5) hx hb dX4_anticlockwise_37 (by decide) ?_
  refine lv_lshl (v := jshl x36 5) hx hb dX4_anticlockwise_38 rfl ?_
  refine lv_topl (fun x38 ex38 => ?_)
  refine lv_lload_n hx hb dX4_anticlockwise_39 rfl (lv_at hl 1 rfl) ?_
  refine lv_ldc2 (v := 64) hx hb hown (hts (.constantLong RX4 45 (64)) (by decide +kernel)) dX4_anticlockwise_40 ?_
  refine lv_land hx hb dX4_anticlockwise_43 ?_
  refine lv_topl (fun x43 ex43 => ?_)
  refine lv_bipush (v := 7) hx hb dX4_anticlockwise_44 (by decide) ?_
  refine lv_lshl (v := jshl x43 7) hx hb dX4_anticlockwise_46 rfl ?_
  refine lv_topl (fun x46 ex46 => ?_)
  refine lv_lor hx hb dX4_anticlockwise_47 ?_
  refine lv_topl (fun x47 ex47 => ?_)
  refine lv_lload_n hx hb dX4_anticlockwise_48 rfl (lv_at hl 1 rfl) ?_
  refine lv_ldc2 (v := 8192) hx hb hown (hts (.constantLong RX4 43 (8192)) (by decide +kernel)) dX4_anticlockwise_49 ?_
  refine lv_land hx hb dX4_anticlockwise_52 ?_
  refine lv_topl (fun x52 ex52 => ?_)
  refine lv_iconst (v := 5) hx hb dX4_anticlockwise_53 (by decide) ?_
  refine lv_lushr (v := jushr x52 5) hx hb dX4_anticlockwise_54 rfl ?_
  refine lv_topl (fun x54 ex54 => ?_)
  refine lv_lor hx hb dX4_anticlockwise_55 ?_
  refine lv_topl (fun x55 ex55 => ?_)
  refine lv_lload_n hx hb dX4_anticlockwise_56 rfl (lv_at hl 1 rfl) ?_
  refine lv_ldc2 (v := 256) hx hb hown (hts (.constantLong RX4 41 (256)) (by decide +kernel)) dX4_anticlockwise_57 ?_
  refine lv_land hx hb dX4_anticlockwise_60 ?_
  refine lv_topl (fun x60 ex60 => ?_)
  refine lv_bipush (v := 7) hx hb dX4_anticlockwise_61 (by decide) ?_
  refine lv_lushr (v := jushr x60 7) hx hb dX4_anticlockwise_63 rfl ?_
  refine lv_topl (fun x63 ex63 => ?_)
  refine lv_lor hx hb dX4_anticlockwise_64 ?_
  refine lv_topl (fun x64 ex64 => ?_)
  refine lv_lstore (lv' := [(4, .long x64), (2, .long x30), (0, .long a)]) hx hb dX4_anticlockwise_65 hl (by decide) rfl (fun ls hl => ?_)
  refine lv_lload_n hx hb dX4_anticlockwise_67 rfl (lv_at hl 1 rfl) ?_
  refine lv_lload hx hb dX4_anticlockwise_68 (lv_at hl 0 rfl) ?_
  refine lv_lor hx hb dX4_anticlockwise_70 ?_
  refine lv_topl (fun x70 ex70 => ?_)
  refine lv_lload_n hx hb dX4_anticlockwise_71 rfl (lv_at hl 2 rfl) ?_
  refine lv_ldc2 (v := 128) hx hb hown (hts (.constantLong RX4 47 (128)) (by decide +kernel)) dX4_anticlockwise_72 ?_
  refine lv_land hx hb dX4_anticlockwise_75 ?_
  refine lv_topl (fun x75 ex75 => ?_)
  refine lv_lor hx hb dX4_anticlockwise_76 ?_
  refine lv_topl (fun x76 ex76 => ?_)
  refine W.lret (v := x76) hx hb hr (fun tt ht hW => ⟨x76, rfl, ?_, ht⟩) (fun _ h => nomatch h) dX4_anticlockwise_77
  obtain rfl := ex2.symm; obtain rfl := ex5.symm; obtain rfl := ex10.symm; obtain rfl := ex12.symm; obtain rfl := ex13.symm; obtain rfl := ex18.symm; obtain rfl := ex21.symm; obtain rfl := ex22.symm; obtain rfl := ex27.symm; obtain rfl := ex29.symm; obtain rfl := ex30.symm; obtain rfl := ex36.symm; obtain rfl := ex38.symm; obtain rfl := ex43.symm; obtain rfl := ex46.symm; obtain rfl := ex47.symm; obtain rfl := ex52.symm; obtain rfl := ex54.symm; obtain rfl := ex55.symm; obtain rfl := ex60.symm; obtain rfl := ex63.symm; obtain rfl := ex64.symm; obtain rfl := ex70.symm; obtain rfl := ex75.symm; obtain rfl := ex76.symm; rfl

set_option maxHeartbeats 400000 in
set_option maxRecDepth 100000 in
theorem c_X4_quarterOf (l : Launch) (tn : Nat) (htn : tn < 2 ^ 30) : Met l yX4_quarterOf wsX4_quarterOf ({ frames := 0, cells := 0, slots := 0, locals := 0 } : Room) (va_Pc [.int (nI tn)] (fun _ => True)) (vp_Si (fun r => r = nI (tn / 2))) 0 0 (fun _ => False) := by
  refine Met.ofW (cc := cX4_quarterOf) (maxL := 1) (ret := (some .int)) (by decide) rfl ?_
  intro p e s m args below meth c s₁ B hml hv
  obtain ⟨rfl, -⟩ := hv
  have hx := B.exec
  have hb := B.bytes
  have hr := B.returns
  have hts := atoms_spec (ws := wsX4_quarterOf) B.pre
  have hown : s.vm.findClass RX4 = some m.cls := findClass_of_methodNamed B.named
  have hlocks := B.notSynchronized
  have hl := lv_entry ([.int (nI tn)]) (n := 1) (Nat.le_of_ble_eq_true rfl)
  rw [lg_entry_eq]
  generalize (lg_sl ([.int (nI tn)]) ++ List.replicate (1 - (lg_sl ([.int (nI tn)])).length) Slot.unset).toArray = ls at hl ⊢
  have hl : lv_has ls 1 [(0, .int (nI tn))] := hl
  refine lv_iload_n hx hb dX4_quarterOf_0 rfl (lv_at hl 0 rfl) ?_
  refine lv_iconst (v := 2) hx hb dX4_quarterOf_1 (by decide) ?_
  refine lv_idiv hx hb dX4_quarterOf_2 (by decide) ?_
  refine pk_ti (y := nI (tn / 2)) (pk_div (a := tn) (d := 2) (by omega) (by omega) (by omega)) ?_
  refine W.iret (v := (nI (tn / 2))) hx hb hr (fun tt ht hW => ⟨(nI (tn / 2)), rfl, ?_, ht⟩) (fun _ h => nomatch h) dX4_quarterOf_3
  rfl

set_option maxHeartbeats 400000 in
set_option maxRecDepth 100000 in
theorem c_X4_wayOf (l : Launch) (tn : Nat) (htn : tn < 2 ^ 30) : Met l yX4_wayOf wsX4_wayOf ({ frames := 0, cells := 0, slots := 0, locals := 0 } : Room) (va_Pc [.int (nI tn)] (fun _ => True)) (vp_Si (fun r => r = nI (tn % 2))) 0 0 (fun _ => False) := by
  refine Met.ofW (cc := cX4_wayOf) (maxL := 1) (ret := (some .int)) (by decide) rfl ?_
  intro p e s m args below meth c s₁ B hml hv
  obtain ⟨rfl, -⟩ := hv
  have hx := B.exec
  have hb := B.bytes
  have hr := B.returns
  have hts := atoms_spec (ws := wsX4_wayOf) B.pre
  have hown : s.vm.findClass RX4 = some m.cls := findClass_of_methodNamed B.named
  have hlocks := B.notSynchronized
  have hl := lv_entry ([.int (nI tn)]) (n := 1) (Nat.le_of_ble_eq_true rfl)
  rw [lg_entry_eq]
  generalize (lg_sl ([.int (nI tn)]) ++ List.replicate (1 - (lg_sl ([.int (nI tn)])).length) Slot.unset).toArray = ls at hl ⊢
  have hl : lv_has ls 1 [(0, .int (nI tn))] := hl
  refine lv_iload_n hx hb dX4_wayOf_0 rfl (lv_at hl 0 rfl) ?_
  refine lv_iconst (v := 2) hx hb dX4_wayOf_1 (by decide) ?_
  refine lv_irem hx hb dX4_wayOf_2 (by decide) ?_
  refine pk_ti (y := nI (tn % 2)) (pk_rem (a := tn) (d := 2) (by omega) (by omega) (by omega)) ?_
  refine W.iret (v := (nI (tn % 2))) hx hb hr (fun tt ht hW => ⟨(nI (tn % 2)), rfl, ?_, ht⟩) (fun _ h => nomatch h) dX4_wayOf_3
  rfl

set_option maxHeartbeats 400000 in
set_option maxRecDepth 100000 in
theorem c_X6_turnNumber (l : Launch) (q w : Nat) : Met l yX6_turnNumber wsX6_turnNumber ({ frames := 0, cells := 0, slots := 0, locals := 0 } : Room) (va_Pc [.int (nI q), .int (nI w)] (fun _ => True)) (vp_Si (fun r => r = nI (2 * q + w))) 0 0 (fun _ => False) := by
  refine Met.ofW (cc := cX6_turnNumber) (maxL := 2) (ret := (some .int)) (by decide) rfl ?_
  intro p e s m args below meth c s₁ B hml hv
  obtain ⟨rfl, -⟩ := hv
  have hx := B.exec
  have hb := B.bytes
  have hr := B.returns
  have hts := atoms_spec (ws := wsX6_turnNumber) B.pre
  have hown : s.vm.findClass RX6 = some m.cls := findClass_of_methodNamed B.named
  have hlocks := B.notSynchronized
  have hl := lv_entry ([.int (nI q), .int (nI w)]) (n := 2) (Nat.le_of_ble_eq_true rfl)
  rw [lg_entry_eq]
  generalize (lg_sl ([.int (nI q), .int (nI w)]) ++ List.replicate (2 - (lg_sl ([.int (nI q), .int (nI w)])).length) Slot.unset).toArray = ls at hl ⊢
  have hl : lv_has ls 2 [(0, .int (nI q)), (1, .int (nI w))] := hl
  refine lv_iconst (v := 2) hx hb dX6_turnNumber_0 (by decide) ?_
  refine lv_iload_n hx hb dX6_turnNumber_1 rfl (lv_at hl 0 rfl) ?_
  refine lv_imul hx hb dX6_turnNumber_2 ?_
  refine pk_ti (y := nI (2 * q)) (pk_mul 2 q) ?_
  refine lv_iload_n hx hb dX6_turnNumber_3 rfl (lv_at hl 1 rfl) ?_
  refine lv_iadd hx hb dX6_turnNumber_4 ?_
  refine pk_ti (y := nI ((2 * q) + w)) (nI_add (2 * q) w) ?_
  refine W.iret (v := (nI ((2 * q) + w))) hx hb hr (fun tt ht hW => ⟨(nI ((2 * q) + w)), rfl, ?_, ht⟩) (fun _ h => nomatch h) dX6_turnNumber_5
  rfl

set_option maxHeartbeats 400000 in
set_option maxRecDepth 100000 in
theorem c_X6_bitOf (l : Launch) (v : Int32) : Met l yX6_bitOf wsX6_bitOf ({ frames := 0, cells := 0, slots := 0, locals := 0 } : Room) (va_Pc [.int v] (fun _ => True)) (vp_Sl (fun r => r = jshl 1 v)) 0 0 (fun _ => False) := by
  refine Met.ofW (cc := cX6_bitOf) (maxL := 1) (ret := (some .long)) (by decide) rfl ?_
  intro p e s m args below meth c s₁ B hml hv
  obtain ⟨rfl, -⟩ := hv
  have hx := B.exec
  have hb := B.bytes
  have hr := B.returns
  have hts := atoms_spec (ws := wsX6_bitOf) B.pre
  have hown : s.vm.findClass RX6 = some m.cls := findClass_of_methodNamed B.named
  have hlocks := B.notSynchronized
  have hl := lv_entry ([.int v]) (n := 1) (Nat.le_of_ble_eq_true rfl)
  rw [lg_entry_eq]
  generalize (lg_sl ([.int v]) ++ List.replicate (1 - (lg_sl ([.int v])).length) Slot.unset).toArray = ls at hl ⊢
  have hl : lv_has ls 1 [(0, .int v)] := hl
  refine lv_lconst (v := 1) hx hb dX6_bitOf_0 (by decide) ?_
  refine lv_iload_n hx hb dX6_bitOf_1 rfl (lv_at hl 0 rfl) ?_
  refine lv_lshl (v := jshl 1 v) hx hb dX6_bitOf_2 rfl ?_
  refine lv_topl (fun x2 ex2 => ?_)
  refine W.lret (v := x2) hx hb hr (fun tt ht hW => ⟨x2, rfl, ?_, ht⟩) (fun _ h => nomatch h) dX6_bitOf_3
  obtain rfl := ex2.symm; rfl

set_option maxHeartbeats 400000 in
set_option maxRecDepth 100000 in
theorem c_X6_otherSide (l : Launch) (v : Int32) : Met l yX6_otherSide wsX6_otherSide ({ frames := 0, cells := 0, slots := 0, locals := 0 } : Room) (va_Pc [.int v] (fun _ => True)) (vp_Si (fun r => r = if v = 1 then 2 else 1)) 0 0 (fun _ => False) := by
  refine Met.ofW (cc := cX6_otherSide) (maxL := 1) (ret := (some .int)) (by decide) rfl ?_
  intro p e s m args below meth c s₁ B hml hv
  obtain ⟨rfl, -⟩ := hv
  have hx := B.exec
  have hb := B.bytes
  have hr := B.returns
  have hts := atoms_spec (ws := wsX6_otherSide) B.pre
  have hown : s.vm.findClass RX6 = some m.cls := findClass_of_methodNamed B.named
  have hlocks := B.notSynchronized
  have hl := lv_entry ([.int v]) (n := 1) (Nat.le_of_ble_eq_true rfl)
  rw [lg_entry_eq]
  generalize (lg_sl ([.int v]) ++ List.replicate (1 - (lg_sl ([.int v])).length) Slot.unset).toArray = ls at hl ⊢
  have hl : lv_has ls 1 [(0, .int v)] := hl
  refine lv_iload_n hx hb dX6_otherSide_0 rfl (lv_at hl 0 rfl) ?_
  refine lv_iconst (v := 1) hx hb dX6_otherSide_1 (by decide) ?_
  refine lv_icmp_ne (tgt := 9) hx hb dX6_otherSide_2 (by decide) (fun c2 => ?_) (fun c2 => ?_)
  · refine lv_iconst (v := 1) hx hb dX6_otherSide_9 (by decide) ?_
    refine W.iret (v := 1) hx hb hr (fun tt ht hW => ⟨1, rfl, ?_, ht⟩) (fun _ h => nomatch h) dX6_otherSide_10
    simp_all
  · refine lv_iconst (v := 2) hx hb dX6_otherSide_5 (by decide) ?_
    refine lv_goto (tgt := 10) hx hb dX6_otherSide_6 (by decide) ?_
    refine W.iret (v := 2) hx hb hr (fun tt ht hW => ⟨2, rfl, ?_, ht⟩) (fun _ h => nomatch h) dX6_otherSide_10
    simp_all

set_option maxHeartbeats 400000 in
set_option maxRecDepth 100000 in
theorem c_X4_turned (l : Launch) (a : Int64) (tn : Nat) (htn : tn < 8) : Met l yX4_turned wsX4_turned ({ frames := 1, cells := 0, slots := 0, locals := 25 } : Room) (va_Pc [.long a, .int (nI tn)] (fun _ => True)) (vp_Sl (fun r => r = cturned a tn)) 0 0 (fun _ => False) := by
  refine Met.ofW (cc := cX4_turned) (maxL := 9) (ret := (some .long)) (by decide) rfl ?_
  intro p e s m args below meth c s₁ B hml hv
  obtain ⟨rfl, -⟩ := hv
  have hx := B.exec
  have hb := B.bytes
  have hr := B.returns
  have hts := atoms_spec (ws := wsX4_turned) B.pre
  have hown : s.vm.findClass RX4 = some m.cls := findClass_of_methodNamed B.named
  have hlocks := B.notSynchronized
  have hl := lv_entry ([.long a, .int (nI tn)]) (n := 9) (Nat.le_of_ble_eq_true rfl)
  rw [lg_entry_eq]
  generalize (lg_sl ([.long a, .int (nI tn)]) ++ List.replicate (9 - (lg_sl ([.long a, .int (nI tn)])).length) Slot.unset).toArray = ls at hl ⊢
  have hl : lv_has ls 9 [(0, .long a), (2, .int (nI tn))] := hl
  refine lv_iload_n hx hb dX4_turned_0 rfl (lv_at hl 1 rfl) ?_
  refine vp_callSi (W.runS (As := [.int (nI tn)]) (rest := []) ⟨hx, hb, hml, hown, hts⟩ (c_X4_quarterOf l tn (by omega)) (va_cwS 1 hts gX4_turned_X4_quarterOf rfl rfl rfl (by decide +kernel) ⟨Nat.le_of_ble_eq_true rfl, Nat.le_of_ble_eq_true rfl⟩) ⟨px_blind0, fun U hU hW => ⟨rfl, trivial⟩⟩ rfl rfl hl.1 rfl (lv_room (Nat.le_of_ble_eq_true rfl)) dX4_turned_1 ⟨(Nat.le_of_ble_eq_true rfl), (Nat.le_of_ble_eq_true rfl)⟩) (fun r1 er1 => ?_)
  obtain rfl := er1.symm
  refine lv_istore_n (lv' := [(3, .int (nI (tn / 2))), (0, .long a), (2, .int (nI tn))]) hx hb dX4_turned_4 rfl hl (by decide) rfl (fun ls hl => ?_)
  refine lv_iload_n hx hb dX4_turned_5 rfl (lv_at hl 0 rfl) ?_
  refine lv_iconst (v := 2) hx hb dX4_turned_6 (by decide) ?_
  refine lv_idiv hx hb dX4_turned_7 (by decide) ?_
  refine pk_ti (y := nI ((tn / 2) / 2)) (pk_div (a := (tn / 2)) (d := 2) (by omega) (by omega) (by omega)) ?_
  refine lv_bipush (v := 18) hx hb dX4_turned_8 (by decide) ?_
  refine lv_imul hx hb dX4_turned_10 ?_
  refine pk_ti (y := nI (((tn / 2) / 2) * 18)) (pk_mul ((tn / 2) / 2) 18) ?_
  refine lv_iload_n hx hb dX4_turned_11 rfl (lv_at hl 0 rfl) ?_
  refine lv_iconst (v := 2) hx hb dX4_turned_12 (by decide) ?_
  refine lv_irem hx hb dX4_turned_13 (by decide) ?_
  refine pk_ti (y := nI ((tn / 2) % 2)) (pk_rem (a := (tn / 2)) (d := 2) (by omega) (by omega) (by omega)) ?_
  refine lv_iconst (v := 3) hx hb dX4_turned_14 (by decide) ?_
  refine lv_imul hx hb dX4_turned_15 ?_
  refine pk_ti (y := nI (((tn / 2) % 2) * 3)) (pk_mul ((tn / 2) % 2) 3) ?_
  refine lv_iadd hx hb dX4_turned_16 ?_
  refine pk_ti (y := nI (mbase (tn / 2))) (nI_add _ _) ?_
  refine lv_istore (lv' := [(4, .int (nI (mbase (tn / 2)))), (3, .int (nI (tn / 2))), (0, .long a), (2, .int (nI tn))]) hx hb dX4_turned_17 hl (by decide) rfl (fun ls hl => ?_)
  have hb9 : mbase (tn / 2) < 22 := by unfold mbase; omega
  refine lv_lload_n hx hb dX4_turned_19 rfl (lv_at hl 2 rfl) ?_
  refine lv_iload hx hb dX4_turned_20 (lv_at hl 0 rfl) ?_
  refine lv_lushr (v := jushr a (nI (mbase (tn / 2)))) hx hb dX4_turned_22 rfl ?_
  refine lv_topl (fun x22 ex22 => ?_)
  refine lv_ldc2 (v := 29127) hx hb hown (hts (.constantLong RX4 22 (29127)) (by decide +kernel)) dX4_turned_23 ?_
  refine lv_land hx hb dX4_turned_26 ?_
  refine lv_topl (fun x26 ex26 => ?_)
  refine lv_lstore (lv' := [(5, .long x26), (4, .int (nI (mbase (tn / 2)))), (3, .int (nI (tn / 2))), (0, .long a), (2, .int (nI tn))]) hx hb dX4_turned_27 hl (by decide) rfl (fun ls hl => ?_)
  refine lv_iload_n hx hb dX4_turned_29 rfl (lv_at hl 4 rfl) ?_
  refine vp_callSi (W.runS (As := [.int (nI tn)]) (rest := []) ⟨hx, hb, hml, hown, hts⟩ (c_X4_wayOf l tn (by omega)) (va_cwS 1 hts gX4_turned_X4_wayOf rfl rfl rfl (by decide +kernel) ⟨Nat.le_of_ble_eq_true rfl, Nat.le_of_ble_eq_true rfl⟩) ⟨px_blind0, fun U hU hW => ⟨rfl, trivial⟩⟩ rfl rfl hl.1 rfl (lv_room (Nat.le_of_ble_eq_true rfl)) dX4_turned_30 ⟨(Nat.le_of_ble_eq_true rfl), (Nat.le_of_ble_eq_true rfl)⟩) (fun r30 er30 => ?_)
  obtain rfl := er30.symm
  refine lv_if_ne (tgt := 44) hx hb dX4_turned_33 (by decide) (fun c33 => ?_) (fun c33 => ?_)
  · have c33 : ¬ (tn % 2) = 0 := _root_.mt (nq_eq (a := (tn % 2)) (b := 0) (by omega) (by omega)).mpr c33
    refine lv_lload hx hb dX4_turned_44 (lv_at hl 0 rfl) ?_
    refine vp_callSl (W.runS (As := [.long x26]) (rest := []) ⟨hx, hb, hml, hown, hts⟩ (c_X4_anticlockwise l x26) (va_cwS 1 hts gX4_turned_X4_anticlockwise rfl rfl rfl (by decide +kernel) ⟨Nat.le_of_ble_eq_true rfl, Nat.le_of_ble_eq_true rfl⟩) ⟨px_blind0, fun U hU hW => ⟨rfl, trivial⟩⟩ rfl rfl hl.1 rfl (lv_room (Nat.le_of_ble_eq_true rfl)) dX4_turned_46 ⟨(Nat.le_of_ble_eq_true rfl), (Nat.le_of_ble_eq_true rfl)⟩) (fun r46 er46 => ?_)
    obtain rfl := er46.symm
    refine lv_lstore (lv' := [(7, .long (j_anticlockwise x26)), (5, .long x26), (4, .int (nI (mbase (tn / 2)))), (3, .int (nI (tn / 2))), (0, .long a), (2, .int (nI tn))]) hx hb dX4_turned_49 hl (by decide) rfl (fun ls hl => ?_)
    refine lv_lload_n hx hb dX4_turned_51 rfl (lv_at hl 4 rfl) ?_
    refine lv_ldc2 (v := 29127) hx hb hown (hts (.constantLong RX4 22 (29127)) (by decide +kernel)) dX4_turned_52 ?_
    refine lv_iload hx hb dX4_turned_55 (lv_at hl 2 rfl) ?_
    refine lv_lshl (v := jshl 29127 (nI (mbase (tn / 2)))) hx hb dX4_turned_57 rfl ?_
    refine lv_topl (fun x57 ex57 => ?_)
    refine lv_ldc2 (v := (-1)) hx hb hown (hts (.constantLong RX4 31 (-1)) (by decide +kernel)) dX4_turned_58 ?_
    refine lv_lxor hx hb dX4_turned_61 ?_
    refine lv_topl (fun x61 ex61 => ?_)
    refine lv_land hx hb dX4_turned_62 ?_
    refine lv_topl (fun x62 ex62 => ?_)
    refine lv_lload hx hb dX4_turned_63 (lv_at hl 0 rfl) ?_
    refine lv_iload hx hb dX4_turned_65 (lv_at hl 2 rfl) ?_
    refine lv_lshl (v := jshl (j_anticlockwise x26) (nI (mbase (tn / 2)))) hx hb dX4_turned_67 rfl ?_
    refine lv_topl (fun x67 ex67 => ?_)
    refine lv_lor hx hb dX4_turned_68 ?_
    refine lv_topl (fun x68 ex68 => ?_)
    refine W.lret (v := x68) hx hb hr (fun tt ht hW => ⟨x68, rfl, ?_, ht⟩) (fun _ h => nomatch h) dX4_turned_69
    obtain rfl := ex22.symm; obtain rfl := ex26.symm; obtain rfl := ex57.symm; obtain rfl := ex61.symm; obtain rfl := ex62.symm; obtain rfl := ex67.symm; obtain rfl := ex68.symm; unfold cturned; first | rw [if_pos c33] | rw [if_neg c33]
  · have c33 : (tn % 2) = 0 := (nq_eq (a := (tn % 2)) (b := 0) (by omega) (by omega)).mp c33
    refine lv_lload hx hb dX4_turned_36 (lv_at hl 0 rfl) ?_
    refine vp_callSl (W.runS (As := [.long x26]) (rest := []) ⟨hx, hb, hml, hown, hts⟩ (c_X4_clockwise l x26) (va_cwS 1 hts gX4_turned_X4_clockwise rfl rfl rfl (by decide +kernel) ⟨Nat.le_of_ble_eq_true rfl, Nat.le_of_ble_eq_true rfl⟩) ⟨px_blind0, fun U hU hW => ⟨rfl, trivial⟩⟩ rfl rfl hl.1 rfl (lv_room (Nat.le_of_ble_eq_true rfl)) dX4_turned_38 ⟨(Nat.le_of_ble_eq_true rfl), (Nat.le_of_ble_eq_true rfl)⟩) (fun r38 er38 => ?_)
    obtain rfl := er38.symm
    refine lv_goto (tgt := 49) hx hb dX4_turned_41 (by decide) ?_
    refine lv_lstore (lv' := [(7, .long (j_clockwise x26)), (5, .long x26), (4, .int (nI (mbase (tn / 2)))), (3, .int (nI (tn / 2))), (0, .long a), (2, .int (nI tn))]) hx hb dX4_turned_49 hl (by decide) rfl (fun ls hl => ?_)
    refine lv_lload_n hx hb dX4_turned_51 rfl (lv_at hl 4 rfl) ?_
    refine lv_ldc2 (v := 29127) hx hb hown (hts (.constantLong RX4 22 (29127)) (by decide +kernel)) dX4_turned_52 ?_
    refine lv_iload hx hb dX4_turned_55 (lv_at hl 2 rfl) ?_
    refine lv_lshl (v := jshl 29127 (nI (mbase (tn / 2)))) hx hb dX4_turned_57 rfl ?_
    refine lv_topl (fun x57 ex57 => ?_)
    refine lv_ldc2 (v := (-1)) hx hb hown (hts (.constantLong RX4 31 (-1)) (by decide +kernel)) dX4_turned_58 ?_
    refine lv_lxor hx hb dX4_turned_61 ?_
    refine lv_topl (fun x61 ex61 => ?_)
    refine lv_land hx hb dX4_turned_62 ?_
    refine lv_topl (fun x62 ex62 => ?_)
    refine lv_lload hx hb dX4_turned_63 (lv_at hl 0 rfl) ?_
    refine lv_iload hx hb dX4_turned_65 (lv_at hl 2 rfl) ?_
    refine lv_lshl (v := jshl (j_clockwise x26) (nI (mbase (tn / 2)))) hx hb dX4_turned_67 rfl ?_
    refine lv_topl (fun x67 ex67 => ?_)
    refine lv_lor hx hb dX4_turned_68 ?_
    refine lv_topl (fun x68 ex68 => ?_)
    refine W.lret (v := x68) hx hb hr (fun tt ht hW => ⟨x68, rfl, ?_, ht⟩) (fun _ h => nomatch h) dX4_turned_69
    obtain rfl := ex22.symm; obtain rfl := ex26.symm; obtain rfl := ex57.symm; obtain rfl := ex61.symm; obtain rfl := ex62.symm; obtain rfl := ex67.symm; obtain rfl := ex68.symm; unfold cturned; first | rw [if_pos c33] | rw [if_neg c33]
def slotN (a : Int64) : Nat := ((jushr (a * (-7046029254386353131)) 54).toInt32).toBitVec.toNat % 1024
theorem slot_lt (a : Int64) : slotN a < 1024 := Nat.mod_lt _ (by decide)
theorem slot_eq (a : Int64) : (jushr (a * (-7046029254386353131)) 54).toInt32 = nI (slotN a) := by
  unfold slotN
  generalize a * (-7046029254386353131) = x
  have e : x = lN x.toBitVec.toNat := Int64.toBitVec_inj.mp (by rw [lN_bv, BitVec.ofNat_toNat, BitVec.setWidth_eq])
  have h := x.toBitVec.isLt
  generalize x.toBitVec.toNat = N at e h
  have q : jushr x 54 = lN (N / 2 ^ 54) := by rw [e]; exact jush_L h (k := 54) (by decide)
  rw [q, lN_i, nI_bits]
  exact congrArg nI (by omega)

set_option maxHeartbeats 400000 in
set_option maxRecDepth 100000 in
theorem c_X5_slotOf (l : Launch) (a : Int64) : Met l yX5_slotOf wsX5_slotOf ({ frames := 0, cells := 0, slots := 0, locals := 0 } : Room) (va_Pc [.long a] (fun _ => True)) (vp_Si (fun r => r = nI (slotN a))) 0 0 (fun _ => False) := by
  refine Met.ofW (cc := cX5_slotOf) (maxL := 3) (ret := (some .int)) (by decide) rfl ?_
  intro p e s m args below meth c s₁ B hml hv
  obtain ⟨rfl, -⟩ := hv
  have hx := B.exec
  have hb := B.bytes
  have hr := B.returns
  have hts := atoms_spec (ws := wsX5_slotOf) B.pre
  have hown : s.vm.findClass RX5 = some m.cls := findClass_of_methodNamed B.named
  have hlocks := B.notSynchronized
  have hl := lv_entry ([.long a]) (n := 3) (Nat.le_of_ble_eq_true rfl)
  rw [lg_entry_eq]
  generalize (lg_sl ([.long a]) ++ List.replicate (3 - (lg_sl ([.long a])).length) Slot.unset).toArray = ls at hl ⊢
  have hl : lv_has ls 3 [(0, .long a)] := hl
  refine lv_lload_n hx hb dX5_slotOf_0 rfl (lv_at hl 0 rfl) ?_
  refine lv_ldc2 (v := (-7046029254386353131)) hx hb hown (hts (.constantLong RX5 21 (-7046029254386353131)) (by decide +kernel)) dX5_slotOf_1 ?_
  refine lv_lmul hx hb dX5_slotOf_4 ?_
  refine lv_topl (fun x4 ex4 => ?_)
  refine lv_bipush (v := 54) hx hb dX5_slotOf_5 (by decide) ?_
  refine lv_lushr (v := jushr x4 54) hx hb dX5_slotOf_7 rfl ?_
  refine lv_topl (fun x7 ex7 => ?_)
  refine lv_l2i (v := (x7 : Int64).toInt32) hx hb dX5_slotOf_8 rfl ?_
  refine pk_ti (y := nI (slotN a)) (by obtain rfl := ex4.symm; obtain rfl := ex7.symm; exact slot_eq a) ?_
  have hs9 := slot_lt a
  refine lv_istore_n (lv' := [(2, .int (nI (slotN a))), (0, .long a)]) hx hb dX5_slotOf_9 rfl hl (by decide) rfl (fun ls hl => ?_)
  refine lv_iload_n hx hb dX5_slotOf_10 rfl (lv_at hl 0 rfl) ?_
  refine lv_if_lt (tgt := 25) hx hb dX5_slotOf_11 (by decide) (fun c11 => ?_) (fun c11 => ?_)
  · have c11 : (slotN a) < 0 := (nq_lt (a := (slotN a)) (b := 0) (by omega) (by omega)).mp c11
    omega
  · have c11 : ¬ (slotN a) < 0 := _root_.mt (nq_lt (a := (slotN a)) (b := 0) (by omega) (by omega)).mpr c11
    refine lv_iload_n hx hb dX5_slotOf_14 rfl (lv_at hl 0 rfl) ?_
    refine lv_sipush (v := 1024) hx hb dX5_slotOf_15 (by decide) ?_
    refine lv_icmp_ge (tgt := 25) hx hb dX5_slotOf_18 (by decide) (fun c18 => ?_) (fun c18 => ?_)
    · have c18 : 1024 ≤ (slotN a) := (nq_le (a := 1024) (b := (slotN a)) (by omega) (by omega)).mp c18
      omega
    · have c18 : ¬ 1024 ≤ (slotN a) := _root_.mt (nq_le (a := 1024) (b := (slotN a)) (by omega) (by omega)).mpr c18
      refine lv_iload_n hx hb dX5_slotOf_21 rfl (lv_at hl 0 rfl) ?_
      refine lv_goto (tgt := 26) hx hb dX5_slotOf_22 (by decide) ?_
      refine W.iret (v := (nI (slotN a))) hx hb hr (fun tt ht hW => ⟨(nI (slotN a)), rfl, ?_, ht⟩) (fun _ h => nomatch h) dX5_slotOf_26
      rfl
set_option maxHeartbeats 400000 in
set_option maxRecDepth 100000 in
theorem c_X0_codeSeen (l : Launch) (a b : Int64) (v : Nat) (hv : v < 8) : Met l yX0_codeSeen wsX0_codeSeen ({ frames := 0, cells := 0, slots := 0, locals := 0 } : Room) (va_Pc [.long a, .long b, .int (nI v)] (fun _ => True)) (vp_Sl (fun r => r = ccode a b v 36)) 0 0 (fun _ => False) := by
  refine Met.ofW (cc := cX0_codeSeen) (maxL := 17) (ret := (some .long)) (by decide) rfl ?_
  intro p e s m args below meth c s₁ B hml hv
  obtain ⟨rfl, -⟩ := hv
  have hx := B.exec
  have hb := B.bytes
  have hr := B.returns
  have hts := atoms_spec (ws := wsX0_codeSeen) B.pre
  have hown : s.vm.findClass RX0 = some m.cls := findClass_of_methodNamed B.named
  have hlocks := B.notSynchronized
  have hl := lv_entry ([.long a, .long b, .int (nI v)]) (n := 17) (Nat.le_of_ble_eq_true rfl)
  rw [lg_entry_eq]
  generalize (lg_sl ([.long a, .long b, .int (nI v)]) ++ List.replicate (17 - (lg_sl ([.long a, .long b, .int (nI v)])).length) Slot.unset).toArray = ls at hl ⊢
  have hl : lv_has ls 17 [(0, .long a), (2, .long b), (4, .int (nI v))] := hl
  have loop127 : ∀ (n127 i127 : Nat), i127 + n127 = 36 → ∀ ls, lv_has ls 17 [(15, .int (pm n127)), (13, .long (ccode a b v i127)), (8, .int (vorg v)), (11, .int (vrow v)), (12, .int (vcol v)), (0, .long a), (2, .long b)] → W p l e (headSpec wsX0_codeSeen ({ frames := 0, cells := 0, slots := 0, locals := 0 } : Room)).room s m ([.long a, .long b, .int (nI v)] : List Value).toArray below meth c s.heap [] 0 0 (MQ below (vp_Sl (fun r => r = ccode a b v 36)) ([.long a, .long b, .int (nI v)] : List Value).toArray s 0 0 (fun _ => False)) (F0 m 127 ls []) := by
    intro n127
    induction n127 with
    | zero =>
      intro i127 hi127 ls hl
      obtain rfl : i127 = 36 := by omega
      have hl : lv_has ls 17 [(15, .int (-1)), (13, .long (ccode a b v 36)), (8, .int (vorg v)), (11, .int (vrow v)), (12, .int (vcol v)), (0, .long a), (2, .long b)] := hl
      refine lv_iload hx hb dX0_codeSeen_127 (lv_at hl 0 rfl) ?_
      refine lv_if_lt (tgt := 186) hx hb dX0_codeSeen_129 (by decide) (fun c129 => ?_) (fun c129 => ?_)
      · refine lv_lload hx hb dX0_codeSeen_186 (lv_at hl 1 rfl) ?_
        refine W.lret (v := (ccode a b v 36)) hx hb hr (fun tt ht hW => ⟨(ccode a b v 36), rfl, ?_, ht⟩) (fun _ h => nomatch h) dX0_codeSeen_188
        rfl
      · exact absurd c129 (by decide)
    | succ n127 ih127 =>
      intro i127 hi127 ls hl
      have hl : lv_has ls 17 [(15, .int (nI n127)), (13, .long (ccode a b v i127)), (8, .int (vorg v)), (11, .int (vrow v)), (12, .int (vcol v)), (0, .long a), (2, .long b)] := hl
      refine lv_iload hx hb dX0_codeSeen_127 (lv_at hl 0 rfl) ?_
      refine lv_if_lt (tgt := 186) hx hb dX0_codeSeen_129 (by decide) (fun c129 => ?_) (fun c129 => ?_)
      · have c129 : n127 < 0 := (nq_lt (a := n127) (b := 0) (by omega) (by omega)).mp c129
        omega
      · have c129 : ¬ n127 < 0 := _root_.mt (nq_lt (a := n127) (b := 0) (by omega) (by omega)).mpr c129
        refine lv_iload hx hb dX0_codeSeen_132 (lv_at hl 2 rfl) ?_
        refine lv_iload hx hb dX0_codeSeen_134 (lv_at hl 0 rfl) ?_
        refine lv_bipush (v := 6) hx hb dX0_codeSeen_136 (by decide) ?_
        refine lv_idiv hx hb dX0_codeSeen_138 (by decide) ?_
        refine pk_ti (y := nI (n127 / 6)) (pk_div (a := n127) (d := 6) (by omega) (by omega) (by omega)) ?_
        refine lv_iload hx hb dX0_codeSeen_139 (lv_at hl 3 rfl) ?_
        refine lv_imul hx hb dX0_codeSeen_141 ?_
        refine lv_topi (fun x141 ex141 => ?_)
        refine lv_iadd hx hb dX0_codeSeen_142 ?_
        refine lv_topi (fun x142 ex142 => ?_)
        refine lv_iload hx hb dX0_codeSeen_143 (lv_at hl 0 rfl) ?_
        refine lv_bipush (v := 6) hx hb dX0_codeSeen_145 (by decide) ?_
        refine lv_irem hx hb dX0_codeSeen_147 (by decide) ?_
        refine pk_ti (y := nI (n127 % 6)) (pk_rem (a := n127) (d := 6) (by omega) (by omega) (by omega)) ?_
        refine lv_iload hx hb dX0_codeSeen_148 (lv_at hl 4 rfl) ?_
        refine lv_imul hx hb dX0_codeSeen_150 ?_
        refine lv_topi (fun x150 ex150 => ?_)
        refine lv_iadd hx hb dX0_codeSeen_151 ?_
        refine pk_ti (y := nI (cview v n127)) (by obtain rfl := ex141.symm; obtain rfl := ex142.symm; obtain rfl := ex150.symm; exact cview_eq v hv n127 (by omega)) ?_
        have hcv := cview_lt v hv n127 (by omega)
        refine lv_istore (lv' := [(16, .int (nI (cview v n127))), (15, .int (nI n127)), (13, .long (ccode a b v i127)), (8, .int (vorg v)), (11, .int (vrow v)), (12, .int (vcol v)), (0, .long a), (2, .long b)]) hx hb dX0_codeSeen_152 hl (by decide) rfl (fun ls hl => ?_)
        refine lv_ldc2 (v := 3) hx hb hown (hts (.constantLong RX0 21 (3)) (by decide +kernel)) dX0_codeSeen_154 ?_
        refine lv_lload hx hb dX0_codeSeen_157 (lv_at hl 2 rfl) ?_
        refine lv_lmul hx hb dX0_codeSeen_159 ?_
        refine lv_topl (fun x159 ex159 => ?_)
        refine lv_lload_n hx hb dX0_codeSeen_160 rfl (lv_at hl 6 rfl) ?_
        refine lv_iload hx hb dX0_codeSeen_161 (lv_at hl 0 rfl) ?_
        refine lv_lushr (v := jushr a (nI (cview v n127))) hx hb dX0_codeSeen_163 rfl ?_
        refine lv_topl (fun x163 ex163 => ?_)
        refine lv_lconst (v := 1) hx hb dX0_codeSeen_164 (by decide) ?_
        refine lv_land hx hb dX0_codeSeen_165 ?_
        refine lv_topl (fun x165 ex165 => ?_)
        refine lv_ladd hx hb dX0_codeSeen_166 ?_
        refine lv_topl (fun x166 ex166 => ?_)
        refine lv_ldc2 (v := 2) hx hb hown (hts (.constantLong RX0 23 (2)) (by decide +kernel)) dX0_codeSeen_167 ?_
        refine lv_lload_n hx hb dX0_codeSeen_170 rfl (lv_at hl 7 rfl) ?_
        refine lv_iload hx hb dX0_codeSeen_171 (lv_at hl 0 rfl) ?_
        refine lv_lushr (v := jushr b (nI (cview v n127))) hx hb dX0_codeSeen_173 rfl ?_
        refine lv_topl (fun x173 ex173 => ?_)
        refine lv_lconst (v := 1) hx hb dX0_codeSeen_174 (by decide) ?_
        refine lv_land hx hb dX0_codeSeen_175 ?_
        refine lv_topl (fun x175 ex175 => ?_)
        refine lv_lmul hx hb dX0_codeSeen_176 ?_
        refine lv_topl (fun x176 ex176 => ?_)
        refine lv_ladd hx hb dX0_codeSeen_177 ?_
        refine lv_topl (fun x177 ex177 => ?_)
        refine lv_lstore (lv' := [(13, .long x177), (16, .int (nI (cview v n127))), (15, .int (nI n127)), (8, .int (vorg v)), (11, .int (vrow v)), (12, .int (vcol v)), (0, .long a), (2, .long b)]) hx hb dX0_codeSeen_178 hl (by decide) rfl (fun ls hl => ?_)
        obtain ⟨x180, ex180⟩ : ∃ y : Int32, y = (nI n127) + (-1) := ⟨_, rfl⟩
        refine lv_iinc (v := x180) (lv' := [(15, .int x180), (13, .long x177), (16, .int (nI (cview v n127))), (8, .int (vorg v)), (11, .int (vrow v)), (12, .int (vcol v)), (0, .long a), (2, .long b)]) hx hb dX0_codeSeen_180 hl (k := 2) rfl (by rw [ex180]; rfl) (by decide) rfl (fun ls hl => ?_)
        refine lv_goto (tgt := 127) hx hb dX0_codeSeen_183 (by decide) ?_
        exact ih127 (i127 + 1) (by omega) ls (by { rw [← (show x180 = _ from (ex180).trans (pm_dec _))]; have e9 : (x177 : Int64) = (ccode a b v (i127 + 1)) := by { obtain rfl : n127 = 35 - i127 := (by omega); obtain rfl := ex141.symm; obtain rfl := ex142.symm; obtain rfl := ex150.symm; obtain rfl := ex159.symm; obtain rfl := ex163.symm; obtain rfl := ex165.symm; obtain rfl := ex166.symm; obtain rfl := ex173.symm; obtain rfl := ex175.symm; obtain rfl := ex176.symm; obtain rfl := ex177.symm; obtain rfl := ex180.symm; rfl }; rw [← e9]; exact lv_sub hl [0, 1, 3, 4, 5, 6, 7] rfl })
  refine lv_iload hx hb dX0_codeSeen_0 (lv_at hl 2 rfl) ?_
  refine lv_iconst (v := 1) hx hb dX0_codeSeen_2 (by decide) ?_
  refine lv_iand hx hb dX0_codeSeen_3 ?_
  refine pk_ti (y := nI (v % 2)) (view1 v hv) ?_
  refine lv_if_eq (tgt := 11) hx hb dX0_codeSeen_4 (by decide) (fun c4 => ?_) (fun c4 => ?_)
  · have c4 : (v % 2) = 0 := (nq_eq (a := (v % 2)) (b := 0) (by omega) (by omega)).mp c4
    refine lv_iconst (v := 0) hx hb dX0_codeSeen_11 (by decide) ?_
    refine lv_istore (lv' := [(5, .int 0), (0, .long a), (2, .long b), (4, .int (nI v))]) hx hb dX0_codeSeen_12 hl (by decide) rfl (fun ls hl => ?_)
    refine lv_iload hx hb dX0_codeSeen_14 (lv_at hl 3 rfl) ?_
    refine lv_iconst (v := 2) hx hb dX0_codeSeen_16 (by decide) ?_
    refine lv_iand hx hb dX0_codeSeen_17 ?_
    refine pk_ti (y := nI (v / 2 % 2 * 2)) (view2 v hv) ?_
    refine lv_if_eq (tgt := 25) hx hb dX0_codeSeen_18 (by decide) (fun c18 => ?_) (fun c18 => ?_)
    · have c18 : (v / 2 % 2 * 2) = 0 := (nq_eq (a := (v / 2 % 2 * 2)) (b := 0) (by omega) (by omega)).mp c18
      refine lv_iconst (v := 0) hx hb dX0_codeSeen_25 (by decide) ?_
      refine lv_istore (lv' := [(6, .int 0), (5, .int 0), (0, .long a), (2, .long b), (4, .int (nI v))]) hx hb dX0_codeSeen_26 hl (by decide) rfl (fun ls hl => ?_)
      refine lv_iload hx hb dX0_codeSeen_28 (lv_at hl 4 rfl) ?_
      refine lv_iconst (v := 4) hx hb dX0_codeSeen_30 (by decide) ?_
      refine lv_iand hx hb dX0_codeSeen_31 ?_
      refine pk_ti (y := nI (v / 4 % 2 * 4)) (view4 v hv) ?_
      refine lv_if_eq (tgt := 39) hx hb dX0_codeSeen_32 (by decide) (fun c32 => ?_) (fun c32 => ?_)
      · have c32 : (v / 4 % 2 * 4) = 0 := (nq_eq (a := (v / 4 % 2 * 4)) (b := 0) (by omega) (by omega)).mp c32
        refine lv_iconst (v := 0) hx hb dX0_codeSeen_39 (by decide) ?_
        refine lv_istore (lv' := [(7, .int 0), (6, .int 0), (5, .int 0), (0, .long a), (2, .long b), (4, .int (nI v))]) hx hb dX0_codeSeen_40 hl (by decide) rfl (fun ls hl => ?_)
        refine lv_iload hx hb dX0_codeSeen_42 (lv_at hl 2 rfl) ?_
        refine lv_if_eq (tgt := 52) hx hb dX0_codeSeen_44 (by decide) (fun c44 => ?_) (fun c44 => ?_)
        · refine lv_iconst (v := 0) hx hb dX0_codeSeen_52 (by decide) ?_
          refine lv_iload hx hb dX0_codeSeen_53 (lv_at hl 1 rfl) ?_
          refine lv_if_eq (tgt := 62) hx hb dX0_codeSeen_55 (by decide) (fun c55 => ?_) (fun c55 => ?_)
          · refine lv_iconst (v := 0) hx hb dX0_codeSeen_62 (by decide) ?_
            refine lv_iadd hx hb dX0_codeSeen_63 ?_
            refine pk_ti (y := 0) (by decide) ?_
            refine lv_istore (lv' := [(8, .int 0), (7, .int 0), (6, .int 0), (5, .int 0), (0, .long a), (2, .long b), (4, .int (nI v))]) hx hb dX0_codeSeen_64 hl (by decide) rfl (fun ls hl => ?_)
            refine lv_iload hx hb dX0_codeSeen_66 (lv_at hl 3 rfl) ?_
            refine lv_if_eq (tgt := 76) hx hb dX0_codeSeen_68 (by decide) (fun c68 => ?_) (fun c68 => ?_)
            · refine lv_bipush (v := 6) hx hb dX0_codeSeen_76 (by decide) ?_
              refine lv_istore (lv' := [(9, .int 6), (8, .int 0), (7, .int 0), (6, .int 0), (5, .int 0), (0, .long a), (2, .long b), (4, .int (nI v))]) hx hb dX0_codeSeen_78 hl (by decide) rfl (fun ls hl => ?_)
              refine lv_iload hx hb dX0_codeSeen_80 (lv_at hl 3 rfl) ?_
              refine lv_if_eq (tgt := 89) hx hb dX0_codeSeen_82 (by decide) (fun c82 => ?_) (fun c82 => ?_)
              · refine lv_iconst (v := 1) hx hb dX0_codeSeen_89 (by decide) ?_
                refine lv_istore (lv' := [(10, .int 1), (9, .int 6), (8, .int 0), (7, .int 0), (6, .int 0), (5, .int 0), (0, .long a), (2, .long b), (4, .int (nI v))]) hx hb dX0_codeSeen_90 hl (by decide) rfl (fun ls hl => ?_)
                refine lv_iload hx hb dX0_codeSeen_92 (lv_at hl 3 rfl) ?_
                refine lv_if_eq (tgt := 102) hx hb dX0_codeSeen_94 (by decide) (fun c94 => ?_) (fun c94 => ?_)
                · refine lv_iload hx hb dX0_codeSeen_102 (lv_at hl 1 rfl) ?_
                  refine lv_istore (lv' := [(11, .int 6), (10, .int 1), (9, .int 6), (8, .int 0), (7, .int 0), (6, .int 0), (5, .int 0), (0, .long a), (2, .long b), (4, .int (nI v))]) hx hb dX0_codeSeen_104 hl (by decide) rfl (fun ls hl => ?_)
                  refine lv_iload hx hb dX0_codeSeen_106 (lv_at hl 4 rfl) ?_
                  refine lv_if_eq (tgt := 116) hx hb dX0_codeSeen_108 (by decide) (fun c108 => ?_) (fun c108 => ?_)
                  · refine lv_iload hx hb dX0_codeSeen_116 (lv_at hl 1 rfl) ?_
                    refine lv_istore (lv' := [(12, .int 1), (11, .int 6), (10, .int 1), (9, .int 6), (8, .int 0), (7, .int 0), (6, .int 0), (5, .int 0), (0, .long a), (2, .long b), (4, .int (nI v))]) hx hb dX0_codeSeen_118 hl (by decide) rfl (fun ls hl => ?_)
                    refine lv_lconst (v := 0) hx hb dX0_codeSeen_120 (by decide) ?_
                    refine lv_lstore (lv' := [(13, .long 0), (12, .int 1), (11, .int 6), (10, .int 1), (9, .int 6), (8, .int 0), (7, .int 0), (6, .int 0), (5, .int 0), (0, .long a), (2, .long b), (4, .int (nI v))]) hx hb dX0_codeSeen_121 hl (by decide) rfl (fun ls hl => ?_)
                    refine lv_bipush (v := 35) hx hb dX0_codeSeen_123 (by decide) ?_
                    refine lv_istore (lv' := [(15, .int 35), (13, .long 0), (12, .int 1), (11, .int 6), (10, .int 1), (9, .int 6), (8, .int 0), (7, .int 0), (6, .int 0), (5, .int 0), (0, .long a), (2, .long b), (4, .int (nI v))]) hx hb dX0_codeSeen_125 hl (by decide) rfl (fun ls hl => ?_)
                    exact loop127 36 0 (by omega) ls (by { have e9 : (0 : Int32) = (vorg v) := by { simp only [vorg, vrow, vcol, vdown, vacross, c4, c18, c32, if_true, if_false, ite_true, ite_false] <;> rfl }; rw [← e9]; have e9 : (6 : Int32) = (vrow v) := by { simp only [vorg, vrow, vcol, vdown, vacross, c4, c18, c32, if_true, if_false, ite_true, ite_false] <;> rfl }; rw [← e9]; have e9 : (1 : Int32) = (vcol v) := by { simp only [vorg, vrow, vcol, vdown, vacross, c4, c18, c32, if_true, if_false, ite_true, ite_false] <;> rfl }; rw [← e9]; exact lv_sub hl [0, 1, 6, 3, 2, 10, 11] rfl })
                  · exact absurd c108 (by decide)
                · exact absurd c94 (by decide)
              · exact absurd c82 (by decide)
            · exact absurd c68 (by decide)
          · exact absurd c55 (by decide)
        · exact absurd c44 (by decide)
      · have c32 : ¬ (v / 4 % 2 * 4) = 0 := _root_.mt (nq_eq (a := (v / 4 % 2 * 4)) (b := 0) (by omega) (by omega)).mpr c32
        refine lv_iconst (v := 1) hx hb dX0_codeSeen_35 (by decide) ?_
        refine lv_goto (tgt := 40) hx hb dX0_codeSeen_36 (by decide) ?_
        refine lv_istore (lv' := [(7, .int 1), (6, .int 0), (5, .int 0), (0, .long a), (2, .long b), (4, .int (nI v))]) hx hb dX0_codeSeen_40 hl (by decide) rfl (fun ls hl => ?_)
        refine lv_iload hx hb dX0_codeSeen_42 (lv_at hl 2 rfl) ?_
        refine lv_if_eq (tgt := 52) hx hb dX0_codeSeen_44 (by decide) (fun c44 => ?_) (fun c44 => ?_)
        · refine lv_iconst (v := 0) hx hb dX0_codeSeen_52 (by decide) ?_
          refine lv_iload hx hb dX0_codeSeen_53 (lv_at hl 1 rfl) ?_
          refine lv_if_eq (tgt := 62) hx hb dX0_codeSeen_55 (by decide) (fun c55 => ?_) (fun c55 => ?_)
          · refine lv_iconst (v := 0) hx hb dX0_codeSeen_62 (by decide) ?_
            refine lv_iadd hx hb dX0_codeSeen_63 ?_
            refine pk_ti (y := 0) (by decide) ?_
            refine lv_istore (lv' := [(8, .int 0), (7, .int 1), (6, .int 0), (5, .int 0), (0, .long a), (2, .long b), (4, .int (nI v))]) hx hb dX0_codeSeen_64 hl (by decide) rfl (fun ls hl => ?_)
            refine lv_iload hx hb dX0_codeSeen_66 (lv_at hl 3 rfl) ?_
            refine lv_if_eq (tgt := 76) hx hb dX0_codeSeen_68 (by decide) (fun c68 => ?_) (fun c68 => ?_)
            · refine lv_bipush (v := 6) hx hb dX0_codeSeen_76 (by decide) ?_
              refine lv_istore (lv' := [(9, .int 6), (8, .int 0), (7, .int 1), (6, .int 0), (5, .int 0), (0, .long a), (2, .long b), (4, .int (nI v))]) hx hb dX0_codeSeen_78 hl (by decide) rfl (fun ls hl => ?_)
              refine lv_iload hx hb dX0_codeSeen_80 (lv_at hl 3 rfl) ?_
              refine lv_if_eq (tgt := 89) hx hb dX0_codeSeen_82 (by decide) (fun c82 => ?_) (fun c82 => ?_)
              · refine lv_iconst (v := 1) hx hb dX0_codeSeen_89 (by decide) ?_
                refine lv_istore (lv' := [(10, .int 1), (9, .int 6), (8, .int 0), (7, .int 1), (6, .int 0), (5, .int 0), (0, .long a), (2, .long b), (4, .int (nI v))]) hx hb dX0_codeSeen_90 hl (by decide) rfl (fun ls hl => ?_)
                refine lv_iload hx hb dX0_codeSeen_92 (lv_at hl 3 rfl) ?_
                refine lv_if_eq (tgt := 102) hx hb dX0_codeSeen_94 (by decide) (fun c94 => ?_) (fun c94 => ?_)
                · exact absurd c94 (by decide)
                · refine lv_iload hx hb dX0_codeSeen_97 (lv_at hl 0 rfl) ?_
                  refine lv_goto (tgt := 104) hx hb dX0_codeSeen_99 (by decide) ?_
                  refine lv_istore (lv' := [(11, .int 1), (10, .int 1), (9, .int 6), (8, .int 0), (7, .int 1), (6, .int 0), (5, .int 0), (0, .long a), (2, .long b), (4, .int (nI v))]) hx hb dX0_codeSeen_104 hl (by decide) rfl (fun ls hl => ?_)
                  refine lv_iload hx hb dX0_codeSeen_106 (lv_at hl 4 rfl) ?_
                  refine lv_if_eq (tgt := 116) hx hb dX0_codeSeen_108 (by decide) (fun c108 => ?_) (fun c108 => ?_)
                  · exact absurd c108 (by decide)
                  · refine lv_iload hx hb dX0_codeSeen_111 (lv_at hl 2 rfl) ?_
                    refine lv_goto (tgt := 118) hx hb dX0_codeSeen_113 (by decide) ?_
                    refine lv_istore (lv' := [(12, .int 6), (11, .int 1), (10, .int 1), (9, .int 6), (8, .int 0), (7, .int 1), (6, .int 0), (5, .int 0), (0, .long a), (2, .long b), (4, .int (nI v))]) hx hb dX0_codeSeen_118 hl (by decide) rfl (fun ls hl => ?_)
                    refine lv_lconst (v := 0) hx hb dX0_codeSeen_120 (by decide) ?_
                    refine lv_lstore (lv' := [(13, .long 0), (12, .int 6), (11, .int 1), (10, .int 1), (9, .int 6), (8, .int 0), (7, .int 1), (6, .int 0), (5, .int 0), (0, .long a), (2, .long b), (4, .int (nI v))]) hx hb dX0_codeSeen_121 hl (by decide) rfl (fun ls hl => ?_)
                    refine lv_bipush (v := 35) hx hb dX0_codeSeen_123 (by decide) ?_
                    refine lv_istore (lv' := [(15, .int 35), (13, .long 0), (12, .int 6), (11, .int 1), (10, .int 1), (9, .int 6), (8, .int 0), (7, .int 1), (6, .int 0), (5, .int 0), (0, .long a), (2, .long b), (4, .int (nI v))]) hx hb dX0_codeSeen_125 hl (by decide) rfl (fun ls hl => ?_)
                    exact loop127 36 0 (by omega) ls (by { have e9 : (0 : Int32) = (vorg v) := by { simp only [vorg, vrow, vcol, vdown, vacross, c4, c18, c32, if_true, if_false, ite_true, ite_false] <;> rfl }; rw [← e9]; have e9 : (1 : Int32) = (vrow v) := by { simp only [vorg, vrow, vcol, vdown, vacross, c4, c18, c32, if_true, if_false, ite_true, ite_false] <;> rfl }; rw [← e9]; have e9 : (6 : Int32) = (vcol v) := by { simp only [vorg, vrow, vcol, vdown, vacross, c4, c18, c32, if_true, if_false, ite_true, ite_false] <;> rfl }; rw [← e9]; exact lv_sub hl [0, 1, 6, 3, 2, 10, 11] rfl })
              · exact absurd c82 (by decide)
            · exact absurd c68 (by decide)
          · exact absurd c55 (by decide)
        · exact absurd c44 (by decide)
    · have c18 : ¬ (v / 2 % 2 * 2) = 0 := _root_.mt (nq_eq (a := (v / 2 % 2 * 2)) (b := 0) (by omega) (by omega)).mpr c18
      refine lv_iconst (v := 1) hx hb dX0_codeSeen_21 (by decide) ?_
      refine lv_goto (tgt := 26) hx hb dX0_codeSeen_22 (by decide) ?_
      refine lv_istore (lv' := [(6, .int 1), (5, .int 0), (0, .long a), (2, .long b), (4, .int (nI v))]) hx hb dX0_codeSeen_26 hl (by decide) rfl (fun ls hl => ?_)
      refine lv_iload hx hb dX0_codeSeen_28 (lv_at hl 4 rfl) ?_
      refine lv_iconst (v := 4) hx hb dX0_codeSeen_30 (by decide) ?_
      refine lv_iand hx hb dX0_codeSeen_31 ?_
      refine pk_ti (y := nI (v / 4 % 2 * 4)) (view4 v hv) ?_
      refine lv_if_eq (tgt := 39) hx hb dX0_codeSeen_32 (by decide) (fun c32 => ?_) (fun c32 => ?_)
      · have c32 : (v / 4 % 2 * 4) = 0 := (nq_eq (a := (v / 4 % 2 * 4)) (b := 0) (by omega) (by omega)).mp c32
        refine lv_iconst (v := 0) hx hb dX0_codeSeen_39 (by decide) ?_
        refine lv_istore (lv' := [(7, .int 0), (6, .int 1), (5, .int 0), (0, .long a), (2, .long b), (4, .int (nI v))]) hx hb dX0_codeSeen_40 hl (by decide) rfl (fun ls hl => ?_)
        refine lv_iload hx hb dX0_codeSeen_42 (lv_at hl 2 rfl) ?_
        refine lv_if_eq (tgt := 52) hx hb dX0_codeSeen_44 (by decide) (fun c44 => ?_) (fun c44 => ?_)
        · refine lv_iconst (v := 0) hx hb dX0_codeSeen_52 (by decide) ?_
          refine lv_iload hx hb dX0_codeSeen_53 (lv_at hl 1 rfl) ?_
          refine lv_if_eq (tgt := 62) hx hb dX0_codeSeen_55 (by decide) (fun c55 => ?_) (fun c55 => ?_)
          · exact absurd c55 (by decide)
          · refine lv_iconst (v := 5) hx hb dX0_codeSeen_58 (by decide) ?_
            refine lv_goto (tgt := 63) hx hb dX0_codeSeen_59 (by decide) ?_
            refine lv_iadd hx hb dX0_codeSeen_63 ?_
            refine pk_ti (y := 5) (by decide) ?_
            refine lv_istore (lv' := [(8, .int 5), (7, .int 0), (6, .int 1), (5, .int 0), (0, .long a), (2, .long b), (4, .int (nI v))]) hx hb dX0_codeSeen_64 hl (by decide) rfl (fun ls hl => ?_)
            refine lv_iload hx hb dX0_codeSeen_66 (lv_at hl 3 rfl) ?_
            refine lv_if_eq (tgt := 76) hx hb dX0_codeSeen_68 (by decide) (fun c68 => ?_) (fun c68 => ?_)
            · refine lv_bipush (v := 6) hx hb dX0_codeSeen_76 (by decide) ?_
              refine lv_istore (lv' := [(9, .int 6), (8, .int 5), (7, .int 0), (6, .int 1), (5, .int 0), (0, .long a), (2, .long b), (4, .int (nI v))]) hx hb dX0_codeSeen_78 hl (by decide) rfl (fun ls hl => ?_)
              refine lv_iload hx hb dX0_codeSeen_80 (lv_at hl 3 rfl) ?_
              refine lv_if_eq (tgt := 89) hx hb dX0_codeSeen_82 (by decide) (fun c82 => ?_) (fun c82 => ?_)
              · exact absurd c82 (by decide)
              · refine lv_iconst (v := (-1)) hx hb dX0_codeSeen_85 (by decide) ?_
                refine lv_goto (tgt := 90) hx hb dX0_codeSeen_86 (by decide) ?_
                refine lv_istore (lv' := [(10, .int (-1)), (9, .int 6), (8, .int 5), (7, .int 0), (6, .int 1), (5, .int 0), (0, .long a), (2, .long b), (4, .int (nI v))]) hx hb dX0_codeSeen_90 hl (by decide) rfl (fun ls hl => ?_)
                refine lv_iload hx hb dX0_codeSeen_92 (lv_at hl 3 rfl) ?_
                refine lv_if_eq (tgt := 102) hx hb dX0_codeSeen_94 (by decide) (fun c94 => ?_) (fun c94 => ?_)
                · refine lv_iload hx hb dX0_codeSeen_102 (lv_at hl 1 rfl) ?_
                  refine lv_istore (lv' := [(11, .int 6), (10, .int (-1)), (9, .int 6), (8, .int 5), (7, .int 0), (6, .int 1), (5, .int 0), (0, .long a), (2, .long b), (4, .int (nI v))]) hx hb dX0_codeSeen_104 hl (by decide) rfl (fun ls hl => ?_)
                  refine lv_iload hx hb dX0_codeSeen_106 (lv_at hl 4 rfl) ?_
                  refine lv_if_eq (tgt := 116) hx hb dX0_codeSeen_108 (by decide) (fun c108 => ?_) (fun c108 => ?_)
                  · refine lv_iload hx hb dX0_codeSeen_116 (lv_at hl 1 rfl) ?_
                    refine lv_istore (lv' := [(12, .int (-1)), (11, .int 6), (10, .int (-1)), (9, .int 6), (8, .int 5), (7, .int 0), (6, .int 1), (5, .int 0), (0, .long a), (2, .long b), (4, .int (nI v))]) hx hb dX0_codeSeen_118 hl (by decide) rfl (fun ls hl => ?_)
                    refine lv_lconst (v := 0) hx hb dX0_codeSeen_120 (by decide) ?_
                    refine lv_lstore (lv' := [(13, .long 0), (12, .int (-1)), (11, .int 6), (10, .int (-1)), (9, .int 6), (8, .int 5), (7, .int 0), (6, .int 1), (5, .int 0), (0, .long a), (2, .long b), (4, .int (nI v))]) hx hb dX0_codeSeen_121 hl (by decide) rfl (fun ls hl => ?_)
                    refine lv_bipush (v := 35) hx hb dX0_codeSeen_123 (by decide) ?_
                    refine lv_istore (lv' := [(15, .int 35), (13, .long 0), (12, .int (-1)), (11, .int 6), (10, .int (-1)), (9, .int 6), (8, .int 5), (7, .int 0), (6, .int 1), (5, .int 0), (0, .long a), (2, .long b), (4, .int (nI v))]) hx hb dX0_codeSeen_125 hl (by decide) rfl (fun ls hl => ?_)
                    exact loop127 36 0 (by omega) ls (by { have e9 : (5 : Int32) = (vorg v) := by { simp only [vorg, vrow, vcol, vdown, vacross, c4, c18, c32, if_true, if_false, ite_true, ite_false] <;> rfl }; rw [← e9]; have e9 : (6 : Int32) = (vrow v) := by { simp only [vorg, vrow, vcol, vdown, vacross, c4, c18, c32, if_true, if_false, ite_true, ite_false] <;> rfl }; rw [← e9]; have e9 : ((-1) : Int32) = (vcol v) := by { simp only [vorg, vrow, vcol, vdown, vacross, c4, c18, c32, if_true, if_false, ite_true, ite_false] <;> rfl }; rw [← e9]; exact lv_sub hl [0, 1, 6, 3, 2, 10, 11] rfl })
                  · exact absurd c108 (by decide)
                · exact absurd c94 (by decide)
            · exact absurd c68 (by decide)
        · exact absurd c44 (by decide)
      · have c32 : ¬ (v / 4 % 2 * 4) = 0 := _root_.mt (nq_eq (a := (v / 4 % 2 * 4)) (b := 0) (by omega) (by omega)).mpr c32
        refine lv_iconst (v := 1) hx hb dX0_codeSeen_35 (by decide) ?_
        refine lv_goto (tgt := 40) hx hb dX0_codeSeen_36 (by decide) ?_
        refine lv_istore (lv' := [(7, .int 1), (6, .int 1), (5, .int 0), (0, .long a), (2, .long b), (4, .int (nI v))]) hx hb dX0_codeSeen_40 hl (by decide) rfl (fun ls hl => ?_)
        refine lv_iload hx hb dX0_codeSeen_42 (lv_at hl 2 rfl) ?_
        refine lv_if_eq (tgt := 52) hx hb dX0_codeSeen_44 (by decide) (fun c44 => ?_) (fun c44 => ?_)
        · refine lv_iconst (v := 0) hx hb dX0_codeSeen_52 (by decide) ?_
          refine lv_iload hx hb dX0_codeSeen_53 (lv_at hl 1 rfl) ?_
          refine lv_if_eq (tgt := 62) hx hb dX0_codeSeen_55 (by decide) (fun c55 => ?_) (fun c55 => ?_)
          · exact absurd c55 (by decide)
          · refine lv_iconst (v := 5) hx hb dX0_codeSeen_58 (by decide) ?_
            refine lv_goto (tgt := 63) hx hb dX0_codeSeen_59 (by decide) ?_
            refine lv_iadd hx hb dX0_codeSeen_63 ?_
            refine pk_ti (y := 5) (by decide) ?_
            refine lv_istore (lv' := [(8, .int 5), (7, .int 1), (6, .int 1), (5, .int 0), (0, .long a), (2, .long b), (4, .int (nI v))]) hx hb dX0_codeSeen_64 hl (by decide) rfl (fun ls hl => ?_)
            refine lv_iload hx hb dX0_codeSeen_66 (lv_at hl 3 rfl) ?_
            refine lv_if_eq (tgt := 76) hx hb dX0_codeSeen_68 (by decide) (fun c68 => ?_) (fun c68 => ?_)
            · refine lv_bipush (v := 6) hx hb dX0_codeSeen_76 (by decide) ?_
              refine lv_istore (lv' := [(9, .int 6), (8, .int 5), (7, .int 1), (6, .int 1), (5, .int 0), (0, .long a), (2, .long b), (4, .int (nI v))]) hx hb dX0_codeSeen_78 hl (by decide) rfl (fun ls hl => ?_)
              refine lv_iload hx hb dX0_codeSeen_80 (lv_at hl 3 rfl) ?_
              refine lv_if_eq (tgt := 89) hx hb dX0_codeSeen_82 (by decide) (fun c82 => ?_) (fun c82 => ?_)
              · exact absurd c82 (by decide)
              · refine lv_iconst (v := (-1)) hx hb dX0_codeSeen_85 (by decide) ?_
                refine lv_goto (tgt := 90) hx hb dX0_codeSeen_86 (by decide) ?_
                refine lv_istore (lv' := [(10, .int (-1)), (9, .int 6), (8, .int 5), (7, .int 1), (6, .int 1), (5, .int 0), (0, .long a), (2, .long b), (4, .int (nI v))]) hx hb dX0_codeSeen_90 hl (by decide) rfl (fun ls hl => ?_)
                refine lv_iload hx hb dX0_codeSeen_92 (lv_at hl 3 rfl) ?_
                refine lv_if_eq (tgt := 102) hx hb dX0_codeSeen_94 (by decide) (fun c94 => ?_) (fun c94 => ?_)
                · exact absurd c94 (by decide)
                · refine lv_iload hx hb dX0_codeSeen_97 (lv_at hl 0 rfl) ?_
                  refine lv_goto (tgt := 104) hx hb dX0_codeSeen_99 (by decide) ?_
                  refine lv_istore (lv' := [(11, .int (-1)), (10, .int (-1)), (9, .int 6), (8, .int 5), (7, .int 1), (6, .int 1), (5, .int 0), (0, .long a), (2, .long b), (4, .int (nI v))]) hx hb dX0_codeSeen_104 hl (by decide) rfl (fun ls hl => ?_)
                  refine lv_iload hx hb dX0_codeSeen_106 (lv_at hl 4 rfl) ?_
                  refine lv_if_eq (tgt := 116) hx hb dX0_codeSeen_108 (by decide) (fun c108 => ?_) (fun c108 => ?_)
                  · exact absurd c108 (by decide)
                  · refine lv_iload hx hb dX0_codeSeen_111 (lv_at hl 2 rfl) ?_
                    refine lv_goto (tgt := 118) hx hb dX0_codeSeen_113 (by decide) ?_
                    refine lv_istore (lv' := [(12, .int 6), (11, .int (-1)), (10, .int (-1)), (9, .int 6), (8, .int 5), (7, .int 1), (6, .int 1), (5, .int 0), (0, .long a), (2, .long b), (4, .int (nI v))]) hx hb dX0_codeSeen_118 hl (by decide) rfl (fun ls hl => ?_)
                    refine lv_lconst (v := 0) hx hb dX0_codeSeen_120 (by decide) ?_
                    refine lv_lstore (lv' := [(13, .long 0), (12, .int 6), (11, .int (-1)), (10, .int (-1)), (9, .int 6), (8, .int 5), (7, .int 1), (6, .int 1), (5, .int 0), (0, .long a), (2, .long b), (4, .int (nI v))]) hx hb dX0_codeSeen_121 hl (by decide) rfl (fun ls hl => ?_)
                    refine lv_bipush (v := 35) hx hb dX0_codeSeen_123 (by decide) ?_
                    refine lv_istore (lv' := [(15, .int 35), (13, .long 0), (12, .int 6), (11, .int (-1)), (10, .int (-1)), (9, .int 6), (8, .int 5), (7, .int 1), (6, .int 1), (5, .int 0), (0, .long a), (2, .long b), (4, .int (nI v))]) hx hb dX0_codeSeen_125 hl (by decide) rfl (fun ls hl => ?_)
                    exact loop127 36 0 (by omega) ls (by { have e9 : (5 : Int32) = (vorg v) := by { simp only [vorg, vrow, vcol, vdown, vacross, c4, c18, c32, if_true, if_false, ite_true, ite_false] <;> rfl }; rw [← e9]; have e9 : ((-1) : Int32) = (vrow v) := by { simp only [vorg, vrow, vcol, vdown, vacross, c4, c18, c32, if_true, if_false, ite_true, ite_false] <;> rfl }; rw [← e9]; have e9 : (6 : Int32) = (vcol v) := by { simp only [vorg, vrow, vcol, vdown, vacross, c4, c18, c32, if_true, if_false, ite_true, ite_false] <;> rfl }; rw [← e9]; exact lv_sub hl [0, 1, 6, 3, 2, 10, 11] rfl })
            · exact absurd c68 (by decide)
        · exact absurd c44 (by decide)
  · have c4 : ¬ (v % 2) = 0 := _root_.mt (nq_eq (a := (v % 2)) (b := 0) (by omega) (by omega)).mpr c4
    refine lv_iconst (v := 1) hx hb dX0_codeSeen_7 (by decide) ?_
    refine lv_goto (tgt := 12) hx hb dX0_codeSeen_8 (by decide) ?_
    refine lv_istore (lv' := [(5, .int 1), (0, .long a), (2, .long b), (4, .int (nI v))]) hx hb dX0_codeSeen_12 hl (by decide) rfl (fun ls hl => ?_)
    refine lv_iload hx hb dX0_codeSeen_14 (lv_at hl 3 rfl) ?_
    refine lv_iconst (v := 2) hx hb dX0_codeSeen_16 (by decide) ?_
    refine lv_iand hx hb dX0_codeSeen_17 ?_
    refine pk_ti (y := nI (v / 2 % 2 * 2)) (view2 v hv) ?_
    refine lv_if_eq (tgt := 25) hx hb dX0_codeSeen_18 (by decide) (fun c18 => ?_) (fun c18 => ?_)
    · have c18 : (v / 2 % 2 * 2) = 0 := (nq_eq (a := (v / 2 % 2 * 2)) (b := 0) (by omega) (by omega)).mp c18
      refine lv_iconst (v := 0) hx hb dX0_codeSeen_25 (by decide) ?_
      refine lv_istore (lv' := [(6, .int 0), (5, .int 1), (0, .long a), (2, .long b), (4, .int (nI v))]) hx hb dX0_codeSeen_26 hl (by decide) rfl (fun ls hl => ?_)
      refine lv_iload hx hb dX0_codeSeen_28 (lv_at hl 4 rfl) ?_
      refine lv_iconst (v := 4) hx hb dX0_codeSeen_30 (by decide) ?_
      refine lv_iand hx hb dX0_codeSeen_31 ?_
      refine pk_ti (y := nI (v / 4 % 2 * 4)) (view4 v hv) ?_
      refine lv_if_eq (tgt := 39) hx hb dX0_codeSeen_32 (by decide) (fun c32 => ?_) (fun c32 => ?_)
      · have c32 : (v / 4 % 2 * 4) = 0 := (nq_eq (a := (v / 4 % 2 * 4)) (b := 0) (by omega) (by omega)).mp c32
        refine lv_iconst (v := 0) hx hb dX0_codeSeen_39 (by decide) ?_
        refine lv_istore (lv' := [(7, .int 0), (6, .int 0), (5, .int 1), (0, .long a), (2, .long b), (4, .int (nI v))]) hx hb dX0_codeSeen_40 hl (by decide) rfl (fun ls hl => ?_)
        refine lv_iload hx hb dX0_codeSeen_42 (lv_at hl 2 rfl) ?_
        refine lv_if_eq (tgt := 52) hx hb dX0_codeSeen_44 (by decide) (fun c44 => ?_) (fun c44 => ?_)
        · exact absurd c44 (by decide)
        · refine lv_bipush (v := 30) hx hb dX0_codeSeen_47 (by decide) ?_
          refine lv_goto (tgt := 53) hx hb dX0_codeSeen_49 (by decide) ?_
          refine lv_iload hx hb dX0_codeSeen_53 (lv_at hl 1 rfl) ?_
          refine lv_if_eq (tgt := 62) hx hb dX0_codeSeen_55 (by decide) (fun c55 => ?_) (fun c55 => ?_)
          · refine lv_iconst (v := 0) hx hb dX0_codeSeen_62 (by decide) ?_
            refine lv_iadd hx hb dX0_codeSeen_63 ?_
            refine pk_ti (y := 30) (by decide) ?_
            refine lv_istore (lv' := [(8, .int 30), (7, .int 0), (6, .int 0), (5, .int 1), (0, .long a), (2, .long b), (4, .int (nI v))]) hx hb dX0_codeSeen_64 hl (by decide) rfl (fun ls hl => ?_)
            refine lv_iload hx hb dX0_codeSeen_66 (lv_at hl 3 rfl) ?_
            refine lv_if_eq (tgt := 76) hx hb dX0_codeSeen_68 (by decide) (fun c68 => ?_) (fun c68 => ?_)
            · exact absurd c68 (by decide)
            · refine lv_bipush (v := (-6)) hx hb dX0_codeSeen_71 (by decide) ?_
              refine lv_goto (tgt := 78) hx hb dX0_codeSeen_73 (by decide) ?_
              refine lv_istore (lv' := [(9, .int (-6)), (8, .int 30), (7, .int 0), (6, .int 0), (5, .int 1), (0, .long a), (2, .long b), (4, .int (nI v))]) hx hb dX0_codeSeen_78 hl (by decide) rfl (fun ls hl => ?_)
              refine lv_iload hx hb dX0_codeSeen_80 (lv_at hl 3 rfl) ?_
              refine lv_if_eq (tgt := 89) hx hb dX0_codeSeen_82 (by decide) (fun c82 => ?_) (fun c82 => ?_)
              · refine lv_iconst (v := 1) hx hb dX0_codeSeen_89 (by decide) ?_
                refine lv_istore (lv' := [(10, .int 1), (9, .int (-6)), (8, .int 30), (7, .int 0), (6, .int 0), (5, .int 1), (0, .long a), (2, .long b), (4, .int (nI v))]) hx hb dX0_codeSeen_90 hl (by decide) rfl (fun ls hl => ?_)
                refine lv_iload hx hb dX0_codeSeen_92 (lv_at hl 3 rfl) ?_
                refine lv_if_eq (tgt := 102) hx hb dX0_codeSeen_94 (by decide) (fun c94 => ?_) (fun c94 => ?_)
                · refine lv_iload hx hb dX0_codeSeen_102 (lv_at hl 1 rfl) ?_
                  refine lv_istore (lv' := [(11, .int (-6)), (10, .int 1), (9, .int (-6)), (8, .int 30), (7, .int 0), (6, .int 0), (5, .int 1), (0, .long a), (2, .long b), (4, .int (nI v))]) hx hb dX0_codeSeen_104 hl (by decide) rfl (fun ls hl => ?_)
                  refine lv_iload hx hb dX0_codeSeen_106 (lv_at hl 4 rfl) ?_
                  refine lv_if_eq (tgt := 116) hx hb dX0_codeSeen_108 (by decide) (fun c108 => ?_) (fun c108 => ?_)
                  · refine lv_iload hx hb dX0_codeSeen_116 (lv_at hl 1 rfl) ?_
                    refine lv_istore (lv' := [(12, .int 1), (11, .int (-6)), (10, .int 1), (9, .int (-6)), (8, .int 30), (7, .int 0), (6, .int 0), (5, .int 1), (0, .long a), (2, .long b), (4, .int (nI v))]) hx hb dX0_codeSeen_118 hl (by decide) rfl (fun ls hl => ?_)
                    refine lv_lconst (v := 0) hx hb dX0_codeSeen_120 (by decide) ?_
                    refine lv_lstore (lv' := [(13, .long 0), (12, .int 1), (11, .int (-6)), (10, .int 1), (9, .int (-6)), (8, .int 30), (7, .int 0), (6, .int 0), (5, .int 1), (0, .long a), (2, .long b), (4, .int (nI v))]) hx hb dX0_codeSeen_121 hl (by decide) rfl (fun ls hl => ?_)
                    refine lv_bipush (v := 35) hx hb dX0_codeSeen_123 (by decide) ?_
                    refine lv_istore (lv' := [(15, .int 35), (13, .long 0), (12, .int 1), (11, .int (-6)), (10, .int 1), (9, .int (-6)), (8, .int 30), (7, .int 0), (6, .int 0), (5, .int 1), (0, .long a), (2, .long b), (4, .int (nI v))]) hx hb dX0_codeSeen_125 hl (by decide) rfl (fun ls hl => ?_)
                    exact loop127 36 0 (by omega) ls (by { have e9 : (30 : Int32) = (vorg v) := by { simp only [vorg, vrow, vcol, vdown, vacross, c4, c18, c32, if_true, if_false, ite_true, ite_false] <;> rfl }; rw [← e9]; have e9 : ((-6) : Int32) = (vrow v) := by { simp only [vorg, vrow, vcol, vdown, vacross, c4, c18, c32, if_true, if_false, ite_true, ite_false] <;> rfl }; rw [← e9]; have e9 : (1 : Int32) = (vcol v) := by { simp only [vorg, vrow, vcol, vdown, vacross, c4, c18, c32, if_true, if_false, ite_true, ite_false] <;> rfl }; rw [← e9]; exact lv_sub hl [0, 1, 6, 3, 2, 10, 11] rfl })
                  · exact absurd c108 (by decide)
                · exact absurd c94 (by decide)
              · exact absurd c82 (by decide)
          · exact absurd c55 (by decide)
      · have c32 : ¬ (v / 4 % 2 * 4) = 0 := _root_.mt (nq_eq (a := (v / 4 % 2 * 4)) (b := 0) (by omega) (by omega)).mpr c32
        refine lv_iconst (v := 1) hx hb dX0_codeSeen_35 (by decide) ?_
        refine lv_goto (tgt := 40) hx hb dX0_codeSeen_36 (by decide) ?_
        refine lv_istore (lv' := [(7, .int 1), (6, .int 0), (5, .int 1), (0, .long a), (2, .long b), (4, .int (nI v))]) hx hb dX0_codeSeen_40 hl (by decide) rfl (fun ls hl => ?_)
        refine lv_iload hx hb dX0_codeSeen_42 (lv_at hl 2 rfl) ?_
        refine lv_if_eq (tgt := 52) hx hb dX0_codeSeen_44 (by decide) (fun c44 => ?_) (fun c44 => ?_)
        · exact absurd c44 (by decide)
        · refine lv_bipush (v := 30) hx hb dX0_codeSeen_47 (by decide) ?_
          refine lv_goto (tgt := 53) hx hb dX0_codeSeen_49 (by decide) ?_
          refine lv_iload hx hb dX0_codeSeen_53 (lv_at hl 1 rfl) ?_
          refine lv_if_eq (tgt := 62) hx hb dX0_codeSeen_55 (by decide) (fun c55 => ?_) (fun c55 => ?_)
          · refine lv_iconst (v := 0) hx hb dX0_codeSeen_62 (by decide) ?_
            refine lv_iadd hx hb dX0_codeSeen_63 ?_
            refine pk_ti (y := 30) (by decide) ?_
            refine lv_istore (lv' := [(8, .int 30), (7, .int 1), (6, .int 0), (5, .int 1), (0, .long a), (2, .long b), (4, .int (nI v))]) hx hb dX0_codeSeen_64 hl (by decide) rfl (fun ls hl => ?_)
            refine lv_iload hx hb dX0_codeSeen_66 (lv_at hl 3 rfl) ?_
            refine lv_if_eq (tgt := 76) hx hb dX0_codeSeen_68 (by decide) (fun c68 => ?_) (fun c68 => ?_)
            · exact absurd c68 (by decide)
            · refine lv_bipush (v := (-6)) hx hb dX0_codeSeen_71 (by decide) ?_
              refine lv_goto (tgt := 78) hx hb dX0_codeSeen_73 (by decide) ?_
              refine lv_istore (lv' := [(9, .int (-6)), (8, .int 30), (7, .int 1), (6, .int 0), (5, .int 1), (0, .long a), (2, .long b), (4, .int (nI v))]) hx hb dX0_codeSeen_78 hl (by decide) rfl (fun ls hl => ?_)
              refine lv_iload hx hb dX0_codeSeen_80 (lv_at hl 3 rfl) ?_
              refine lv_if_eq (tgt := 89) hx hb dX0_codeSeen_82 (by decide) (fun c82 => ?_) (fun c82 => ?_)
              · refine lv_iconst (v := 1) hx hb dX0_codeSeen_89 (by decide) ?_
                refine lv_istore (lv' := [(10, .int 1), (9, .int (-6)), (8, .int 30), (7, .int 1), (6, .int 0), (5, .int 1), (0, .long a), (2, .long b), (4, .int (nI v))]) hx hb dX0_codeSeen_90 hl (by decide) rfl (fun ls hl => ?_)
                refine lv_iload hx hb dX0_codeSeen_92 (lv_at hl 3 rfl) ?_
                refine lv_if_eq (tgt := 102) hx hb dX0_codeSeen_94 (by decide) (fun c94 => ?_) (fun c94 => ?_)
                · exact absurd c94 (by decide)
                · refine lv_iload hx hb dX0_codeSeen_97 (lv_at hl 0 rfl) ?_
                  refine lv_goto (tgt := 104) hx hb dX0_codeSeen_99 (by decide) ?_
                  refine lv_istore (lv' := [(11, .int 1), (10, .int 1), (9, .int (-6)), (8, .int 30), (7, .int 1), (6, .int 0), (5, .int 1), (0, .long a), (2, .long b), (4, .int (nI v))]) hx hb dX0_codeSeen_104 hl (by decide) rfl (fun ls hl => ?_)
                  refine lv_iload hx hb dX0_codeSeen_106 (lv_at hl 4 rfl) ?_
                  refine lv_if_eq (tgt := 116) hx hb dX0_codeSeen_108 (by decide) (fun c108 => ?_) (fun c108 => ?_)
                  · exact absurd c108 (by decide)
                  · refine lv_iload hx hb dX0_codeSeen_111 (lv_at hl 2 rfl) ?_
                    refine lv_goto (tgt := 118) hx hb dX0_codeSeen_113 (by decide) ?_
                    refine lv_istore (lv' := [(12, .int (-6)), (11, .int 1), (10, .int 1), (9, .int (-6)), (8, .int 30), (7, .int 1), (6, .int 0), (5, .int 1), (0, .long a), (2, .long b), (4, .int (nI v))]) hx hb dX0_codeSeen_118 hl (by decide) rfl (fun ls hl => ?_)
                    refine lv_lconst (v := 0) hx hb dX0_codeSeen_120 (by decide) ?_
                    refine lv_lstore (lv' := [(13, .long 0), (12, .int (-6)), (11, .int 1), (10, .int 1), (9, .int (-6)), (8, .int 30), (7, .int 1), (6, .int 0), (5, .int 1), (0, .long a), (2, .long b), (4, .int (nI v))]) hx hb dX0_codeSeen_121 hl (by decide) rfl (fun ls hl => ?_)
                    refine lv_bipush (v := 35) hx hb dX0_codeSeen_123 (by decide) ?_
                    refine lv_istore (lv' := [(15, .int 35), (13, .long 0), (12, .int (-6)), (11, .int 1), (10, .int 1), (9, .int (-6)), (8, .int 30), (7, .int 1), (6, .int 0), (5, .int 1), (0, .long a), (2, .long b), (4, .int (nI v))]) hx hb dX0_codeSeen_125 hl (by decide) rfl (fun ls hl => ?_)
                    exact loop127 36 0 (by omega) ls (by { have e9 : (30 : Int32) = (vorg v) := by { simp only [vorg, vrow, vcol, vdown, vacross, c4, c18, c32, if_true, if_false, ite_true, ite_false] <;> rfl }; rw [← e9]; have e9 : (1 : Int32) = (vrow v) := by { simp only [vorg, vrow, vcol, vdown, vacross, c4, c18, c32, if_true, if_false, ite_true, ite_false] <;> rfl }; rw [← e9]; have e9 : ((-6) : Int32) = (vcol v) := by { simp only [vorg, vrow, vcol, vdown, vacross, c4, c18, c32, if_true, if_false, ite_true, ite_false] <;> rfl }; rw [← e9]; exact lv_sub hl [0, 1, 6, 3, 2, 10, 11] rfl })
              · exact absurd c82 (by decide)
          · exact absurd c55 (by decide)
    · have c18 : ¬ (v / 2 % 2 * 2) = 0 := _root_.mt (nq_eq (a := (v / 2 % 2 * 2)) (b := 0) (by omega) (by omega)).mpr c18
      refine lv_iconst (v := 1) hx hb dX0_codeSeen_21 (by decide) ?_
      refine lv_goto (tgt := 26) hx hb dX0_codeSeen_22 (by decide) ?_
      refine lv_istore (lv' := [(6, .int 1), (5, .int 1), (0, .long a), (2, .long b), (4, .int (nI v))]) hx hb dX0_codeSeen_26 hl (by decide) rfl (fun ls hl => ?_)
      refine lv_iload hx hb dX0_codeSeen_28 (lv_at hl 4 rfl) ?_
      refine lv_iconst (v := 4) hx hb dX0_codeSeen_30 (by decide) ?_
      refine lv_iand hx hb dX0_codeSeen_31 ?_
      refine pk_ti (y := nI (v / 4 % 2 * 4)) (view4 v hv) ?_
      refine lv_if_eq (tgt := 39) hx hb dX0_codeSeen_32 (by decide) (fun c32 => ?_) (fun c32 => ?_)
      · have c32 : (v / 4 % 2 * 4) = 0 := (nq_eq (a := (v / 4 % 2 * 4)) (b := 0) (by omega) (by omega)).mp c32
        refine lv_iconst (v := 0) hx hb dX0_codeSeen_39 (by decide) ?_
        refine lv_istore (lv' := [(7, .int 0), (6, .int 1), (5, .int 1), (0, .long a), (2, .long b), (4, .int (nI v))]) hx hb dX0_codeSeen_40 hl (by decide) rfl (fun ls hl => ?_)
        refine lv_iload hx hb dX0_codeSeen_42 (lv_at hl 2 rfl) ?_
        refine lv_if_eq (tgt := 52) hx hb dX0_codeSeen_44 (by decide) (fun c44 => ?_) (fun c44 => ?_)
        · exact absurd c44 (by decide)
        · refine lv_bipush (v := 30) hx hb dX0_codeSeen_47 (by decide) ?_
          refine lv_goto (tgt := 53) hx hb dX0_codeSeen_49 (by decide) ?_
          refine lv_iload hx hb dX0_codeSeen_53 (lv_at hl 1 rfl) ?_
          refine lv_if_eq (tgt := 62) hx hb dX0_codeSeen_55 (by decide) (fun c55 => ?_) (fun c55 => ?_)
          · exact absurd c55 (by decide)
          · refine lv_iconst (v := 5) hx hb dX0_codeSeen_58 (by decide) ?_
            refine lv_goto (tgt := 63) hx hb dX0_codeSeen_59 (by decide) ?_
            refine lv_iadd hx hb dX0_codeSeen_63 ?_
            refine pk_ti (y := 35) (by decide) ?_
            refine lv_istore (lv' := [(8, .int 35), (7, .int 0), (6, .int 1), (5, .int 1), (0, .long a), (2, .long b), (4, .int (nI v))]) hx hb dX0_codeSeen_64 hl (by decide) rfl (fun ls hl => ?_)
            refine lv_iload hx hb dX0_codeSeen_66 (lv_at hl 3 rfl) ?_
            refine lv_if_eq (tgt := 76) hx hb dX0_codeSeen_68 (by decide) (fun c68 => ?_) (fun c68 => ?_)
            · exact absurd c68 (by decide)
            · refine lv_bipush (v := (-6)) hx hb dX0_codeSeen_71 (by decide) ?_
              refine lv_goto (tgt := 78) hx hb dX0_codeSeen_73 (by decide) ?_
              refine lv_istore (lv' := [(9, .int (-6)), (8, .int 35), (7, .int 0), (6, .int 1), (5, .int 1), (0, .long a), (2, .long b), (4, .int (nI v))]) hx hb dX0_codeSeen_78 hl (by decide) rfl (fun ls hl => ?_)
              refine lv_iload hx hb dX0_codeSeen_80 (lv_at hl 3 rfl) ?_
              refine lv_if_eq (tgt := 89) hx hb dX0_codeSeen_82 (by decide) (fun c82 => ?_) (fun c82 => ?_)
              · exact absurd c82 (by decide)
              · refine lv_iconst (v := (-1)) hx hb dX0_codeSeen_85 (by decide) ?_
                refine lv_goto (tgt := 90) hx hb dX0_codeSeen_86 (by decide) ?_
                refine lv_istore (lv' := [(10, .int (-1)), (9, .int (-6)), (8, .int 35), (7, .int 0), (6, .int 1), (5, .int 1), (0, .long a), (2, .long b), (4, .int (nI v))]) hx hb dX0_codeSeen_90 hl (by decide) rfl (fun ls hl => ?_)
                refine lv_iload hx hb dX0_codeSeen_92 (lv_at hl 3 rfl) ?_
                refine lv_if_eq (tgt := 102) hx hb dX0_codeSeen_94 (by decide) (fun c94 => ?_) (fun c94 => ?_)
                · refine lv_iload hx hb dX0_codeSeen_102 (lv_at hl 1 rfl) ?_
                  refine lv_istore (lv' := [(11, .int (-6)), (10, .int (-1)), (9, .int (-6)), (8, .int 35), (7, .int 0), (6, .int 1), (5, .int 1), (0, .long a), (2, .long b), (4, .int (nI v))]) hx hb dX0_codeSeen_104 hl (by decide) rfl (fun ls hl => ?_)
                  refine lv_iload hx hb dX0_codeSeen_106 (lv_at hl 4 rfl) ?_
                  refine lv_if_eq (tgt := 116) hx hb dX0_codeSeen_108 (by decide) (fun c108 => ?_) (fun c108 => ?_)
                  · refine lv_iload hx hb dX0_codeSeen_116 (lv_at hl 1 rfl) ?_
                    refine lv_istore (lv' := [(12, .int (-1)), (11, .int (-6)), (10, .int (-1)), (9, .int (-6)), (8, .int 35), (7, .int 0), (6, .int 1), (5, .int 1), (0, .long a), (2, .long b), (4, .int (nI v))]) hx hb dX0_codeSeen_118 hl (by decide) rfl (fun ls hl => ?_)
                    refine lv_lconst (v := 0) hx hb dX0_codeSeen_120 (by decide) ?_
                    refine lv_lstore (lv' := [(13, .long 0), (12, .int (-1)), (11, .int (-6)), (10, .int (-1)), (9, .int (-6)), (8, .int 35), (7, .int 0), (6, .int 1), (5, .int 1), (0, .long a), (2, .long b), (4, .int (nI v))]) hx hb dX0_codeSeen_121 hl (by decide) rfl (fun ls hl => ?_)
                    refine lv_bipush (v := 35) hx hb dX0_codeSeen_123 (by decide) ?_
                    refine lv_istore (lv' := [(15, .int 35), (13, .long 0), (12, .int (-1)), (11, .int (-6)), (10, .int (-1)), (9, .int (-6)), (8, .int 35), (7, .int 0), (6, .int 1), (5, .int 1), (0, .long a), (2, .long b), (4, .int (nI v))]) hx hb dX0_codeSeen_125 hl (by decide) rfl (fun ls hl => ?_)
                    exact loop127 36 0 (by omega) ls (by { have e9 : (35 : Int32) = (vorg v) := by { simp only [vorg, vrow, vcol, vdown, vacross, c4, c18, c32, if_true, if_false, ite_true, ite_false] <;> rfl }; rw [← e9]; have e9 : ((-6) : Int32) = (vrow v) := by { simp only [vorg, vrow, vcol, vdown, vacross, c4, c18, c32, if_true, if_false, ite_true, ite_false] <;> rfl }; rw [← e9]; have e9 : ((-1) : Int32) = (vcol v) := by { simp only [vorg, vrow, vcol, vdown, vacross, c4, c18, c32, if_true, if_false, ite_true, ite_false] <;> rfl }; rw [← e9]; exact lv_sub hl [0, 1, 6, 3, 2, 10, 11] rfl })
                  · exact absurd c108 (by decide)
                · exact absurd c94 (by decide)
      · have c32 : ¬ (v / 4 % 2 * 4) = 0 := _root_.mt (nq_eq (a := (v / 4 % 2 * 4)) (b := 0) (by omega) (by omega)).mpr c32
        refine lv_iconst (v := 1) hx hb dX0_codeSeen_35 (by decide) ?_
        refine lv_goto (tgt := 40) hx hb dX0_codeSeen_36 (by decide) ?_
        refine lv_istore (lv' := [(7, .int 1), (6, .int 1), (5, .int 1), (0, .long a), (2, .long b), (4, .int (nI v))]) hx hb dX0_codeSeen_40 hl (by decide) rfl (fun ls hl => ?_)
        refine lv_iload hx hb dX0_codeSeen_42 (lv_at hl 2 rfl) ?_
        refine lv_if_eq (tgt := 52) hx hb dX0_codeSeen_44 (by decide) (fun c44 => ?_) (fun c44 => ?_)
        · exact absurd c44 (by decide)
        · refine lv_bipush (v := 30) hx hb dX0_codeSeen_47 (by decide) ?_
          refine lv_goto (tgt := 53) hx hb dX0_codeSeen_49 (by decide) ?_
          refine lv_iload hx hb dX0_codeSeen_53 (lv_at hl 1 rfl) ?_
          refine lv_if_eq (tgt := 62) hx hb dX0_codeSeen_55 (by decide) (fun c55 => ?_) (fun c55 => ?_)
          · exact absurd c55 (by decide)
          · refine lv_iconst (v := 5) hx hb dX0_codeSeen_58 (by decide) ?_
            refine lv_goto (tgt := 63) hx hb dX0_codeSeen_59 (by decide) ?_
            refine lv_iadd hx hb dX0_codeSeen_63 ?_
            refine pk_ti (y := 35) (by decide) ?_
            refine lv_istore (lv' := [(8, .int 35), (7, .int 1), (6, .int 1), (5, .int 1), (0, .long a), (2, .long b), (4, .int (nI v))]) hx hb dX0_codeSeen_64 hl (by decide) rfl (fun ls hl => ?_)
            refine lv_iload hx hb dX0_codeSeen_66 (lv_at hl 3 rfl) ?_
            refine lv_if_eq (tgt := 76) hx hb dX0_codeSeen_68 (by decide) (fun c68 => ?_) (fun c68 => ?_)
            · exact absurd c68 (by decide)
            · refine lv_bipush (v := (-6)) hx hb dX0_codeSeen_71 (by decide) ?_
              refine lv_goto (tgt := 78) hx hb dX0_codeSeen_73 (by decide) ?_
              refine lv_istore (lv' := [(9, .int (-6)), (8, .int 35), (7, .int 1), (6, .int 1), (5, .int 1), (0, .long a), (2, .long b), (4, .int (nI v))]) hx hb dX0_codeSeen_78 hl (by decide) rfl (fun ls hl => ?_)
              refine lv_iload hx hb dX0_codeSeen_80 (lv_at hl 3 rfl) ?_
              refine lv_if_eq (tgt := 89) hx hb dX0_codeSeen_82 (by decide) (fun c82 => ?_) (fun c82 => ?_)
              · exact absurd c82 (by decide)
              · refine lv_iconst (v := (-1)) hx hb dX0_codeSeen_85 (by decide) ?_
                refine lv_goto (tgt := 90) hx hb dX0_codeSeen_86 (by decide) ?_
                refine lv_istore (lv' := [(10, .int (-1)), (9, .int (-6)), (8, .int 35), (7, .int 1), (6, .int 1), (5, .int 1), (0, .long a), (2, .long b), (4, .int (nI v))]) hx hb dX0_codeSeen_90 hl (by decide) rfl (fun ls hl => ?_)
                refine lv_iload hx hb dX0_codeSeen_92 (lv_at hl 3 rfl) ?_
                refine lv_if_eq (tgt := 102) hx hb dX0_codeSeen_94 (by decide) (fun c94 => ?_) (fun c94 => ?_)
                · exact absurd c94 (by decide)
                · refine lv_iload hx hb dX0_codeSeen_97 (lv_at hl 0 rfl) ?_
                  refine lv_goto (tgt := 104) hx hb dX0_codeSeen_99 (by decide) ?_
                  refine lv_istore (lv' := [(11, .int (-1)), (10, .int (-1)), (9, .int (-6)), (8, .int 35), (7, .int 1), (6, .int 1), (5, .int 1), (0, .long a), (2, .long b), (4, .int (nI v))]) hx hb dX0_codeSeen_104 hl (by decide) rfl (fun ls hl => ?_)
                  refine lv_iload hx hb dX0_codeSeen_106 (lv_at hl 4 rfl) ?_
                  refine lv_if_eq (tgt := 116) hx hb dX0_codeSeen_108 (by decide) (fun c108 => ?_) (fun c108 => ?_)
                  · exact absurd c108 (by decide)
                  · refine lv_iload hx hb dX0_codeSeen_111 (lv_at hl 2 rfl) ?_
                    refine lv_goto (tgt := 118) hx hb dX0_codeSeen_113 (by decide) ?_
                    refine lv_istore (lv' := [(12, .int (-6)), (11, .int (-1)), (10, .int (-1)), (9, .int (-6)), (8, .int 35), (7, .int 1), (6, .int 1), (5, .int 1), (0, .long a), (2, .long b), (4, .int (nI v))]) hx hb dX0_codeSeen_118 hl (by decide) rfl (fun ls hl => ?_)
                    refine lv_lconst (v := 0) hx hb dX0_codeSeen_120 (by decide) ?_
                    refine lv_lstore (lv' := [(13, .long 0), (12, .int (-6)), (11, .int (-1)), (10, .int (-1)), (9, .int (-6)), (8, .int 35), (7, .int 1), (6, .int 1), (5, .int 1), (0, .long a), (2, .long b), (4, .int (nI v))]) hx hb dX0_codeSeen_121 hl (by decide) rfl (fun ls hl => ?_)
                    refine lv_bipush (v := 35) hx hb dX0_codeSeen_123 (by decide) ?_
                    refine lv_istore (lv' := [(15, .int 35), (13, .long 0), (12, .int (-6)), (11, .int (-1)), (10, .int (-1)), (9, .int (-6)), (8, .int 35), (7, .int 1), (6, .int 1), (5, .int 1), (0, .long a), (2, .long b), (4, .int (nI v))]) hx hb dX0_codeSeen_125 hl (by decide) rfl (fun ls hl => ?_)
                    exact loop127 36 0 (by omega) ls (by { have e9 : (35 : Int32) = (vorg v) := by { simp only [vorg, vrow, vcol, vdown, vacross, c4, c18, c32, if_true, if_false, ite_true, ite_false] <;> rfl }; rw [← e9]; have e9 : ((-1) : Int32) = (vrow v) := by { simp only [vorg, vrow, vcol, vdown, vacross, c4, c18, c32, if_true, if_false, ite_true, ite_false] <;> rfl }; rw [← e9]; have e9 : ((-6) : Int32) = (vcol v) := by { simp only [vorg, vrow, vcol, vdown, vacross, c4, c18, c32, if_true, if_false, ite_true, ite_false] <;> rfl }; rw [← e9]; exact lv_sub hl [0, 1, 6, 3, 2, 10, 11] rfl })

set_option maxHeartbeats 400000 in
set_option maxRecDepth 100000 in
theorem c_X0_leastCode (l : Launch) (a b : Int64) : Met l yX0_leastCode wsX0_leastCode ({ frames := 1, cells := 0, slots := 0, locals := 36 } : Room) (va_Pc [.long a, .long b] (fun _ => True)) (vp_Sl (fun r => r = cleast a b 8)) 0 0 (fun _ => False) := by
  refine Met.ofW (cc := cX0_leastCode) (maxL := 7) (ret := (some .long)) (by decide) rfl ?_
  intro p e s m args below meth c s₁ B hml hv
  obtain ⟨rfl, -⟩ := hv
  have hx := B.exec
  have hb := B.bytes
  have hr := B.returns
  have hts := atoms_spec (ws := wsX0_leastCode) B.pre
  have hown : s.vm.findClass RX0 = some m.cls := findClass_of_methodNamed B.named
  have hlocks := B.notSynchronized
  have hmn0 : (Cond.methodLink RX0 15 Lib.MathLoose.min_long.x).before ([.long a, .long b] : List Value).toArray s = true := hts _ (by decide +kernel)
  have hmn1 : (Cond.static Lib.MathLoose.min_long.x).before ([.long a, .long b] : List Value).toArray s = true := hts _ (by decide +kernel)
  have hmn2 : (Cond.initialized "java/lang/Math").before ([.long a, .long b] : List Value).toArray s = true := hts _ (by decide +kernel)
  have hmn3 : (Cond.code Lib.MathLoose.min_long.x Lib.MathLoose.min_long.code 4 (some .long)).before ([.long a, .long b] : List Value).toArray s = true := hts _ (by decide +kernel)
  have hl := lv_entry ([.long a, .long b]) (n := 7) (Nat.le_of_ble_eq_true rfl)
  rw [lg_entry_eq]
  generalize (lg_sl ([.long a, .long b]) ++ List.replicate (7 - (lg_sl ([.long a, .long b])).length) Slot.unset).toArray = ls at hl ⊢
  have hl : lv_has ls 7 [(0, .long a), (2, .long b)] := hl
  refine lv_lload_n hx hb dX0_leastCode_0 rfl (lv_at hl 0 rfl) ?_
  refine lv_lload_n hx hb dX0_leastCode_1 rfl (lv_at hl 1 rfl) ?_
  refine lv_iconst (v := 0) hx hb dX0_leastCode_2 (by decide) ?_
  refine vp_callSl (W.runS (As := [.long a, .long b, .int 0]) (rest := []) ⟨hx, hb, hml, hown, hts⟩ (c_X0_codeSeen l a b 0 (by omega)) (va_cwS 3 hts gX0_leastCode_X0_codeSeen rfl rfl rfl (by decide +kernel) ⟨Nat.le_of_ble_eq_true rfl, Nat.le_of_ble_eq_true rfl⟩) ⟨px_blind0, fun U hU hW => ⟨rfl, trivial⟩⟩ rfl rfl hl.1 rfl (lv_room (Nat.le_of_ble_eq_true rfl)) dX0_leastCode_3 ⟨(Nat.le_of_ble_eq_true rfl), (Nat.le_of_ble_eq_true rfl)⟩) (fun r3 er3 => ?_)
  obtain rfl := er3.symm
  refine lv_lstore (lv' := [(4, .long (ccode a b 0 36)), (0, .long a), (2, .long b)]) hx hb dX0_leastCode_6 hl (by decide) rfl (fun ls hl => ?_)
  refine lv_iconst (v := 1) hx hb dX0_leastCode_8 (by decide) ?_
  refine lv_istore (lv' := [(6, .int 1), (4, .long (ccode a b 0 36)), (0, .long a), (2, .long b)]) hx hb dX0_leastCode_9 hl (by decide) rfl (fun ls hl => ?_)
  have loop11 : ∀ (nn i11 : Nat), i11 + nn = 8 → ∀ ls, lv_has ls 7 [(6, .int (nI i11)), (4, .long (cleast a b i11)), (0, .long a), (2, .long b)] → W p l e (headSpec wsX0_leastCode ({ frames := 1, cells := 0, slots := 0, locals := 36 } : Room)).room s m ([.long a, .long b] : List Value).toArray below meth c s.heap [] 0 0 (MQ below (vp_Sl (fun r => r = cleast a b 8)) ([.long a, .long b] : List Value).toArray s 0 0 (fun _ => False)) (F0 m 11 ls []) := by
    intro nn
    induction nn with
    | zero =>
      intro i11 hi11 ls hl
      obtain rfl : i11 = 8 := by omega
      refine lv_iload hx hb dX0_leastCode_11 (lv_at hl 0 rfl) ?_
      refine lv_bipush (v := 8) hx hb dX0_leastCode_13 (by decide) ?_
      refine lv_icmp_ge (tgt := 38) hx hb dX0_leastCode_15 (by decide) (fun c15 => ?_) (fun c15 => ?_)
      · have c15 : 8 ≤ 8 := (nq_le (a := 8) (b := 8) (by omega) (by omega)).mp c15
        refine lv_lload hx hb dX0_leastCode_38 (lv_at hl 1 rfl) ?_
        refine W.lret (v := (cleast a b 8)) hx hb hr (fun tt ht hW => ⟨(cleast a b 8), rfl, ?_, ht⟩) (fun _ h => nomatch h) dX0_leastCode_40
        rfl
      · have c15 : ¬ 8 ≤ 8 := _root_.mt (nq_le (a := 8) (b := 8) (by omega) (by omega)).mpr c15
        omega
    | succ nn ih11 =>
      intro i11 hi11 ls hl
      refine lv_iload hx hb dX0_leastCode_11 (lv_at hl 0 rfl) ?_
      refine lv_bipush (v := 8) hx hb dX0_leastCode_13 (by decide) ?_
      refine lv_icmp_ge (tgt := 38) hx hb dX0_leastCode_15 (by decide) (fun c15 => ?_) (fun c15 => ?_)
      · have c15 : 8 ≤ i11 := (nq_le (a := 8) (b := i11) (by omega) (by omega)).mp c15
        omega
      · have c15 : ¬ 8 ≤ i11 := _root_.mt (nq_le (a := 8) (b := i11) (by omega) (by omega)).mpr c15
        refine lv_lload hx hb dX0_leastCode_18 (lv_at hl 1 rfl) ?_
        refine lv_lload_n hx hb dX0_leastCode_20 rfl (lv_at hl 2 rfl) ?_
        refine lv_lload_n hx hb dX0_leastCode_21 rfl (lv_at hl 3 rfl) ?_
        refine lv_iload hx hb dX0_leastCode_22 (lv_at hl 0 rfl) ?_
        refine vp_callSl (W.runS (As := [.long a, .long b, .int (nI i11)]) (rest := [.long (cleast a b i11)]) ⟨hx, hb, hml, hown, hts⟩ (c_X0_codeSeen l a b i11 (by omega)) (va_cwS 3 hts gX0_leastCode_X0_codeSeen rfl rfl rfl (by decide +kernel) ⟨Nat.le_of_ble_eq_true rfl, Nat.le_of_ble_eq_true rfl⟩) ⟨px_blind0, fun U hU hW => ⟨rfl, trivial⟩⟩ rfl rfl hl.1 rfl (lv_room (Nat.le_of_ble_eq_true rfl)) dX0_leastCode_24 ⟨(Nat.le_of_ble_eq_true rfl), (Nat.le_of_ble_eq_true rfl)⟩) (fun r24 er24 => ?_)
        obtain rfl := er24.symm
        refine va_mmin_long hx hb (by rw [hml]; exact hl.1.symm) hown hmn0 hmn1 hmn2 hmn3 (by decide) (Nat.le_of_ble_eq_true rfl) (Nat.le_of_ble_eq_true rfl) (Nat.le_of_ble_eq_true rfl) dX0_leastCode_27 ?_
        refine lv_topl (fun x27 ex27 => ?_)
        refine lv_lstore (lv' := [(4, .long x27), (6, .int (nI i11)), (0, .long a), (2, .long b)]) hx hb dX0_leastCode_30 hl (by decide) rfl (fun ls hl => ?_)
        refine lv_iinc (v := nI (i11 + 1)) (lv' := [(6, .int (nI (i11 + 1))), (4, .long x27), (0, .long a), (2, .long b)]) hx hb dX0_leastCode_32 hl (k := 1) rfl (nI_add i11 1) (by decide) rfl (fun ls hl => ?_)
        refine lv_goto (tgt := 11) hx hb dX0_leastCode_35 (by decide) ?_
        exact ih11 (i11 + 1) (by omega) ls (by { have e9 : (x27 : Int64) = (cleast a b (i11 + 1)) := by { obtain rfl := ex27.symm; rfl }; rw [← e9]; exact lv_sub hl [0, 1, 2, 3] rfl })
  exact loop11 (8 - 1) 1 (by omega) ls (by { have e9 : ((ccode a b 0 36) : Int64) = (cleast a b 1) := by { simp [cleast] }; rw [← e9]; exact lv_sub hl [0, 1, 2, 3] rfl })

set_option maxHeartbeats 400000 in
set_option maxRecDepth 100000 in
theorem c_X0_countSymmetries (l : Launch) (a b : Int64) : Met l yX0_countSymmetries wsX0_countSymmetries ({ frames := 1, cells := 0, slots := 0, locals := 36 } : Room) (va_Pc [.long a, .long b] (fun _ => True)) (vp_Si (fun r => r = nI (csym a b 8))) 0 0 (fun _ => False) := by
  refine Met.ofW (cc := cX0_countSymmetries) (maxL := 8) (ret := (some .int)) (by decide) rfl ?_
  intro p e s m args below meth c s₁ B hml hv
  obtain ⟨rfl, -⟩ := hv
  have hx := B.exec
  have hb := B.bytes
  have hr := B.returns
  have hts := atoms_spec (ws := wsX0_countSymmetries) B.pre
  have hown : s.vm.findClass RX0 = some m.cls := findClass_of_methodNamed B.named
  have hlocks := B.notSynchronized
  have hl := lv_entry ([.long a, .long b]) (n := 8) (Nat.le_of_ble_eq_true rfl)
  rw [lg_entry_eq]
  generalize (lg_sl ([.long a, .long b]) ++ List.replicate (8 - (lg_sl ([.long a, .long b])).length) Slot.unset).toArray = ls at hl ⊢
  have hl : lv_has ls 8 [(0, .long a), (2, .long b)] := hl
  refine lv_lload_n hx hb dX0_countSymmetries_0 rfl (lv_at hl 0 rfl) ?_
  refine lv_lload_n hx hb dX0_countSymmetries_1 rfl (lv_at hl 1 rfl) ?_
  refine lv_iconst (v := 0) hx hb dX0_countSymmetries_2 (by decide) ?_
  refine vp_callSl (W.runS (As := [.long a, .long b, .int 0]) (rest := []) ⟨hx, hb, hml, hown, hts⟩ (c_X0_codeSeen l a b 0 (by omega)) (va_cwS 3 hts gX0_countSymmetries_X0_codeSeen rfl rfl rfl (by decide +kernel) ⟨Nat.le_of_ble_eq_true rfl, Nat.le_of_ble_eq_true rfl⟩) ⟨px_blind0, fun U hU hW => ⟨rfl, trivial⟩⟩ rfl rfl hl.1 rfl (lv_room (Nat.le_of_ble_eq_true rfl)) dX0_countSymmetries_3 ⟨(Nat.le_of_ble_eq_true rfl), (Nat.le_of_ble_eq_true rfl)⟩) (fun r3 er3 => ?_)
  obtain rfl := er3.symm
  refine lv_lstore (lv' := [(4, .long (ccode a b 0 36)), (0, .long a), (2, .long b)]) hx hb dX0_countSymmetries_6 hl (by decide) rfl (fun ls hl => ?_)
  refine lv_iconst (v := 0) hx hb dX0_countSymmetries_8 (by decide) ?_
  refine lv_istore (lv' := [(6, .int 0), (4, .long (ccode a b 0 36)), (0, .long a), (2, .long b)]) hx hb dX0_countSymmetries_9 hl (by decide) rfl (fun ls hl => ?_)
  refine lv_iconst (v := 0) hx hb dX0_countSymmetries_11 (by decide) ?_
  refine lv_istore (lv' := [(7, .int 0), (6, .int 0), (4, .long (ccode a b 0 36)), (0, .long a), (2, .long b)]) hx hb dX0_countSymmetries_12 hl (by decide) rfl (fun ls hl => ?_)
  have loop14 : ∀ (nn i14 : Nat), i14 + nn = 8 → ∀ ls, lv_has ls 8 [(7, .int (nI i14)), (6, .int (nI (csym a b i14))), (4, .long (ccode a b 0 36)), (0, .long a), (2, .long b)] → W p l e (headSpec wsX0_countSymmetries ({ frames := 1, cells := 0, slots := 0, locals := 36 } : Room)).room s m ([.long a, .long b] : List Value).toArray below meth c s.heap [] 0 0 (MQ below (vp_Si (fun r => r = nI (csym a b 8))) ([.long a, .long b] : List Value).toArray s 0 0 (fun _ => False)) (F0 m 14 ls []) := by
    intro nn
    induction nn with
    | zero =>
      intro i14 hi14 ls hl
      obtain rfl : i14 = 8 := by omega
      refine lv_iload hx hb dX0_countSymmetries_14 (lv_at hl 0 rfl) ?_
      refine lv_bipush (v := 8) hx hb dX0_countSymmetries_16 (by decide) ?_
      refine lv_icmp_ge (tgt := 43) hx hb dX0_countSymmetries_18 (by decide) (fun c18 => ?_) (fun c18 => ?_)
      · have c18 : 8 ≤ 8 := (nq_le (a := 8) (b := 8) (by omega) (by omega)).mp c18
        refine lv_iload hx hb dX0_countSymmetries_43 (lv_at hl 1 rfl) ?_
        refine W.iret (v := (nI (csym a b 8))) hx hb hr (fun tt ht hW => ⟨(nI (csym a b 8)), rfl, ?_, ht⟩) (fun _ h => nomatch h) dX0_countSymmetries_45
        rfl
      · have c18 : ¬ 8 ≤ 8 := _root_.mt (nq_le (a := 8) (b := 8) (by omega) (by omega)).mpr c18
        omega
    | succ nn ih14 =>
      intro i14 hi14 ls hl
      refine lv_iload hx hb dX0_countSymmetries_14 (lv_at hl 0 rfl) ?_
      refine lv_bipush (v := 8) hx hb dX0_countSymmetries_16 (by decide) ?_
      refine lv_icmp_ge (tgt := 43) hx hb dX0_countSymmetries_18 (by decide) (fun c18 => ?_) (fun c18 => ?_)
      · have c18 : 8 ≤ i14 := (nq_le (a := 8) (b := i14) (by omega) (by omega)).mp c18
        omega
      · have c18 : ¬ 8 ≤ i14 := _root_.mt (nq_le (a := 8) (b := i14) (by omega) (by omega)).mpr c18
        refine lv_lload_n hx hb dX0_countSymmetries_21 rfl (lv_at hl 3 rfl) ?_
        refine lv_lload_n hx hb dX0_countSymmetries_22 rfl (lv_at hl 4 rfl) ?_
        refine lv_iload hx hb dX0_countSymmetries_23 (lv_at hl 0 rfl) ?_
        refine vp_callSl (W.runS (As := [.long a, .long b, .int (nI i14)]) (rest := []) ⟨hx, hb, hml, hown, hts⟩ (c_X0_codeSeen l a b i14 (by omega)) (va_cwS 3 hts gX0_countSymmetries_X0_codeSeen rfl rfl rfl (by decide +kernel) ⟨Nat.le_of_ble_eq_true rfl, Nat.le_of_ble_eq_true rfl⟩) ⟨px_blind0, fun U hU hW => ⟨rfl, trivial⟩⟩ rfl rfl hl.1 rfl (lv_room (Nat.le_of_ble_eq_true rfl)) dX0_countSymmetries_25 ⟨(Nat.le_of_ble_eq_true rfl), (Nat.le_of_ble_eq_true rfl)⟩) (fun r25 er25 => ?_)
        obtain rfl := er25.symm
        refine lv_lload hx hb dX0_countSymmetries_28 (lv_at hl 2 rfl) ?_
        refine W.lcmp hx hb dX0_countSymmetries_30 ?_
        refine lv_if_ne (tgt := 37) hx hb dX0_countSymmetries_31 (by decide) (fun c31 => ?_) (fun c31 => ?_)
        · rw [lg_cmp_eq] at c31
          refine lv_iinc (v := nI (i14 + 1)) (lv' := [(7, .int (nI (i14 + 1))), (6, .int (nI (csym a b i14))), (4, .long (ccode a b 0 36)), (0, .long a), (2, .long b)]) hx hb dX0_countSymmetries_37 hl (k := 0) rfl (nI_add i14 1) (by decide) rfl (fun ls hl => ?_)
          refine lv_goto (tgt := 14) hx hb dX0_countSymmetries_40 (by decide) ?_
          exact ih14 (i14 + 1) (by omega) ls (by { have e9 : ((nI (csym a b i14)) : Int32) = (nI (csym a b (i14 + 1))) := by { skip; simp only [csym]; simp_all }; rw [← e9]; exact lv_sub hl [0, 1, 2, 3, 4] rfl })
        · rw [lg_cmp_eq] at c31
          refine lv_iinc (v := nI (csym a b i14 + 1)) (lv' := [(6, .int (nI (csym a b i14 + 1))), (7, .int (nI i14)), (4, .long (ccode a b 0 36)), (0, .long a), (2, .long b)]) hx hb dX0_countSymmetries_34 hl (k := 1) rfl (nI_add (csym a b i14) 1) (by decide) rfl (fun ls hl => ?_)
          refine lv_iinc (v := nI (i14 + 1)) (lv' := [(7, .int (nI (i14 + 1))), (6, .int (nI (csym a b i14 + 1))), (4, .long (ccode a b 0 36)), (0, .long a), (2, .long b)]) hx hb dX0_countSymmetries_37 hl (k := 1) rfl (nI_add i14 1) (by decide) rfl (fun ls hl => ?_)
          refine lv_goto (tgt := 14) hx hb dX0_countSymmetries_40 (by decide) ?_
          exact ih14 (i14 + 1) (by omega) ls (by { have e9 : ((nI (csym a b i14 + 1)) : Int32) = (nI (csym a b (i14 + 1))) := by { skip; simp only [csym]; simp_all }; rw [← e9]; exact lv_sub hl [0, 1, 2, 3, 4] rfl })
  exact loop14 8 0 (by omega) ls (lv_sub hl [0, 1, 2, 3, 4] rfl)
set_option maxHeartbeats 400000 in
set_option maxRecDepth 100000 in
theorem c_X4_opposite (l : Launch) (tn : Nat) (htn : tn < 8) : Met l yX4_opposite wsX4_opposite ({ frames := 1, cells := 0, slots := 0, locals := 21 } : Room) (va_Pc [.int (nI tn)] (px_E (fun _ => True))) (vp_Si (fun r => r = nI (2 * (tn / 2) + (1 - tn % 2)))) 0 0 (fun _ => False) := by
  refine Met.ofW (cc := cX4_opposite) (maxL := 1) (ret := (some .int)) (by decide) rfl ?_
  intro p e s m args below meth c s₁ B hml hv
  obtain ⟨rfl, hEN, -⟩ := hv
  have hx := B.exec
  have hb := B.bytes
  have hr := B.returns
  have hts := atoms_spec (ws := wsX4_opposite) B.pre
  have hown : s.vm.findClass RX4 = some m.cls := findClass_of_methodNamed B.named
  have hlocks := B.notSynchronized
  have hnest18 : va_Nw (.methodLinkNest RX4 18 yX6_turnNumber RX6) s := hEN.2.1
  have hiniX6 : (Cond.initialized (yX6_turnNumber).cls).before ([.int (nI tn)] : List Value).toArray s = true := hts (.initialized RX6) (by decide +kernel)
  have hl := lv_entry ([.int (nI tn)]) (n := 1) (Nat.le_of_ble_eq_true rfl)
  rw [lg_entry_eq]
  generalize (lg_sl ([.int (nI tn)]) ++ List.replicate (1 - (lg_sl ([.int (nI tn)])).length) Slot.unset).toArray = ls at hl ⊢
  have hl : lv_has ls 1 [(0, .int (nI tn))] := hl
  refine lv_iload_n hx hb dX4_opposite_0 rfl (lv_at hl 0 rfl) ?_
  refine vp_callSi (W.runS (As := [.int (nI tn)]) (rest := []) ⟨hx, hb, hml, hown, hts⟩ (c_X4_quarterOf l tn (by omega)) (va_cwS 1 hts gX4_opposite_X4_quarterOf rfl rfl rfl (by decide +kernel) ⟨Nat.le_of_ble_eq_true rfl, Nat.le_of_ble_eq_true rfl⟩) ⟨px_blind0, fun U hU hW => ⟨rfl, trivial⟩⟩ rfl rfl hl.1 rfl (lv_room (Nat.le_of_ble_eq_true rfl)) dX4_opposite_1 ⟨(Nat.le_of_ble_eq_true rfl), (Nat.le_of_ble_eq_true rfl)⟩) (fun r1 er1 => ?_)
  obtain rfl := er1.symm
  refine lv_iconst (v := 1) hx hb dX4_opposite_4 (by decide) ?_
  refine lv_iload_n hx hb dX4_opposite_5 rfl (lv_at hl 0 rfl) ?_
  refine vp_callSi (W.runS (As := [.int (nI tn)]) (rest := [.int 1, .int (nI (tn / 2))]) ⟨hx, hb, hml, hown, hts⟩ (c_X4_wayOf l tn (by omega)) (va_cwS 1 hts gX4_opposite_X4_wayOf rfl rfl rfl (by decide +kernel) ⟨Nat.le_of_ble_eq_true rfl, Nat.le_of_ble_eq_true rfl⟩) ⟨px_blind0, fun U hU hW => ⟨rfl, trivial⟩⟩ rfl rfl hl.1 rfl (lv_room (Nat.le_of_ble_eq_true rfl)) dX4_opposite_6 ⟨(Nat.le_of_ble_eq_true rfl), (Nat.le_of_ble_eq_true rfl)⟩) (fun r6 er6 => ?_)
  obtain rfl := er6.symm
  refine lv_isub hx hb dX4_opposite_9 ?_
  refine pk_ti (y := nI (1 - (tn % 2))) (pk_sub (a := 1) (b := (tn % 2)) (by omega)) ?_
  refine vp_callSi (va_Run.run (va_runSN (As := [.int (nI (tn / 2)), .int (nI (1 - (tn % 2)))]) (rest := []) ⟨hx, hb, hml, hown, hts⟩ (c_X6_turnNumber l (tn / 2) (1 - (tn % 2))) ⟨va_cnB 2 hts gX4_opposite_X6_turnNumber_n18 rfl rfl rfl hnest18 hiniX6 (by decide +kernel) ⟨Nat.le_of_ble_eq_true rfl, Nat.le_of_ble_eq_true rfl⟩, hts _ (by decide +kernel), trivial⟩ ⟨px_blind0, fun U hU hW => ⟨rfl, trivial⟩⟩ rfl rfl hl.1 rfl (lv_room (Nat.le_of_ble_eq_true rfl)) dX4_opposite_10 ⟨(Nat.le_of_ble_eq_true rfl), (Nat.le_of_ble_eq_true rfl)⟩)) (fun r10 er10 => ?_)
  obtain rfl := er10.symm
  refine W.iret (v := (nI (2 * (tn / 2) + (1 - (tn % 2))))) hx hb hr (fun tt ht hW => ⟨(nI (2 * (tn / 2) + (1 - (tn % 2)))), rfl, ?_, ht⟩) (fun _ h => nomatch h) dX4_opposite_13
  rfl
