theorem mv_in {j k : Nat} (h : j < k) (hk : k ≤ 36) : 0 ≤ nI j ∧ nI j < nI k := ⟨nI_pos' (by omega), nI_lt h (by omega)⟩

set_option maxHeartbeats 400000 in
set_option maxRecDepth 100000 in
theorem c_X2_count (l : Launch) (D : va_G) (cI cJ : ClassId) (h0 lc lt : Nat) (cs ts : Nat → Int32) (k : Nat) (hk : k ≤ 36)  : Met l yX2_count wsX2_count ({ frames := 0, cells := 0, slots := 0, locals := 0 } : Room) (va_Pc [.ref h0] (px_W D [(h0, .inr (0, [.ref lc, .ref lt, .int (nI k)])), (lc, .inl (cI, 36, .inl cs)), (lt, .inl (cI, 36, .inl ts))] [(cI, .int), (cJ, .long)])) (vp_Si (fun r => r = nI k)) 0 0 (fun _ => False) := by
  refine Met.ofW (cc := cX2_count) (maxL := 1) (ret := (some .int)) (by decide) rfl ?_
  intro p e s m args below meth c s₁ B hml hv
  obtain ⟨rfl, hP, hK⟩ := hv
  have hx := B.exec
  have hb := B.bytes
  have hr := B.returns
  have hts := atoms_spec (ws := wsX2_count) B.pre
  have hown : s.vm.findClass RX2 = some m.cls := findClass_of_methodNamed B.named
  have hlocks := B.notSynchronized
  have hinX2 : ∀ w ∈ wsX20, w ∈ wsX2_count := by decide +kernel
  have hfl18 : (Cond.fieldLink RX2 18 "Twistquad$MoveLog" "count" "I").before ([.ref h0] : List Value).toArray s = true := hts _ (by decide +kernel)
  have hl := lv_entry ([.ref h0]) (n := 1) (Nat.le_of_ble_eq_true rfl)
  rw [lg_entry_eq]
  generalize (lg_sl ([.ref h0]) ++ List.replicate (1 - (lg_sl ([.ref h0])).length) Slot.unset).toArray = ls at hl ⊢
  have hl : lv_has ls 1 [(0, .ref h0)] := hl
  refine lv_aload_n hx hb dX2_count_0 rfl (lv_at hl 0 rfl) ?_
  refine va_get (D := D) (ci := 0) (v := .int (nI k)) (C := RX2) (T := TX2) (N := 3) hx hb hts hinX2 hown hK hP 0 rfl rfl 2 (by decide) hfl18 (fun _ h9 => h9) rfl dX2_count_1 ?_
  refine W.iret (v := (nI k)) hx hb hr (fun tt ht hW => ⟨(nI k), rfl, ?_, ht⟩) (fun _ h => nomatch h) dX2_count_4
  rfl

set_option maxHeartbeats 400000 in
set_option maxRecDepth 100000 in
theorem c_X2_isMove (l : Launch) (D : va_G) (cI cJ : ClassId) (h0 lc lt : Nat) (cs ts : Nat → Int32) (k : Nat) (hk : k ≤ 36) (v : Int32) : Met l yX2_isMove wsX2_isMove ({ frames := 0, cells := 0, slots := 0, locals := 0 } : Room) (va_Pc [.ref h0, .int v] (px_W D [(h0, .inr (0, [.ref lc, .ref lt, .int (nI k)])), (lc, .inl (cI, 36, .inl cs)), (lt, .inl (cI, 36, .inl ts))] [(cI, .int), (cJ, .long)])) (vp_Si (fun r => r = if 0 ≤ v ∧ v < nI k then 1 else 0)) 0 0 (fun _ => False) := by
  refine Met.ofW (cc := cX2_isMove) (maxL := 2) (ret := (some .boolean)) (by decide) rfl ?_
  intro p e s m args below meth c s₁ B hml hv
  obtain ⟨rfl, hP, hK⟩ := hv
  have hx := B.exec
  have hb := B.bytes
  have hr := B.returns
  have hts := atoms_spec (ws := wsX2_isMove) B.pre
  have hown : s.vm.findClass RX2 = some m.cls := findClass_of_methodNamed B.named
  have hlocks := B.notSynchronized
  have hinX2 : ∀ w ∈ wsX20, w ∈ wsX2_isMove := by decide +kernel
  have hfl18 : (Cond.fieldLink RX2 18 "Twistquad$MoveLog" "count" "I").before ([.ref h0, .int v] : List Value).toArray s = true := hts _ (by decide +kernel)
  have hl := lv_entry ([.ref h0, .int v]) (n := 2) (Nat.le_of_ble_eq_true rfl)
  rw [lg_entry_eq]
  generalize (lg_sl ([.ref h0, .int v]) ++ List.replicate (2 - (lg_sl ([.ref h0, .int v])).length) Slot.unset).toArray = ls at hl ⊢
  have hl : lv_has ls 2 [(0, .ref h0), (1, .int v)] := hl
  refine lv_iload_n hx hb dX2_isMove_0 rfl (lv_at hl 1 rfl) ?_
  refine lv_if_lt (tgt := 22) hx hb dX2_isMove_1 (by decide) (fun c1 => ?_) (fun c1 => ?_)
  · refine lv_iconst (v := 0) hx hb dX2_isMove_22 (by decide) ?_
    refine W.zret (v := 0) hx hb hr (rfl) (fun tt ht hW => ⟨0, rfl, ?_, ht⟩) (fun _ h => nomatch h) dX2_isMove_23
    (try simp only [Int32.lt_iff_toInt_lt, Int32.le_iff_toInt_le, nI_toInt (n := k) (by omega), Int32.toInt_zero, show (36 : Int32).toInt = 36 from rfl] at c1); (try simp only [Int32.lt_iff_toInt_lt, Int32.le_iff_toInt_le, nI_toInt (n := k) (by omega), Int32.toInt_zero, show (36 : Int32).toInt = 36 from rfl] at c9); (try simp only [Int32.lt_iff_toInt_lt, Int32.le_iff_toInt_le, nI_toInt (n := k) (by omega), Int32.toInt_zero, show (36 : Int32).toInt = 36 from rfl] at c15); simp only [Int32.lt_iff_toInt_lt, Int32.le_iff_toInt_le, nI_toInt (n := k) (by omega), Int32.toInt_zero, show (36 : Int32).toInt = 36 from rfl]; split <;> first | rfl | omega
  · refine lv_iload_n hx hb dX2_isMove_4 rfl (lv_at hl 1 rfl) ?_
    refine lv_aload_n hx hb dX2_isMove_5 rfl (lv_at hl 0 rfl) ?_
    refine va_get (D := D) (ci := 0) (v := .int (nI k)) (C := RX2) (T := TX2) (N := 3) hx hb hts hinX2 hown hK hP 0 rfl rfl 2 (by decide) hfl18 (fun _ h9 => h9) rfl dX2_isMove_6 ?_
    refine lv_icmp_ge (tgt := 22) hx hb dX2_isMove_9 (by decide) (fun c9 => ?_) (fun c9 => ?_)
    · refine lv_iconst (v := 0) hx hb dX2_isMove_22 (by decide) ?_
      refine W.zret (v := 0) hx hb hr (rfl) (fun tt ht hW => ⟨0, rfl, ?_, ht⟩) (fun _ h => nomatch h) dX2_isMove_23
      (try simp only [Int32.lt_iff_toInt_lt, Int32.le_iff_toInt_le, nI_toInt (n := k) (by omega), Int32.toInt_zero, show (36 : Int32).toInt = 36 from rfl] at c1); (try simp only [Int32.lt_iff_toInt_lt, Int32.le_iff_toInt_le, nI_toInt (n := k) (by omega), Int32.toInt_zero, show (36 : Int32).toInt = 36 from rfl] at c9); (try simp only [Int32.lt_iff_toInt_lt, Int32.le_iff_toInt_le, nI_toInt (n := k) (by omega), Int32.toInt_zero, show (36 : Int32).toInt = 36 from rfl] at c15); simp only [Int32.lt_iff_toInt_lt, Int32.le_iff_toInt_le, nI_toInt (n := k) (by omega), Int32.toInt_zero, show (36 : Int32).toInt = 36 from rfl]; split <;> first | rfl | omega
    · refine lv_iload_n hx hb dX2_isMove_12 rfl (lv_at hl 1 rfl) ?_
      refine lv_bipush (v := 36) hx hb dX2_isMove_13 (by decide) ?_
      refine lv_icmp_ge (tgt := 22) hx hb dX2_isMove_15 (by decide) (fun c15 => ?_) (fun c15 => ?_)
      · refine lv_iconst (v := 0) hx hb dX2_isMove_22 (by decide) ?_
        refine W.zret (v := 0) hx hb hr (rfl) (fun tt ht hW => ⟨0, rfl, ?_, ht⟩) (fun _ h => nomatch h) dX2_isMove_23
        (try simp only [Int32.lt_iff_toInt_lt, Int32.le_iff_toInt_le, nI_toInt (n := k) (by omega), Int32.toInt_zero, show (36 : Int32).toInt = 36 from rfl] at c1); (try simp only [Int32.lt_iff_toInt_lt, Int32.le_iff_toInt_le, nI_toInt (n := k) (by omega), Int32.toInt_zero, show (36 : Int32).toInt = 36 from rfl] at c9); (try simp only [Int32.lt_iff_toInt_lt, Int32.le_iff_toInt_le, nI_toInt (n := k) (by omega), Int32.toInt_zero, show (36 : Int32).toInt = 36 from rfl] at c15); simp only [Int32.lt_iff_toInt_lt, Int32.le_iff_toInt_le, nI_toInt (n := k) (by omega), Int32.toInt_zero, show (36 : Int32).toInt = 36 from rfl]; split <;> first | rfl | omega
      · refine lv_iconst (v := 1) hx hb dX2_isMove_18 (by decide) ?_
        refine lv_goto (tgt := 23) hx hb dX2_isMove_19 (by decide) ?_
        refine W.zret (v := 1) hx hb hr (rfl) (fun tt ht hW => ⟨1, rfl, ?_, ht⟩) (fun _ h => nomatch h) dX2_isMove_23
        (try simp only [Int32.lt_iff_toInt_lt, Int32.le_iff_toInt_le, nI_toInt (n := k) (by omega), Int32.toInt_zero, show (36 : Int32).toInt = 36 from rfl] at c1); (try simp only [Int32.lt_iff_toInt_lt, Int32.le_iff_toInt_le, nI_toInt (n := k) (by omega), Int32.toInt_zero, show (36 : Int32).toInt = 36 from rfl] at c9); (try simp only [Int32.lt_iff_toInt_lt, Int32.le_iff_toInt_le, nI_toInt (n := k) (by omega), Int32.toInt_zero, show (36 : Int32).toInt = 36 from rfl] at c15); simp only [Int32.lt_iff_toInt_lt, Int32.le_iff_toInt_le, nI_toInt (n := k) (by omega), Int32.toInt_zero, show (36 : Int32).toInt = 36 from rfl]; split <;> first | rfl | omega

set_option maxHeartbeats 400000 in
set_option maxRecDepth 100000 in
theorem c_X2_cellOf (l : Launch) (D : va_G) (cI cJ : ClassId) (h0 lc lt : Nat) (cs ts : Nat → Int32) (k : Nat) (hk : k ≤ 36) (j : Nat) (hj : j < k) : Met l yX2_cellOf wsX2_cellOf ({ frames := 1, cells := 0, slots := 0, locals := 21 } : Room) (va_Pc [.ref h0, .int (nI j)] (px_W D [(h0, .inr (0, [.ref lc, .ref lt, .int (nI k)])), (lc, .inl (cI, 36, .inl cs)), (lt, .inl (cI, 36, .inl ts))] [(cI, .int), (cJ, .long)])) (vp_Si (fun r => r = cs j)) 0 0 (fun _ => False) := by
  refine Met.ofW (cc := cX2_cellOf) (maxL := 2) (ret := (some .int)) (by decide) rfl ?_
  intro p e s m args below meth c s₁ B hml hv
  obtain ⟨rfl, hP, hK⟩ := hv
  have hx := B.exec
  have hb := B.bytes
  have hr := B.returns
  have hts := atoms_spec (ws := wsX2_cellOf) B.pre
  have hown : s.vm.findClass RX2 = some m.cls := findClass_of_methodNamed B.named
  have hlocks := B.notSynchronized
  have hinX2 : ∀ w ∈ wsX20, w ∈ wsX2_cellOf := by decide +kernel
  have hfl9 : (Cond.fieldLink RX2 9 "Twistquad$MoveLog" "cells" "[I").before ([.ref h0, .int (nI j)] : List Value).toArray s = true := hts _ (by decide +kernel)
  have hl := lv_entry ([.ref h0, .int (nI j)]) (n := 2) (Nat.le_of_ble_eq_true rfl)
  rw [lg_entry_eq]
  generalize (lg_sl ([.ref h0, .int (nI j)]) ++ List.replicate (2 - (lg_sl ([.ref h0, .int (nI j)])).length) Slot.unset).toArray = ls at hl ⊢
  have hl : lv_has ls 2 [(0, .ref h0), (1, .int (nI j))] := hl
  refine lv_aload_n hx hb dX2_cellOf_0 rfl (lv_at hl 0 rfl) ?_
  refine lv_iload_n hx hb dX2_cellOf_1 rfl (lv_at hl 1 rfl) ?_
  refine vp_callSi (W.runV (As := [.int (nI j)]) (rest := []) ⟨hx, hb, hml, hown, hts⟩ (c_X2_isMove l D cI cJ h0 lc lt cs ts k (by omega) (nI j)) (cwV 1 hts gX2_cellOf_X2_isMove rfl rfl rfl (by decide +kernel) ⟨Nat.le_of_ble_eq_true rfl, Nat.le_of_ble_eq_true rfl⟩) ⟨px_blindW, va_recv hK hP (ci := 0) (q0 := 0) rfl rfl, fun U hU hW => ⟨rfl, by rw [hU]; exact hP.sub (ws' := [(h0, .inr (0, [.ref lc, .ref lt, .int (nI k)])), (lc, .inl (cI, 36, .inl cs)), (lt, .inl (cI, 36, .inl ts))]) [0, 1, 2] rfl, va_K.moved hW.alike hK⟩⟩ rfl rfl hl.1 rfl (lv_room (Nat.le_of_ble_eq_true rfl)) dX2_cellOf_2 ⟨(Nat.le_of_ble_eq_true rfl), (Nat.le_of_ble_eq_true rfl)⟩) (fun r2 er2 => ?_)
  obtain rfl := er2.symm
  refine pk_b (P := 0 ≤ (nI j) ∧ (nI j) < nI k) (fun b2 => ?_) (fun b2 => ?_)
  · refine lv_if_eq (tgt := 17) hx hb dX2_cellOf_5 (by decide) (fun c5 => ?_) (fun c5 => ?_)
    · exact absurd c5 (by decide)
    · refine lv_aload_n hx hb dX2_cellOf_8 rfl (lv_at hl 0 rfl) ?_
      refine va_get (D := D) (ci := 0) (v := .ref lc) (C := RX2) (T := TX2) (N := 3) hx hb hts hinX2 hown hK hP 0 rfl rfl 0 (by decide) hfl9 (fun _ h9 => h9) rfl dX2_cellOf_9 ?_
      refine lv_iload_n hx hb dX2_cellOf_12 rfl (lv_at hl 1 rfl) ?_
      refine va_iald hx hb hK hP 1 0 rfl rfl (vp_in_nI (n := j) (N := 36) (by omega) (by decide)) dX2_cellOf_13 ?_
      refine pk_ti (y := (cs j)) (congrArg cs (pk_cl j)) ?_
      refine lv_goto (tgt := 18) hx hb dX2_cellOf_14 (by decide) ?_
      refine W.iret (v := (cs j)) hx hb hr (fun tt ht hW => ⟨(cs j), rfl, ?_, ht⟩) (fun _ h => nomatch h) dX2_cellOf_18
      rfl
  · exact absurd (mv_in (by omega) (by omega)) b2

set_option maxHeartbeats 400000 in
set_option maxRecDepth 100000 in
theorem c_X2_turnOf (l : Launch) (D : va_G) (cI cJ : ClassId) (h0 lc lt : Nat) (cs ts : Nat → Int32) (k : Nat) (hk : k ≤ 36) (j : Nat) (hj : j < k) : Met l yX2_turnOf wsX2_turnOf ({ frames := 1, cells := 0, slots := 0, locals := 21 } : Room) (va_Pc [.ref h0, .int (nI j)] (px_W D [(h0, .inr (0, [.ref lc, .ref lt, .int (nI k)])), (lc, .inl (cI, 36, .inl cs)), (lt, .inl (cI, 36, .inl ts))] [(cI, .int), (cJ, .long)])) (vp_Si (fun r => r = ts j)) 0 0 (fun _ => False) := by
  refine Met.ofW (cc := cX2_turnOf) (maxL := 2) (ret := (some .int)) (by decide) rfl ?_
  intro p e s m args below meth c s₁ B hml hv
  obtain ⟨rfl, hP, hK⟩ := hv
  have hx := B.exec
  have hb := B.bytes
  have hr := B.returns
  have hts := atoms_spec (ws := wsX2_turnOf) B.pre
  have hown : s.vm.findClass RX2 = some m.cls := findClass_of_methodNamed B.named
  have hlocks := B.notSynchronized
  have hinX2 : ∀ w ∈ wsX20, w ∈ wsX2_turnOf := by decide +kernel
  have hfl15 : (Cond.fieldLink RX2 15 "Twistquad$MoveLog" "turns" "[I").before ([.ref h0, .int (nI j)] : List Value).toArray s = true := hts _ (by decide +kernel)
  have hl := lv_entry ([.ref h0, .int (nI j)]) (n := 2) (Nat.le_of_ble_eq_true rfl)
  rw [lg_entry_eq]
  generalize (lg_sl ([.ref h0, .int (nI j)]) ++ List.replicate (2 - (lg_sl ([.ref h0, .int (nI j)])).length) Slot.unset).toArray = ls at hl ⊢
  have hl : lv_has ls 2 [(0, .ref h0), (1, .int (nI j))] := hl
  refine lv_aload_n hx hb dX2_turnOf_0 rfl (lv_at hl 0 rfl) ?_
  refine lv_iload_n hx hb dX2_turnOf_1 rfl (lv_at hl 1 rfl) ?_
  refine vp_callSi (W.runV (As := [.int (nI j)]) (rest := []) ⟨hx, hb, hml, hown, hts⟩ (c_X2_isMove l D cI cJ h0 lc lt cs ts k (by omega) (nI j)) (cwV 1 hts gX2_turnOf_X2_isMove rfl rfl rfl (by decide +kernel) ⟨Nat.le_of_ble_eq_true rfl, Nat.le_of_ble_eq_true rfl⟩) ⟨px_blindW, va_recv hK hP (ci := 0) (q0 := 0) rfl rfl, fun U hU hW => ⟨rfl, by rw [hU]; exact hP.sub (ws' := [(h0, .inr (0, [.ref lc, .ref lt, .int (nI k)])), (lc, .inl (cI, 36, .inl cs)), (lt, .inl (cI, 36, .inl ts))]) [0, 1, 2] rfl, va_K.moved hW.alike hK⟩⟩ rfl rfl hl.1 rfl (lv_room (Nat.le_of_ble_eq_true rfl)) dX2_turnOf_2 ⟨(Nat.le_of_ble_eq_true rfl), (Nat.le_of_ble_eq_true rfl)⟩) (fun r2 er2 => ?_)
  obtain rfl := er2.symm
  refine pk_b (P := 0 ≤ (nI j) ∧ (nI j) < nI k) (fun b2 => ?_) (fun b2 => ?_)
  · refine lv_if_eq (tgt := 17) hx hb dX2_turnOf_5 (by decide) (fun c5 => ?_) (fun c5 => ?_)
    · exact absurd c5 (by decide)
    · refine lv_aload_n hx hb dX2_turnOf_8 rfl (lv_at hl 0 rfl) ?_
      refine va_get (D := D) (ci := 0) (v := .ref lt) (C := RX2) (T := TX2) (N := 3) hx hb hts hinX2 hown hK hP 0 rfl rfl 1 (by decide) hfl15 (fun _ h9 => h9) rfl dX2_turnOf_9 ?_
      refine lv_iload_n hx hb dX2_turnOf_12 rfl (lv_at hl 1 rfl) ?_
      refine va_iald hx hb hK hP 2 0 rfl rfl (vp_in_nI (n := j) (N := 36) (by omega) (by decide)) dX2_turnOf_13 ?_
      refine pk_ti (y := (ts j)) (congrArg ts (pk_cl j)) ?_
      refine lv_goto (tgt := 18) hx hb dX2_turnOf_14 (by decide) ?_
      refine W.iret (v := (ts j)) hx hb hr (fun tt ht hW => ⟨(ts j), rfl, ?_, ht⟩) (fun _ h => nomatch h) dX2_turnOf_18
      rfl
  · exact absurd (mv_in (by omega) (by omega)) b2

set_option maxHeartbeats 400000 in
set_option maxRecDepth 100000 in
theorem c_X2_hasTurn (l : Launch) (D : va_G) (cI cJ : ClassId) (h0 lc lt : Nat) (cs ts : Nat → Int32) (k : Nat) (hk : k ≤ 36) (j : Nat) (hj : j < k) : Met l yX2_hasTurn wsX2_hasTurn ({ frames := 2, cells := 0, slots := 0, locals := 42 } : Room) (va_Pc [.ref h0, .int (nI j)] (px_W D [(h0, .inr (0, [.ref lc, .ref lt, .int (nI k)])), (lc, .inl (cI, 36, .inl cs)), (lt, .inl (cI, 36, .inl ts))] [(cI, .int), (cJ, .long)])) (vp_Si (fun r => r = if ¬ ts j = (-1) then 1 else 0)) 0 0 (fun _ => False) := by
  refine Met.ofW (cc := cX2_hasTurn) (maxL := 2) (ret := (some .boolean)) (by decide) rfl ?_
  intro p e s m args below meth c s₁ B hml hv
  obtain ⟨rfl, hP, hK⟩ := hv
  have hx := B.exec
  have hb := B.bytes
  have hr := B.returns
  have hts := atoms_spec (ws := wsX2_hasTurn) B.pre
  have hown : s.vm.findClass RX2 = some m.cls := findClass_of_methodNamed B.named
  have hlocks := B.notSynchronized
  have hl := lv_entry ([.ref h0, .int (nI j)]) (n := 2) (Nat.le_of_ble_eq_true rfl)
  rw [lg_entry_eq]
  generalize (lg_sl ([.ref h0, .int (nI j)]) ++ List.replicate (2 - (lg_sl ([.ref h0, .int (nI j)])).length) Slot.unset).toArray = ls at hl ⊢
  have hl : lv_has ls 2 [(0, .ref h0), (1, .int (nI j))] := hl
  refine lv_aload_n hx hb dX2_hasTurn_0 rfl (lv_at hl 0 rfl) ?_
  refine lv_iload_n hx hb dX2_hasTurn_1 rfl (lv_at hl 1 rfl) ?_
  refine vp_callSi (W.runV (As := [.int (nI j)]) (rest := []) ⟨hx, hb, hml, hown, hts⟩ (c_X2_turnOf l D cI cJ h0 lc lt cs ts k (by omega) j (by omega)) (cwV 1 hts gX2_hasTurn_X2_turnOf rfl rfl rfl (by decide +kernel) ⟨Nat.le_of_ble_eq_true rfl, Nat.le_of_ble_eq_true rfl⟩) ⟨px_blindW, va_recv hK hP (ci := 0) (q0 := 0) rfl rfl, fun U hU hW => ⟨rfl, by rw [hU]; exact hP.sub (ws' := [(h0, .inr (0, [.ref lc, .ref lt, .int (nI k)])), (lc, .inl (cI, 36, .inl cs)), (lt, .inl (cI, 36, .inl ts))]) [0, 1, 2] rfl, va_K.moved hW.alike hK⟩⟩ rfl rfl hl.1 rfl (lv_room (Nat.le_of_ble_eq_true rfl)) dX2_hasTurn_2 ⟨(Nat.le_of_ble_eq_true rfl), (Nat.le_of_ble_eq_true rfl)⟩) (fun r2 er2 => ?_)
  obtain rfl := er2.symm
  refine lv_iconst (v := (-1)) hx hb dX2_hasTurn_5 (by decide) ?_
  refine lv_icmp_eq (tgt := 13) hx hb dX2_hasTurn_6 (by decide) (fun c6 => ?_) (fun c6 => ?_)
  · refine lv_iconst (v := 0) hx hb dX2_hasTurn_13 (by decide) ?_
    refine W.zret (v := 0) hx hb hr (rfl) (fun tt ht hW => ⟨0, rfl, ?_, ht⟩) (fun _ h => nomatch h) dX2_hasTurn_14
    first | rw [if_pos c6] | rw [if_neg (fun h => h c6)]
  · refine lv_iconst (v := 1) hx hb dX2_hasTurn_9 (by decide) ?_
    refine lv_goto (tgt := 14) hx hb dX2_hasTurn_10 (by decide) ?_
    refine W.zret (v := 1) hx hb hr (rfl) (fun tt ht hW => ⟨1, rfl, ?_, ht⟩) (fun _ h => nomatch h) dX2_hasTurn_14
    first | rw [if_pos c6] | rw [if_neg (fun h => h c6)]

set_option maxHeartbeats 400000 in
set_option maxRecDepth 100000 in
theorem c_X2_clear (l : Launch) (D : va_G) (cI cJ : ClassId) (sz : Nat) (h0 lc lt : Nat) (cs ts : Nat → Int32) (k : Nat) (hk : k ≤ 36)  : Met l yX2_clear wsX2_clear ({ frames := 0, cells := 0, slots := 0, locals := 0 } : Room) (va_Pc [.ref h0] (pv_C D cI cJ [(h0, .inr (0, [.ref lc, .ref lt, .int (nI k)])), (lc, .inl (cI, 36, .inl cs)), (lt, .inl (cI, 36, .inl ts))] sz)) (va_Qv (fun (u : Unit) => True) (fun (u : Unit) => pv_B D cI cJ (va_A [(h0, .inr (0, [.ref lc, .ref lt, .int (nI k)])), (lc, .inl (cI, 36, .inl cs)), (lt, .inl (cI, 36, .inl ts))] sz) [(h0, .inr (0, [.ref lc, .ref lt, .int 0])), (lc, .inl (cI, 36, .inl cs)), (lt, .inl (cI, 36, .inl ts))]) (va_A [(h0, .inr (0, [.ref lc, .ref lt, .int (nI k)])), (lc, .inl (cI, 36, .inl cs)), (lt, .inl (cI, 36, .inl ts))] sz)) 0 0 (va_A [(h0, .inr (0, [.ref lc, .ref lt, .int (nI k)])), (lc, .inl (cI, 36, .inl cs)), (lt, .inl (cI, 36, .inl ts))] sz) := by
  refine Met.ofW (cc := cX2_clear) (maxL := 1) (ret := none) (by decide) rfl ?_
  intro p e s m args below meth c s₁ B hml hv
  obtain ⟨rfl, rfl, hP, hK, hD0⟩ := hv
  have hx := B.exec
  have hb := B.bytes
  have hr := B.returns
  have hts := atoms_spec (ws := wsX2_clear) B.pre
  have hown : s.vm.findClass RX2 = some m.cls := findClass_of_methodNamed B.named
  have hlocks := B.notSynchronized
  have hD := hD0.self (sz := s.heap.size)
  generalize hAe : va_A [(h0, .inr (0, [.ref lc, .ref lt, .int (nI k)])), (lc, .inl (cI, 36, .inl cs)), (lt, .inl (cI, 36, .inl ts))] s.heap.size = A at hD ⊢
  have hA : ∀ q : Nat, s.heap.size ≤ q → A q := fun q h => by rw [← hAe]; exact Or.inr h
  have hS : va_S A s.heap s.heap [] := va_S.rf
  have hinX2 : ∀ w ∈ wsX20, w ∈ wsX2_clear := by decide +kernel
  have hfl18 : (Cond.fieldLink RX2 18 "Twistquad$MoveLog" "count" "I").before ([.ref h0] : List Value).toArray s = true := hts _ (by decide +kernel)
  have hl := lv_entry ([.ref h0]) (n := 1) (Nat.le_of_ble_eq_true rfl)
  rw [lg_entry_eq]
  generalize (lg_sl ([.ref h0]) ++ List.replicate (1 - (lg_sl ([.ref h0])).length) Slot.unset).toArray = ls at hl ⊢
  have hl : lv_has ls 1 [(0, .ref h0)] := hl
  refine lv_aload_n hx hb dX2_clear_0 rfl (lv_at hl 0 rfl) ?_
  refine lv_iconst (v := 0) hx hb dX2_clear_1 (by decide) ?_
  refine va_put (D := D) (ci := 0) (v := .int 0) (ty := .int) (C := RX2) (T := TX2) (N := 3) hx hb hts hinX2 tyX2 tyX2_ok nmX2 hown hK hP hD hS 0 rfl rfl 2 (by decide) hfl18 (fun _ h9 => h9) rfl (by decide +kernel) rfl rfl (Nat.le_of_ble_eq_true rfl) dX2_clear_2 (fun H locs hP hD hS => ?_)
  have hP : va_P D vwCl [(h0, .inr (0, [.ref lc, .ref lt, .int 0])), (lc, .inl (cI, 36, .inl cs)), (lt, .inl (cI, 36, .inl ts))] H := hP
  have hD : va_D A [(h0, .inr (0, [.ref lc, .ref lt, .int 0])), (lc, .inl (cI, 36, .inl cs)), (lt, .inl (cI, 36, .inl ts))] := hD
  refine W.vret hx hb hr (fun tt ht hW => ⟨⟨(), rfl, ?_, by rw [ht]; exact hP, va_K.moved hW.alike hK, hD⟩, hS.F ht⟩) hS.2.2 dX2_clear_5
  trivial

set_option maxHeartbeats 400000 in
set_option maxRecDepth 100000 in
theorem c_X2_addMarble (l : Launch) (D : va_G) (cI cJ : ClassId) (sz : Nat) (h0 lc lt : Nat) (cs ts : Nat → Int32) (k : Nat) (hk : k ≤ 36) (v : Int32) (hk2 : k < 36) : Met l yX2_addMarble wsX2_addMarble ({ frames := 0, cells := 0, slots := 0, locals := 0 } : Room) (va_Pc [.ref h0, .int v] (pv_C D cI cJ [(h0, .inr (0, [.ref lc, .ref lt, .int (nI k)])), (lc, .inl (cI, 36, .inl cs)), (lt, .inl (cI, 36, .inl ts))] sz)) (va_Qv (fun (u : Unit) => True) (fun (u : Unit) => pv_B D cI cJ (va_A [(h0, .inr (0, [.ref lc, .ref lt, .int (nI k)])), (lc, .inl (cI, 36, .inl cs)), (lt, .inl (cI, 36, .inl ts))] sz) [(h0, .inr (0, [.ref lc, .ref lt, .int (nI (k + 1))])), (lc, .inl (cI, 36, .inl (upd cs k v))), (lt, .inl (cI, 36, .inl (upd ts k (-1))))]) (va_A [(h0, .inr (0, [.ref lc, .ref lt, .int (nI k)])), (lc, .inl (cI, 36, .inl cs)), (lt, .inl (cI, 36, .inl ts))] sz)) 0 0 (va_A [(h0, .inr (0, [.ref lc, .ref lt, .int (nI k)])), (lc, .inl (cI, 36, .inl cs)), (lt, .inl (cI, 36, .inl ts))] sz) := by
  refine Met.ofW (cc := cX2_addMarble) (maxL := 2) (ret := none) (by decide) rfl ?_
  intro p e s m args below meth c s₁ B hml hv
  obtain ⟨rfl, rfl, hP, hK, hD0⟩ := hv
  have hx := B.exec
  have hb := B.bytes
  have hr := B.returns
  have hts := atoms_spec (ws := wsX2_addMarble) B.pre
  have hown : s.vm.findClass RX2 = some m.cls := findClass_of_methodNamed B.named
  have hlocks := B.notSynchronized
  have hD := hD0.self (sz := s.heap.size)
  generalize hAe : va_A [(h0, .inr (0, [.ref lc, .ref lt, .int (nI k)])), (lc, .inl (cI, 36, .inl cs)), (lt, .inl (cI, 36, .inl ts))] s.heap.size = A at hD ⊢
  have hA : ∀ q : Nat, s.heap.size ≤ q → A q := fun q h => by rw [← hAe]; exact Or.inr h
  have hS : va_S A s.heap s.heap [] := va_S.rf
  have hinX2 : ∀ w ∈ wsX20, w ∈ wsX2_addMarble := by decide +kernel
  have hfl18 : (Cond.fieldLink RX2 18 "Twistquad$MoveLog" "count" "I").before ([.ref h0, .int v] : List Value).toArray s = true := hts _ (by decide +kernel)
  have hfl9 : (Cond.fieldLink RX2 9 "Twistquad$MoveLog" "cells" "[I").before ([.ref h0, .int v] : List Value).toArray s = true := hts _ (by decide +kernel)
  have hfl15 : (Cond.fieldLink RX2 15 "Twistquad$MoveLog" "turns" "[I").before ([.ref h0, .int v] : List Value).toArray s = true := hts _ (by decide +kernel)
  have hl := lv_entry ([.ref h0, .int v]) (n := 2) (Nat.le_of_ble_eq_true rfl)
  rw [lg_entry_eq]
  generalize (lg_sl ([.ref h0, .int v]) ++ List.replicate (2 - (lg_sl ([.ref h0, .int v])).length) Slot.unset).toArray = ls at hl ⊢
  have hl : lv_has ls 2 [(0, .ref h0), (1, .int v)] := hl
  refine lv_aload_n hx hb dX2_addMarble_0 rfl (lv_at hl 0 rfl) ?_
  refine va_get (D := D) (ci := 0) (v := .int (nI k)) (C := RX2) (T := TX2) (N := 3) hx hb hts hinX2 hown hK hP 0 rfl rfl 2 (by decide) hfl18 (fun _ h9 => h9) rfl dX2_addMarble_1 ?_
  refine lv_bipush (v := 36) hx hb dX2_addMarble_4 (by decide) ?_
  refine lv_icmp_ge (tgt := 39) hx hb dX2_addMarble_6 (by decide) (fun c6 => ?_) (fun c6 => ?_)
  · have c6 : 36 ≤ k := (nq_le (a := 36) (b := k) (by omega) (by omega)).mp c6
    omega
  · have c6 : ¬ 36 ≤ k := _root_.mt (nq_le (a := 36) (b := k) (by omega) (by omega)).mpr c6
    refine lv_aload_n hx hb dX2_addMarble_9 rfl (lv_at hl 0 rfl) ?_
    refine va_get (D := D) (ci := 0) (v := .ref lc) (C := RX2) (T := TX2) (N := 3) hx hb hts hinX2 hown hK hP 0 rfl rfl 0 (by decide) hfl9 (fun _ h9 => h9) rfl dX2_addMarble_10 ?_
    refine lv_aload_n hx hb dX2_addMarble_13 rfl (lv_at hl 0 rfl) ?_
    refine va_get (D := D) (ci := 0) (v := .int (nI k)) (C := RX2) (T := TX2) (N := 3) hx hb hts hinX2 hown hK hP 0 rfl rfl 2 (by decide) hfl18 (fun _ h9 => h9) rfl dX2_addMarble_14 ?_
    refine lv_iload_n hx hb dX2_addMarble_17 rfl (lv_at hl 1 rfl) ?_
    refine va_iast hx hb hK hP hD hS 1 0 rfl rfl (vp_in_nI (n := k) (N := 36) (by omega) (by decide)) dX2_addMarble_18 (fun H locs hP hD hS => ?_)
    have hu18 : ((nI k) : Int32).toNatClampNeg = k := pk_cl k
    rw [hu18] at hP hD
    have hP : va_P D vwCl [(h0, .inr (0, [.ref lc, .ref lt, .int (nI k)])), (lc, .inl (cI, 36, .inl (upd cs k v))), (lt, .inl (cI, 36, .inl ts))] H := hP
    have hD : va_D A [(h0, .inr (0, [.ref lc, .ref lt, .int (nI k)])), (lc, .inl (cI, 36, .inl (upd cs k v))), (lt, .inl (cI, 36, .inl ts))] := hD
    refine lv_aload_n hx hb dX2_addMarble_19 rfl (lv_at hl 0 rfl) ?_
    refine va_get (D := D) (ci := 0) (v := .ref lt) (C := RX2) (T := TX2) (N := 3) hx hb hts hinX2 hown hK hP 0 rfl rfl 1 (by decide) hfl15 (fun _ h9 => h9) rfl dX2_addMarble_20 ?_
    refine lv_aload_n hx hb dX2_addMarble_23 rfl (lv_at hl 0 rfl) ?_
    refine va_get (D := D) (ci := 0) (v := .int (nI k)) (C := RX2) (T := TX2) (N := 3) hx hb hts hinX2 hown hK hP 0 rfl rfl 2 (by decide) hfl18 (fun _ h9 => h9) rfl dX2_addMarble_24 ?_
    refine lv_iconst (v := (-1)) hx hb dX2_addMarble_27 (by decide) ?_
    refine va_iast hx hb hK hP hD hS 2 0 rfl rfl (vp_in_nI (n := k) (N := 36) (by omega) (by decide)) dX2_addMarble_28 (fun H locs hP hD hS => ?_)
    have hu28 : ((nI k) : Int32).toNatClampNeg = k := pk_cl k
    rw [hu28] at hP hD
    have hP : va_P D vwCl [(h0, .inr (0, [.ref lc, .ref lt, .int (nI k)])), (lc, .inl (cI, 36, .inl (upd cs k v))), (lt, .inl (cI, 36, .inl (upd ts k (-1))))] H := hP
    have hD : va_D A [(h0, .inr (0, [.ref lc, .ref lt, .int (nI k)])), (lc, .inl (cI, 36, .inl (upd cs k v))), (lt, .inl (cI, 36, .inl (upd ts k (-1))))] := hD
    refine lv_aload_n hx hb dX2_addMarble_29 rfl (lv_at hl 0 rfl) ?_
    refine lv_dup hx hb dX2_addMarble_30 rfl ?_
    refine va_get (D := D) (ci := 0) (v := .int (nI k)) (C := RX2) (T := TX2) (N := 3) hx hb hts hinX2 hown hK hP 0 rfl rfl 2 (by decide) hfl18 (fun _ h9 => h9) rfl dX2_addMarble_31 ?_
    refine lv_iconst (v := 1) hx hb dX2_addMarble_34 (by decide) ?_
    refine lv_iadd hx hb dX2_addMarble_35 ?_
    refine pk_ti (y := nI (k + 1)) (nI_add k 1) ?_
    refine va_put (D := D) (ci := 0) (v := .int (nI (k + 1))) (ty := .int) (C := RX2) (T := TX2) (N := 3) hx hb hts hinX2 tyX2 tyX2_ok nmX2 hown hK hP hD hS 0 rfl rfl 2 (by decide) hfl18 (fun _ h9 => h9) rfl (by decide +kernel) rfl rfl (Nat.le_of_ble_eq_true rfl) dX2_addMarble_36 (fun H locs hP hD hS => ?_)
    have hP : va_P D vwCl [(h0, .inr (0, [.ref lc, .ref lt, .int (nI (k + 1))])), (lc, .inl (cI, 36, .inl (upd cs k v))), (lt, .inl (cI, 36, .inl (upd ts k (-1))))] H := hP
    have hD : va_D A [(h0, .inr (0, [.ref lc, .ref lt, .int (nI (k + 1))])), (lc, .inl (cI, 36, .inl (upd cs k v))), (lt, .inl (cI, 36, .inl (upd ts k (-1))))] := hD
    refine W.vret hx hb hr (fun tt ht hW => ⟨⟨(), rfl, ?_, by rw [ht]; exact hP, va_K.moved hW.alike hK, hD⟩, hS.F ht⟩) hS.2.2 dX2_addMarble_39
    trivial

set_option maxHeartbeats 400000 in
set_option maxRecDepth 100000 in
theorem c_X2_setLastTurn (l : Launch) (D : va_G) (cI cJ : ClassId) (sz : Nat) (h0 lc lt : Nat) (cs ts : Nat → Int32) (k : Nat) (hk : k ≤ 36) (v : Int32) (hk2 : 0 < k) : Met l yX2_setLastTurn wsX2_setLastTurn ({ frames := 1, cells := 0, slots := 0, locals := 21 } : Room) (va_Pc [.ref h0, .int v] (pv_C D cI cJ [(h0, .inr (0, [.ref lc, .ref lt, .int (nI k)])), (lc, .inl (cI, 36, .inl cs)), (lt, .inl (cI, 36, .inl ts))] sz)) (va_Qv (fun (u : Unit) => True) (fun (u : Unit) => pv_B D cI cJ (va_A [(h0, .inr (0, [.ref lc, .ref lt, .int (nI k)])), (lc, .inl (cI, 36, .inl cs)), (lt, .inl (cI, 36, .inl ts))] sz) [(h0, .inr (0, [.ref lc, .ref lt, .int (nI k)])), (lc, .inl (cI, 36, .inl cs)), (lt, .inl (cI, 36, .inl (upd ts (k - 1) v)))]) (va_A [(h0, .inr (0, [.ref lc, .ref lt, .int (nI k)])), (lc, .inl (cI, 36, .inl cs)), (lt, .inl (cI, 36, .inl ts))] sz)) 0 0 (va_A [(h0, .inr (0, [.ref lc, .ref lt, .int (nI k)])), (lc, .inl (cI, 36, .inl cs)), (lt, .inl (cI, 36, .inl ts))] sz) := by
  refine Met.ofW (cc := cX2_setLastTurn) (maxL := 2) (ret := none) (by decide) rfl ?_
  intro p e s m args below meth c s₁ B hml hv
  obtain ⟨rfl, rfl, hP, hK, hD0⟩ := hv
  have hx := B.exec
  have hb := B.bytes
  have hr := B.returns
  have hts := atoms_spec (ws := wsX2_setLastTurn) B.pre
  have hown : s.vm.findClass RX2 = some m.cls := findClass_of_methodNamed B.named
  have hlocks := B.notSynchronized
  have hD := hD0.self (sz := s.heap.size)
  generalize hAe : va_A [(h0, .inr (0, [.ref lc, .ref lt, .int (nI k)])), (lc, .inl (cI, 36, .inl cs)), (lt, .inl (cI, 36, .inl ts))] s.heap.size = A at hD ⊢
  have hA : ∀ q : Nat, s.heap.size ≤ q → A q := fun q h => by rw [← hAe]; exact Or.inr h
  have hS : va_S A s.heap s.heap [] := va_S.rf
  have hinX2 : ∀ w ∈ wsX20, w ∈ wsX2_setLastTurn := by decide +kernel
  have hfl18 : (Cond.fieldLink RX2 18 "Twistquad$MoveLog" "count" "I").before ([.ref h0, .int v] : List Value).toArray s = true := hts _ (by decide +kernel)
  have hfl15 : (Cond.fieldLink RX2 15 "Twistquad$MoveLog" "turns" "[I").before ([.ref h0, .int v] : List Value).toArray s = true := hts _ (by decide +kernel)
  have hl := lv_entry ([.ref h0, .int v]) (n := 2) (Nat.le_of_ble_eq_true rfl)
  rw [lg_entry_eq]
  generalize (lg_sl ([.ref h0, .int v]) ++ List.replicate (2 - (lg_sl ([.ref h0, .int v])).length) Slot.unset).toArray = ls at hl ⊢
  have hl : lv_has ls 2 [(0, .ref h0), (1, .int v)] := hl
  refine lv_aload_n hx hb dX2_setLastTurn_0 rfl (lv_at hl 0 rfl) ?_
  refine lv_aload_n hx hb dX2_setLastTurn_1 rfl (lv_at hl 0 rfl) ?_
  refine va_get (D := D) (ci := 0) (v := .int (nI k)) (C := RX2) (T := TX2) (N := 3) hx hb hts hinX2 hown hK hP 0 rfl rfl 2 (by decide) hfl18 (fun _ h9 => h9) rfl dX2_setLastTurn_2 ?_
  refine lv_iconst (v := 1) hx hb dX2_setLastTurn_5 (by decide) ?_
  refine lv_isub hx hb dX2_setLastTurn_6 ?_
  refine pk_ti (y := nI (k - 1)) (pk_sub (a := k) (b := 1) (by omega)) ?_
  refine vp_callSi (W.runV (As := [.int (nI (k - 1))]) (rest := []) ⟨hx, hb, hml, hown, hts⟩ (c_X2_isMove l D cI cJ h0 lc lt cs ts k (by omega) (nI (k - 1))) (cwV 1 hts gX2_setLastTurn_X2_isMove rfl rfl rfl (by decide +kernel) ⟨Nat.le_of_ble_eq_true rfl, Nat.le_of_ble_eq_true rfl⟩) ⟨px_blindW, va_recv hK hP (ci := 0) (q0 := 0) rfl rfl, fun U hU hW => ⟨rfl, by rw [hU]; exact hP.sub (ws' := [(h0, .inr (0, [.ref lc, .ref lt, .int (nI k)])), (lc, .inl (cI, 36, .inl cs)), (lt, .inl (cI, 36, .inl ts))]) [0, 1, 2] rfl, va_K.moved hW.alike hK⟩⟩ rfl rfl hl.1 rfl (lv_room (Nat.le_of_ble_eq_true rfl)) dX2_setLastTurn_7 ⟨(Nat.le_of_ble_eq_true rfl), (Nat.le_of_ble_eq_true rfl)⟩) (fun r7 er7 => ?_)
  obtain rfl := er7.symm
  refine pk_b (P := 0 ≤ (nI (k - 1)) ∧ (nI (k - 1)) < nI k) (fun b7 => ?_) (fun b7 => ?_)
  · refine lv_if_eq (tgt := 25) hx hb dX2_setLastTurn_10 (by decide) (fun c10 => ?_) (fun c10 => ?_)
    · exact absurd c10 (by decide)
    · refine lv_aload_n hx hb dX2_setLastTurn_13 rfl (lv_at hl 0 rfl) ?_
      refine va_get (D := D) (ci := 0) (v := .ref lt) (C := RX2) (T := TX2) (N := 3) hx hb hts hinX2 hown hK hP 0 rfl rfl 1 (by decide) hfl15 (fun _ h9 => h9) rfl dX2_setLastTurn_14 ?_
      refine lv_aload_n hx hb dX2_setLastTurn_17 rfl (lv_at hl 0 rfl) ?_
      refine va_get (D := D) (ci := 0) (v := .int (nI k)) (C := RX2) (T := TX2) (N := 3) hx hb hts hinX2 hown hK hP 0 rfl rfl 2 (by decide) hfl18 (fun _ h9 => h9) rfl dX2_setLastTurn_18 ?_
      refine lv_iconst (v := 1) hx hb dX2_setLastTurn_21 (by decide) ?_
      refine lv_isub hx hb dX2_setLastTurn_22 ?_
      refine pk_ti (y := nI (k - 1)) (pk_sub (a := k) (b := 1) (by omega)) ?_
      refine lv_iload_n hx hb dX2_setLastTurn_23 rfl (lv_at hl 1 rfl) ?_
      refine va_iast hx hb hK hP hD hS 2 0 rfl rfl (vp_in_nI (n := (k - 1)) (N := 36) (by omega) (by decide)) dX2_setLastTurn_24 (fun H locs hP hD hS => ?_)
      have hu24 : ((nI (k - 1)) : Int32).toNatClampNeg = k - 1 := pk_cl (k - 1)
      rw [hu24] at hP hD
      have hP : va_P D vwCl [(h0, .inr (0, [.ref lc, .ref lt, .int (nI k)])), (lc, .inl (cI, 36, .inl cs)), (lt, .inl (cI, 36, .inl (upd ts (k - 1) v)))] H := hP
      have hD : va_D A [(h0, .inr (0, [.ref lc, .ref lt, .int (nI k)])), (lc, .inl (cI, 36, .inl cs)), (lt, .inl (cI, 36, .inl (upd ts (k - 1) v)))] := hD
      refine W.vret hx hb hr (fun tt ht hW => ⟨⟨(), rfl, ?_, by rw [ht]; exact hP, va_K.moved hW.alike hK, hD⟩, hS.F ht⟩) hS.2.2 dX2_setLastTurn_25
      trivial
  · exact absurd (mv_in (by omega) (by omega)) b7

set_option maxHeartbeats 400000 in
set_option maxRecDepth 100000 in
theorem c_X2_addTurn (l : Launch) (D : va_G) (cI cJ : ClassId) (sz : Nat) (h0 lc lt : Nat) (cs ts : Nat → Int32) (k : Nat) (hk : k ≤ 36) (v : Int32) (hk2 : 0 < k) : Met l yX2_addTurn wsX2_addTurn ({ frames := 2, cells := 0, slots := 0, locals := 42 } : Room) (va_Pc [.ref h0, .int v] (pv_C D cI cJ [(h0, .inr (0, [.ref lc, .ref lt, .int (nI k)])), (lc, .inl (cI, 36, .inl cs)), (lt, .inl (cI, 36, .inl ts))] sz)) (va_Qv (fun (u : Unit) => True) (fun (u : Unit) => pv_B D cI cJ (va_A [(h0, .inr (0, [.ref lc, .ref lt, .int (nI k)])), (lc, .inl (cI, 36, .inl cs)), (lt, .inl (cI, 36, .inl ts))] sz) [(h0, .inr (0, [.ref lc, .ref lt, .int (nI k)])), (lc, .inl (cI, 36, .inl cs)), (lt, .inl (cI, 36, .inl (upd ts (k - 1) v)))]) (va_A [(h0, .inr (0, [.ref lc, .ref lt, .int (nI k)])), (lc, .inl (cI, 36, .inl cs)), (lt, .inl (cI, 36, .inl ts))] sz)) 0 0 (va_A [(h0, .inr (0, [.ref lc, .ref lt, .int (nI k)])), (lc, .inl (cI, 36, .inl cs)), (lt, .inl (cI, 36, .inl ts))] sz) := by
  refine Met.ofW (cc := cX2_addTurn) (maxL := 2) (ret := none) (by decide) rfl ?_
  intro p e s m args below meth c s₁ B hml hv
  obtain ⟨rfl, rfl, hP, hK, hD0⟩ := hv
  have hx := B.exec
  have hb := B.bytes
  have hr := B.returns
  have hts := atoms_spec (ws := wsX2_addTurn) B.pre
  have hown : s.vm.findClass RX2 = some m.cls := findClass_of_methodNamed B.named
  have hlocks := B.notSynchronized
  have hD := hD0.self (sz := s.heap.size)
  generalize hAe : va_A [(h0, .inr (0, [.ref lc, .ref lt, .int (nI k)])), (lc, .inl (cI, 36, .inl cs)), (lt, .inl (cI, 36, .inl ts))] s.heap.size = A at hD ⊢
  have hA : ∀ q : Nat, s.heap.size ≤ q → A q := fun q h => by rw [← hAe]; exact Or.inr h
  have hS : va_S A s.heap s.heap [] := va_S.rf
  have hl := lv_entry ([.ref h0, .int v]) (n := 2) (Nat.le_of_ble_eq_true rfl)
  rw [lg_entry_eq]
  generalize (lg_sl ([.ref h0, .int v]) ++ List.replicate (2 - (lg_sl ([.ref h0, .int v])).length) Slot.unset).toArray = ls at hl ⊢
  have hl : lv_has ls 2 [(0, .ref h0), (1, .int v)] := hl
  refine lv_aload_n hx hb dX2_addTurn_0 rfl (lv_at hl 0 rfl) ?_
  refine lv_iload_n hx hb dX2_addTurn_1 rfl (lv_at hl 1 rfl) ?_
  have hPc := hP.sub (ws' := [(h0, .inr (0, [.ref lc, .ref lt, .int (nI k)])), (lc, .inl (cI, 36, .inl cs)), (lt, .inl (cI, 36, .inl ts))]) [0, 1, 2] rfl
  have hDc := hD.sub (ws' := [(h0, .inr (0, [.ref lc, .ref lt, .int (nI k)])), (lc, .inl (cI, 36, .inl cs)), (lt, .inl (cI, 36, .inl ts))]) [0, 1, 2] (by decide) rfl
  have hFc := va_free (wc := [(h0, .inr (0, [.ref lc, .ref lt, .int (nI k)])), (lc, .inl (cI, 36, .inl cs)), (lt, .inl (cI, 36, .inl ts))]) hD hS hA [0, 1, 2] rfl
  refine va_callv (va_runV (As := [.int v]) (rest := []) ⟨hx, hb, hml, hown, hts⟩ (c_X2_setLastTurn l D cI cJ s.heap.size  h0 lc lt cs ts k (by omega) v (by omega)) (cwV 1 hts gX2_addTurn_X2_setLastTurn rfl rfl rfl (by decide +kernel) ⟨Nat.le_of_ble_eq_true rfl, Nat.le_of_ble_eq_true rfl⟩) ⟨pv_blind, va_recv hK hPc (ci := 0) (q0 := 0) rfl rfl, fun U hU hW => ⟨rfl, by rw [hU], by rw [hU]; exact hPc, va_K.moved hW.alike hK, hDc.weaken (fun _ _ _ _ => trivial)⟩⟩ rfl rfl hl.1 rfl (lv_room (Nat.le_of_ble_eq_true rfl)) dX2_addTurn_2 ⟨(Nat.le_of_ble_eq_true rfl), (Nat.le_of_ble_eq_true rfl)⟩) hS (fun q _ h => hFc q h) hFc (fun u t9 H1 locs hth hvm hw2 hB hz1 hk1 hS => ?_)
  try dsimp only at hw2
  obtain ⟨hP1, hK1, hD1⟩ := hB
  rw [hth] at hP1
  obtain ⟨hP, hD⟩ := va_join (wr := []) (w1 := [(h0, .inr (0, [.ref lc, .ref lt, .int (nI k)])), (lc, .inl (cI, 36, .inl cs)), (lt, .inl (cI, 36, .inl (upd ts (k - 1) v)))]) hP hD [0, 1, 2] [] rfl rfl (by decide) (by decide) hk1 hFc hP1 hD1
  generalize H1 = H at hP hS ⊢
  have hP : va_P D vwCl [(h0, .inr (0, [.ref lc, .ref lt, .int (nI k)])), (lc, .inl (cI, 36, .inl cs)), (lt, .inl (cI, 36, .inl (upd ts (k - 1) v)))] H := hP.sub (ws' := [(h0, .inr (0, [.ref lc, .ref lt, .int (nI k)])), (lc, .inl (cI, 36, .inl cs)), (lt, .inl (cI, 36, .inl (upd ts (k - 1) v)))]) [0, 1, 2] rfl
  have hD : va_D A [(h0, .inr (0, [.ref lc, .ref lt, .int (nI k)])), (lc, .inl (cI, 36, .inl cs)), (lt, .inl (cI, 36, .inl (upd ts (k - 1) v)))] := hD.sub (ws' := [(h0, .inr (0, [.ref lc, .ref lt, .int (nI k)])), (lc, .inl (cI, 36, .inl cs)), (lt, .inl (cI, 36, .inl (upd ts (k - 1) v)))]) [0, 1, 2] (by decide) rfl
  refine W.vret hx hb hr (fun tt ht hW => ⟨⟨(), rfl, ?_, by rw [ht]; exact hP, va_K.moved hW.alike hK, hD⟩, hS.F ht⟩) hS.2.2 dX2_addTurn_5
  trivial

set_option maxHeartbeats 400000 in
set_option maxRecDepth 100000 in
theorem c_X2_dropTurn (l : Launch) (D : va_G) (cI cJ : ClassId) (sz : Nat) (h0 lc lt : Nat) (cs ts : Nat → Int32) (k : Nat) (hk : k ≤ 36) (hk2 : 0 < k) : Met l yX2_dropTurn wsX2_dropTurn ({ frames := 2, cells := 0, slots := 0, locals := 42 } : Room) (va_Pc [.ref h0] (pv_C D cI cJ [(h0, .inr (0, [.ref lc, .ref lt, .int (nI k)])), (lc, .inl (cI, 36, .inl cs)), (lt, .inl (cI, 36, .inl ts))] sz)) (va_Qv (fun (u : Unit) => True) (fun (u : Unit) => pv_B D cI cJ (va_A [(h0, .inr (0, [.ref lc, .ref lt, .int (nI k)])), (lc, .inl (cI, 36, .inl cs)), (lt, .inl (cI, 36, .inl ts))] sz) [(h0, .inr (0, [.ref lc, .ref lt, .int (nI k)])), (lc, .inl (cI, 36, .inl cs)), (lt, .inl (cI, 36, .inl (upd ts (k - 1) (-1))))]) (va_A [(h0, .inr (0, [.ref lc, .ref lt, .int (nI k)])), (lc, .inl (cI, 36, .inl cs)), (lt, .inl (cI, 36, .inl ts))] sz)) 0 0 (va_A [(h0, .inr (0, [.ref lc, .ref lt, .int (nI k)])), (lc, .inl (cI, 36, .inl cs)), (lt, .inl (cI, 36, .inl ts))] sz) := by
  refine Met.ofW (cc := cX2_dropTurn) (maxL := 1) (ret := none) (by decide) rfl ?_
  intro p e s m args below meth c s₁ B hml hv
  obtain ⟨rfl, rfl, hP, hK, hD0⟩ := hv
  have hx := B.exec
  have hb := B.bytes
  have hr := B.returns
  have hts := atoms_spec (ws := wsX2_dropTurn) B.pre
  have hown : s.vm.findClass RX2 = some m.cls := findClass_of_methodNamed B.named
  have hlocks := B.notSynchronized
  have hD := hD0.self (sz := s.heap.size)
  generalize hAe : va_A [(h0, .inr (0, [.ref lc, .ref lt, .int (nI k)])), (lc, .inl (cI, 36, .inl cs)), (lt, .inl (cI, 36, .inl ts))] s.heap.size = A at hD ⊢
  have hA : ∀ q : Nat, s.heap.size ≤ q → A q := fun q h => by rw [← hAe]; exact Or.inr h
  have hS : va_S A s.heap s.heap [] := va_S.rf
  have hl := lv_entry ([.ref h0]) (n := 1) (Nat.le_of_ble_eq_true rfl)
  rw [lg_entry_eq]
  generalize (lg_sl ([.ref h0]) ++ List.replicate (1 - (lg_sl ([.ref h0])).length) Slot.unset).toArray = ls at hl ⊢
  have hl : lv_has ls 1 [(0, .ref h0)] := hl
  refine lv_aload_n hx hb dX2_dropTurn_0 rfl (lv_at hl 0 rfl) ?_
  refine lv_iconst (v := (-1)) hx hb dX2_dropTurn_1 (by decide) ?_
  have hPc := hP.sub (ws' := [(h0, .inr (0, [.ref lc, .ref lt, .int (nI k)])), (lc, .inl (cI, 36, .inl cs)), (lt, .inl (cI, 36, .inl ts))]) [0, 1, 2] rfl
  have hDc := hD.sub (ws' := [(h0, .inr (0, [.ref lc, .ref lt, .int (nI k)])), (lc, .inl (cI, 36, .inl cs)), (lt, .inl (cI, 36, .inl ts))]) [0, 1, 2] (by decide) rfl
  have hFc := va_free (wc := [(h0, .inr (0, [.ref lc, .ref lt, .int (nI k)])), (lc, .inl (cI, 36, .inl cs)), (lt, .inl (cI, 36, .inl ts))]) hD hS hA [0, 1, 2] rfl
  refine va_callv (va_runV (As := [.int (-1)]) (rest := []) ⟨hx, hb, hml, hown, hts⟩ (c_X2_setLastTurn l D cI cJ s.heap.size  h0 lc lt cs ts k (by omega) (-1) (by omega)) (cwV 1 hts gX2_dropTurn_X2_setLastTurn rfl rfl rfl (by decide +kernel) ⟨Nat.le_of_ble_eq_true rfl, Nat.le_of_ble_eq_true rfl⟩) ⟨pv_blind, va_recv hK hPc (ci := 0) (q0 := 0) rfl rfl, fun U hU hW => ⟨rfl, by rw [hU], by rw [hU]; exact hPc, va_K.moved hW.alike hK, hDc.weaken (fun _ _ _ _ => trivial)⟩⟩ rfl rfl hl.1 rfl (lv_room (Nat.le_of_ble_eq_true rfl)) dX2_dropTurn_2 ⟨(Nat.le_of_ble_eq_true rfl), (Nat.le_of_ble_eq_true rfl)⟩) hS (fun q _ h => hFc q h) hFc (fun u t9 H1 locs hth hvm hw2 hB hz1 hk1 hS => ?_)
  try dsimp only at hw2
  obtain ⟨hP1, hK1, hD1⟩ := hB
  rw [hth] at hP1
  obtain ⟨hP, hD⟩ := va_join (wr := []) (w1 := [(h0, .inr (0, [.ref lc, .ref lt, .int (nI k)])), (lc, .inl (cI, 36, .inl cs)), (lt, .inl (cI, 36, .inl (upd ts (k - 1) (-1))))]) hP hD [0, 1, 2] [] rfl rfl (by decide) (by decide) hk1 hFc hP1 hD1
  generalize H1 = H at hP hS ⊢
  have hP : va_P D vwCl [(h0, .inr (0, [.ref lc, .ref lt, .int (nI k)])), (lc, .inl (cI, 36, .inl cs)), (lt, .inl (cI, 36, .inl (upd ts (k - 1) (-1))))] H := hP.sub (ws' := [(h0, .inr (0, [.ref lc, .ref lt, .int (nI k)])), (lc, .inl (cI, 36, .inl cs)), (lt, .inl (cI, 36, .inl (upd ts (k - 1) (-1))))]) [0, 1, 2] rfl
  have hD : va_D A [(h0, .inr (0, [.ref lc, .ref lt, .int (nI k)])), (lc, .inl (cI, 36, .inl cs)), (lt, .inl (cI, 36, .inl (upd ts (k - 1) (-1))))] := hD.sub (ws' := [(h0, .inr (0, [.ref lc, .ref lt, .int (nI k)])), (lc, .inl (cI, 36, .inl cs)), (lt, .inl (cI, 36, .inl (upd ts (k - 1) (-1))))]) [0, 1, 2] (by decide) rfl
  refine W.vret hx hb hr (fun tt ht hW => ⟨⟨(), rfl, ?_, by rw [ht]; exact hP, va_K.moved hW.alike hK, hD⟩, hS.F ht⟩) hS.2.2 dX2_dropTurn_5
  trivial

set_option maxHeartbeats 400000 in
set_option maxRecDepth 100000 in
theorem c_X2_dropMarble (l : Launch) (D : va_G) (cI cJ : ClassId) (sz : Nat) (h0 lc lt : Nat) (cs ts : Nat → Int32) (k : Nat) (hk : k ≤ 36) (hk2 : 0 < k) : Met l yX2_dropMarble wsX2_dropMarble ({ frames := 0, cells := 0, slots := 0, locals := 0 } : Room) (va_Pc [.ref h0] (pv_C D cI cJ [(h0, .inr (0, [.ref lc, .ref lt, .int (nI k)])), (lc, .inl (cI, 36, .inl cs)), (lt, .inl (cI, 36, .inl ts))] sz)) (va_Qv (fun (u : Unit) => True) (fun (u : Unit) => pv_B D cI cJ (va_A [(h0, .inr (0, [.ref lc, .ref lt, .int (nI k)])), (lc, .inl (cI, 36, .inl cs)), (lt, .inl (cI, 36, .inl ts))] sz) [(h0, .inr (0, [.ref lc, .ref lt, .int (nI (k - 1))])), (lc, .inl (cI, 36, .inl cs)), (lt, .inl (cI, 36, .inl ts))]) (va_A [(h0, .inr (0, [.ref lc, .ref lt, .int (nI k)])), (lc, .inl (cI, 36, .inl cs)), (lt, .inl (cI, 36, .inl ts))] sz)) 0 0 (va_A [(h0, .inr (0, [.ref lc, .ref lt, .int (nI k)])), (lc, .inl (cI, 36, .inl cs)), (lt, .inl (cI, 36, .inl ts))] sz) := by
  refine Met.ofW (cc := cX2_dropMarble) (maxL := 1) (ret := none) (by decide) rfl ?_
  intro p e s m args below meth c s₁ B hml hv
  obtain ⟨rfl, rfl, hP, hK, hD0⟩ := hv
  have hx := B.exec
  have hb := B.bytes
  have hr := B.returns
  have hts := atoms_spec (ws := wsX2_dropMarble) B.pre
  have hown : s.vm.findClass RX2 = some m.cls := findClass_of_methodNamed B.named
  have hlocks := B.notSynchronized
  have hD := hD0.self (sz := s.heap.size)
  generalize hAe : va_A [(h0, .inr (0, [.ref lc, .ref lt, .int (nI k)])), (lc, .inl (cI, 36, .inl cs)), (lt, .inl (cI, 36, .inl ts))] s.heap.size = A at hD ⊢
  have hA : ∀ q : Nat, s.heap.size ≤ q → A q := fun q h => by rw [← hAe]; exact Or.inr h
  have hS : va_S A s.heap s.heap [] := va_S.rf
  have hinX2 : ∀ w ∈ wsX20, w ∈ wsX2_dropMarble := by decide +kernel
  have hfl18 : (Cond.fieldLink RX2 18 "Twistquad$MoveLog" "count" "I").before ([.ref h0] : List Value).toArray s = true := hts _ (by decide +kernel)
  have hl := lv_entry ([.ref h0]) (n := 1) (Nat.le_of_ble_eq_true rfl)
  rw [lg_entry_eq]
  generalize (lg_sl ([.ref h0]) ++ List.replicate (1 - (lg_sl ([.ref h0])).length) Slot.unset).toArray = ls at hl ⊢
  have hl : lv_has ls 1 [(0, .ref h0)] := hl
  refine lv_aload_n hx hb dX2_dropMarble_0 rfl (lv_at hl 0 rfl) ?_
  refine va_get (D := D) (ci := 0) (v := .int (nI k)) (C := RX2) (T := TX2) (N := 3) hx hb hts hinX2 hown hK hP 0 rfl rfl 2 (by decide) hfl18 (fun _ h9 => h9) rfl dX2_dropMarble_1 ?_
  refine lv_if_le (tgt := 17) hx hb dX2_dropMarble_4 (by decide) (fun c4 => ?_) (fun c4 => ?_)
  · have c4 : k ≤ 0 := (nq_le (a := k) (b := 0) (by omega) (by omega)).mp c4
    omega
  · have c4 : ¬ k ≤ 0 := _root_.mt (nq_le (a := k) (b := 0) (by omega) (by omega)).mpr c4
    refine lv_aload_n hx hb dX2_dropMarble_7 rfl (lv_at hl 0 rfl) ?_
    refine lv_dup hx hb dX2_dropMarble_8 rfl ?_
    refine va_get (D := D) (ci := 0) (v := .int (nI k)) (C := RX2) (T := TX2) (N := 3) hx hb hts hinX2 hown hK hP 0 rfl rfl 2 (by decide) hfl18 (fun _ h9 => h9) rfl dX2_dropMarble_9 ?_
    refine lv_iconst (v := 1) hx hb dX2_dropMarble_12 (by decide) ?_
    refine lv_isub hx hb dX2_dropMarble_13 ?_
    refine pk_ti (y := nI (k - 1)) (pk_sub (a := k) (b := 1) (by omega)) ?_
    refine va_put (D := D) (ci := 0) (v := .int (nI (k - 1))) (ty := .int) (C := RX2) (T := TX2) (N := 3) hx hb hts hinX2 tyX2 tyX2_ok nmX2 hown hK hP hD hS 0 rfl rfl 2 (by decide) hfl18 (fun _ h9 => h9) rfl (by decide +kernel) rfl rfl (Nat.le_of_ble_eq_true rfl) dX2_dropMarble_14 (fun H locs hP hD hS => ?_)
    have hP : va_P D vwCl [(h0, .inr (0, [.ref lc, .ref lt, .int (nI (k - 1))])), (lc, .inl (cI, 36, .inl cs)), (lt, .inl (cI, 36, .inl ts))] H := hP
    have hD : va_D A [(h0, .inr (0, [.ref lc, .ref lt, .int (nI (k - 1))])), (lc, .inl (cI, 36, .inl cs)), (lt, .inl (cI, 36, .inl ts))] := hD
    refine W.vret hx hb hr (fun tt ht hW => ⟨⟨(), rfl, ?_, by rw [ht]; exact hP, va_K.moved hW.alike hK, hD⟩, hS.F ht⟩) hS.2.2 dX2_dropMarble_17
    trivial
theorem slot_in (a : Int64) : slotN a < 1024 := Nat.mod_lt _ (by decide)

set_option maxHeartbeats 400000 in
set_option maxRecDepth 100000 in
theorem c_X5_holds (l : Launch) (D : va_G) (cI cJ : ClassId) (h0 vf vv : Nat) (fm : Nat → Int64) (vl : Nat → Int32) (a : Int64) : Met l yX5_holds wsX5_holds ({ frames := 1, cells := 0, slots := 0, locals := 22 } : Room) (va_Pc [.ref h0, .long a] (px_W D [(h0, .inr (2, [.ref vf, .ref vv])), (vf, .inl (cJ, 1024, .inr (.inl fm))), (vv, .inl (cI, 1024, .inl vl))] [(cI, .int), (cJ, .long)])) (vp_Si (fun r => r = if fm (slotN a) = a then 1 else 0)) 0 0 (fun _ => False) := by
  refine Met.ofW (cc := cX5_holds) (maxL := 3) (ret := (some .boolean)) (by decide) rfl ?_
  intro p e s m args below meth c s₁ B hml hv
  obtain ⟨rfl, hP, hK⟩ := hv
  have hx := B.exec
  have hb := B.bytes
  have hr := B.returns
  have hts := atoms_spec (ws := wsX5_holds) B.pre
  have hown : s.vm.findClass RX5 = some m.cls := findClass_of_methodNamed B.named
  have hlocks := B.notSynchronized
  have hinX5 : ∀ w ∈ wsX50, w ∈ wsX5_holds := by decide +kernel
  have hfl9 : (Cond.fieldLink RX5 9 "Twistquad$ValueTable" "forms" "[J").before ([.ref h0, .long a] : List Value).toArray s = true := hts _ (by decide +kernel)
  have hl := lv_entry ([.ref h0, .long a]) (n := 3) (Nat.le_of_ble_eq_true rfl)
  rw [lg_entry_eq]
  generalize (lg_sl ([.ref h0, .long a]) ++ List.replicate (3 - (lg_sl ([.ref h0, .long a])).length) Slot.unset).toArray = ls at hl ⊢
  have hl : lv_has ls 3 [(0, .ref h0), (1, .long a)] := hl
  refine lv_aload_n hx hb dX5_holds_0 rfl (lv_at hl 0 rfl) ?_
  refine va_get (D := D) (ci := 2) (v := .ref vf) (C := RX5) (T := TX5) (N := 2) hx hb hts hinX5 hown hK hP 0 rfl rfl 0 (by decide) hfl9 (fun _ h9 => h9) rfl dX5_holds_1 ?_
  refine lv_lload_n hx hb dX5_holds_4 rfl (lv_at hl 1 rfl) ?_
  refine vp_callSi (W.runS (As := [.long a]) (rest := [.ref vf]) ⟨hx, hb, hml, hown, hts⟩ (c_X5_slotOf l a) (va_cwS 1 hts gX5_holds_X5_slotOf rfl rfl rfl (by decide +kernel) ⟨Nat.le_of_ble_eq_true rfl, Nat.le_of_ble_eq_true rfl⟩) ⟨px_blind0, fun U hU hW => ⟨rfl, trivial⟩⟩ rfl rfl hl.1 rfl (lv_room (Nat.le_of_ble_eq_true rfl)) dX5_holds_5 ⟨(Nat.le_of_ble_eq_true rfl), (Nat.le_of_ble_eq_true rfl)⟩) (fun r5 er5 => ?_)
  obtain rfl := er5.symm
  have hsl := slot_in a
  refine va_lald hx hb hK hP 1 1 rfl rfl (vp_in_nI (n := (slotN a)) (N := 1024) (by omega) (by decide)) dX5_holds_8 ?_
  refine pk_tl (y := (fm (slotN a))) (congrArg fm (pk_cl (slotN a))) ?_
  refine lv_lload_n hx hb dX5_holds_9 rfl (lv_at hl 1 rfl) ?_
  refine W.lcmp hx hb dX5_holds_10 ?_
  refine lv_if_ne (tgt := 18) hx hb dX5_holds_11 (by decide) (fun c11 => ?_) (fun c11 => ?_)
  · rw [lg_cmp_eq] at c11
    refine lv_iconst (v := 0) hx hb dX5_holds_18 (by decide) ?_
    refine W.zret (v := 0) hx hb hr (rfl) (fun tt ht hW => ⟨0, rfl, ?_, ht⟩) (fun _ h => nomatch h) dX5_holds_19
    first | rw [if_pos c11] | rw [if_neg c11]
  · rw [lg_cmp_eq] at c11
    refine lv_iconst (v := 1) hx hb dX5_holds_14 (by decide) ?_
    refine lv_goto (tgt := 19) hx hb dX5_holds_15 (by decide) ?_
    refine W.zret (v := 1) hx hb hr (rfl) (fun tt ht hW => ⟨1, rfl, ?_, ht⟩) (fun _ h => nomatch h) dX5_holds_19
    first | rw [if_pos c11] | rw [if_neg c11]

set_option maxHeartbeats 400000 in
set_option maxRecDepth 100000 in
theorem c_X5_valueOf (l : Launch) (D : va_G) (cI cJ : ClassId) (h0 vf vv : Nat) (fm : Nat → Int64) (vl : Nat → Int32) (a : Int64) : Met l yX5_valueOf wsX5_valueOf ({ frames := 1, cells := 0, slots := 0, locals := 22 } : Room) (va_Pc [.ref h0, .long a] (px_W D [(h0, .inr (2, [.ref vf, .ref vv])), (vf, .inl (cJ, 1024, .inr (.inl fm))), (vv, .inl (cI, 1024, .inl vl))] [(cI, .int), (cJ, .long)])) (vp_Si (fun r => r = vl (slotN a))) 0 0 (fun _ => False) := by
  refine Met.ofW (cc := cX5_valueOf) (maxL := 3) (ret := (some .int)) (by decide) rfl ?_
  intro p e s m args below meth c s₁ B hml hv
  obtain ⟨rfl, hP, hK⟩ := hv
  have hx := B.exec
  have hb := B.bytes
  have hr := B.returns
  have hts := atoms_spec (ws := wsX5_valueOf) B.pre
  have hown : s.vm.findClass RX5 = some m.cls := findClass_of_methodNamed B.named
  have hlocks := B.notSynchronized
  have hinX5 : ∀ w ∈ wsX50, w ∈ wsX5_valueOf := by decide +kernel
  have hfl13 : (Cond.fieldLink RX5 13 "Twistquad$ValueTable" "values" "[I").before ([.ref h0, .long a] : List Value).toArray s = true := hts _ (by decide +kernel)
  have hl := lv_entry ([.ref h0, .long a]) (n := 3) (Nat.le_of_ble_eq_true rfl)
  rw [lg_entry_eq]
  generalize (lg_sl ([.ref h0, .long a]) ++ List.replicate (3 - (lg_sl ([.ref h0, .long a])).length) Slot.unset).toArray = ls at hl ⊢
  have hl : lv_has ls 3 [(0, .ref h0), (1, .long a)] := hl
  refine lv_aload_n hx hb dX5_valueOf_0 rfl (lv_at hl 0 rfl) ?_
  refine va_get (D := D) (ci := 2) (v := .ref vv) (C := RX5) (T := TX5) (N := 2) hx hb hts hinX5 hown hK hP 0 rfl rfl 1 (by decide) hfl13 (fun _ h9 => h9) rfl dX5_valueOf_1 ?_
  refine lv_lload_n hx hb dX5_valueOf_4 rfl (lv_at hl 1 rfl) ?_
  refine vp_callSi (W.runS (As := [.long a]) (rest := [.ref vv]) ⟨hx, hb, hml, hown, hts⟩ (c_X5_slotOf l a) (va_cwS 1 hts gX5_valueOf_X5_slotOf rfl rfl rfl (by decide +kernel) ⟨Nat.le_of_ble_eq_true rfl, Nat.le_of_ble_eq_true rfl⟩) ⟨px_blind0, fun U hU hW => ⟨rfl, trivial⟩⟩ rfl rfl hl.1 rfl (lv_room (Nat.le_of_ble_eq_true rfl)) dX5_valueOf_5 ⟨(Nat.le_of_ble_eq_true rfl), (Nat.le_of_ble_eq_true rfl)⟩) (fun r5 er5 => ?_)
  obtain rfl := er5.symm
  have hsl := slot_in a
  refine va_iald hx hb hK hP 2 0 rfl rfl (vp_in_nI (n := (slotN a)) (N := 1024) (by omega) (by decide)) dX5_valueOf_8 ?_
  refine pk_ti (y := (vl (slotN a))) (congrArg vl (pk_cl (slotN a))) ?_
  refine W.iret (v := (vl (slotN a))) hx hb hr (fun tt ht hW => ⟨(vl (slotN a)), rfl, ?_, ht⟩) (fun _ h => nomatch h) dX5_valueOf_9
  rfl

set_option maxHeartbeats 400000 in
set_option maxRecDepth 100000 in
theorem c_X5_keep (l : Launch) (D : va_G) (cI cJ : ClassId) (sz : Nat) (h0 vf vv : Nat) (fm : Nat → Int64) (vl : Nat → Int32) (a : Int64) (v : Int32) : Met l yX5_keep wsX5_keep ({ frames := 1, cells := 0, slots := 0, locals := 22 } : Room) (va_Pc [.ref h0, .long a, .int v] (pv_C D cI cJ [(h0, .inr (2, [.ref vf, .ref vv])), (vf, .inl (cJ, 1024, .inr (.inl fm))), (vv, .inl (cI, 1024, .inl vl))] sz)) (va_Qv (fun (u : Unit) => True) (fun (u : Unit) => pv_B D cI cJ (va_A [(h0, .inr (2, [.ref vf, .ref vv])), (vf, .inl (cJ, 1024, .inr (.inl fm))), (vv, .inl (cI, 1024, .inl vl))] sz) [(h0, .inr (2, [.ref vf, .ref vv])), (vf, .inl (cJ, 1024, .inr (.inl (vp_updL fm (slotN a) a)))), (vv, .inl (cI, 1024, .inl (upd vl (slotN a) v)))]) (va_A [(h0, .inr (2, [.ref vf, .ref vv])), (vf, .inl (cJ, 1024, .inr (.inl fm))), (vv, .inl (cI, 1024, .inl vl))] sz)) 0 0 (va_A [(h0, .inr (2, [.ref vf, .ref vv])), (vf, .inl (cJ, 1024, .inr (.inl fm))), (vv, .inl (cI, 1024, .inl vl))] sz) := by
  refine Met.ofW (cc := cX5_keep) (maxL := 5) (ret := none) (by decide) rfl ?_
  intro p e s m args below meth c s₁ B hml hv
  obtain ⟨rfl, rfl, hP, hK, hD0⟩ := hv
  have hx := B.exec
  have hb := B.bytes
  have hr := B.returns
  have hts := atoms_spec (ws := wsX5_keep) B.pre
  have hown : s.vm.findClass RX5 = some m.cls := findClass_of_methodNamed B.named
  have hlocks := B.notSynchronized
  have hD := hD0.self (sz := s.heap.size)
  generalize hAe : va_A [(h0, .inr (2, [.ref vf, .ref vv])), (vf, .inl (cJ, 1024, .inr (.inl fm))), (vv, .inl (cI, 1024, .inl vl))] s.heap.size = A at hD ⊢
  have hA : ∀ q : Nat, s.heap.size ≤ q → A q := fun q h => by rw [← hAe]; exact Or.inr h
  have hS : va_S A s.heap s.heap [] := va_S.rf
  have hinX5 : ∀ w ∈ wsX50, w ∈ wsX5_keep := by decide +kernel
  have hfl9 : (Cond.fieldLink RX5 9 "Twistquad$ValueTable" "forms" "[J").before ([.ref h0, .long a, .int v] : List Value).toArray s = true := hts _ (by decide +kernel)
  have hfl13 : (Cond.fieldLink RX5 13 "Twistquad$ValueTable" "values" "[I").before ([.ref h0, .long a, .int v] : List Value).toArray s = true := hts _ (by decide +kernel)
  have hl := lv_entry ([.ref h0, .long a, .int v]) (n := 5) (Nat.le_of_ble_eq_true rfl)
  rw [lg_entry_eq]
  generalize (lg_sl ([.ref h0, .long a, .int v]) ++ List.replicate (5 - (lg_sl ([.ref h0, .long a, .int v])).length) Slot.unset).toArray = ls at hl ⊢
  have hl : lv_has ls 5 [(0, .ref h0), (1, .long a), (3, .int v)] := hl
  refine lv_lload_n hx hb dX5_keep_0 rfl (lv_at hl 1 rfl) ?_
  refine vp_callSi (W.runS (As := [.long a]) (rest := []) ⟨hx, hb, hml, hown, hts⟩ (c_X5_slotOf l a) (va_cwS 1 hts gX5_keep_X5_slotOf rfl rfl rfl (by decide +kernel) ⟨Nat.le_of_ble_eq_true rfl, Nat.le_of_ble_eq_true rfl⟩) ⟨px_blind0, fun U hU hW => ⟨rfl, trivial⟩⟩ rfl rfl hl.1 rfl (lv_room (Nat.le_of_ble_eq_true rfl)) dX5_keep_1 ⟨(Nat.le_of_ble_eq_true rfl), (Nat.le_of_ble_eq_true rfl)⟩) (fun r1 er1 => ?_)
  obtain rfl := er1.symm
  have hsl := slot_in a
  refine lv_istore (lv' := [(4, .int (nI (slotN a))), (0, .ref h0), (1, .long a), (3, .int v)]) hx hb dX5_keep_4 hl (by decide) rfl (fun ls hl => ?_)
  refine lv_aload_n hx hb dX5_keep_6 rfl (lv_at hl 1 rfl) ?_
  refine va_get (D := D) (ci := 2) (v := .ref vf) (C := RX5) (T := TX5) (N := 2) hx hb hts hinX5 hown hK hP 0 rfl rfl 0 (by decide) hfl9 (fun _ h9 => h9) rfl dX5_keep_7 ?_
  refine lv_iload hx hb dX5_keep_10 (lv_at hl 0 rfl) ?_
  refine lv_lload_n hx hb dX5_keep_12 rfl (lv_at hl 2 rfl) ?_
  refine va_last hx hb hK hP hD hS 1 1 rfl rfl (vp_in_nI (n := (slotN a)) (N := 1024) (by omega) (by decide)) dX5_keep_13 (fun H locs hP hD hS => ?_)
  have hu13 : ((nI (slotN a)) : Int32).toNatClampNeg = slotN a := pk_cl (slotN a)
  rw [hu13] at hP hD
  have hP : va_P D vwCl [(h0, .inr (2, [.ref vf, .ref vv])), (vf, .inl (cJ, 1024, .inr (.inl (vp_updL fm (slotN a) a)))), (vv, .inl (cI, 1024, .inl vl))] H := hP
  have hD : va_D A [(h0, .inr (2, [.ref vf, .ref vv])), (vf, .inl (cJ, 1024, .inr (.inl (vp_updL fm (slotN a) a)))), (vv, .inl (cI, 1024, .inl vl))] := hD
  refine lv_aload_n hx hb dX5_keep_14 rfl (lv_at hl 1 rfl) ?_
  refine va_get (D := D) (ci := 2) (v := .ref vv) (C := RX5) (T := TX5) (N := 2) hx hb hts hinX5 hown hK hP 0 rfl rfl 1 (by decide) hfl13 (fun _ h9 => h9) rfl dX5_keep_15 ?_
  refine lv_iload hx hb dX5_keep_18 (lv_at hl 0 rfl) ?_
  refine lv_iload_n hx hb dX5_keep_20 rfl (lv_at hl 3 rfl) ?_
  refine va_iast hx hb hK hP hD hS 2 0 rfl rfl (vp_in_nI (n := (slotN a)) (N := 1024) (by omega) (by decide)) dX5_keep_21 (fun H locs hP hD hS => ?_)
  have hu21 : ((nI (slotN a)) : Int32).toNatClampNeg = slotN a := pk_cl (slotN a)
  rw [hu21] at hP hD
  have hP : va_P D vwCl [(h0, .inr (2, [.ref vf, .ref vv])), (vf, .inl (cJ, 1024, .inr (.inl (vp_updL fm (slotN a) a)))), (vv, .inl (cI, 1024, .inl (upd vl (slotN a) v)))] H := hP
  have hD : va_D A [(h0, .inr (2, [.ref vf, .ref vv])), (vf, .inl (cJ, 1024, .inr (.inl (vp_updL fm (slotN a) a)))), (vv, .inl (cI, 1024, .inl (upd vl (slotN a) v)))] := hD
  refine W.vret hx hb hr (fun tt ht hW => ⟨⟨(), rfl, ?_, by rw [ht]; exact hP, va_K.moved hW.alike hK, hD⟩, hS.F ht⟩) hS.2.2 dX5_keep_22
  trivial
