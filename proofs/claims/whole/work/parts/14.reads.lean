def cempty (f g : Int64) : Int64 := 68719476735 &&& ((f ||| g) ^^^ (-1))
def cside (n : Nat) (mt : Int32) : Int32 := if (n - (if mt = 0 then 0 else 1)) % 2 = 0 then 1 else 2
theorem cside1 {n : Nat} {mt : Int32} (h : mt = 0) (h2 : n % 2 = 0) : cside n mt = 1 := by unfold cside; rw [if_pos h, if_pos (by omega)]
theorem cside2 {n : Nat} {mt : Int32} (h : mt = 0) (h2 : ¬ n % 2 = 0) : cside n mt = 2 := by unfold cside; rw [if_pos h, if_neg (by omega)]
theorem cside3 {n : Nat} {mt : Int32} (h : ¬ mt = 0) (h2 : (n - 1) % 2 = 0) : cside n mt = 1 := by unfold cside; rw [if_neg h, if_pos h2]
theorem cside4 {n : Nat} {mt : Int32} (h : ¬ mt = 0) (h2 : ¬ (n - 1) % 2 = 0) : cside n mt = 2 := by unfold cside; rw [if_neg h, if_neg h2]
def cown (f g : Int64) (mt : Int32) : Int64 := if cside (pop (f ||| g)) mt = 1 then f else g
def coth (f g : Int64) (mt : Int32) : Int64 := if (if cside (pop (f ||| g)) mt = 1 then (2 : Int32) else 1) = 1 then f else g
def cjudge (f g : Int64) : Int32 := if cline f = true then (if cline g = true then 3 else 1) else if cline g = true then 2 else if cempty f g = 0 then 3 else 0

set_option maxHeartbeats 400000 in
set_option maxRecDepth 100000 in
theorem c_X6_marbles (l : Launch) (D : va_G) (cI cJ : ClassId) (h0 lg fs ps : Nat) (fa fb : Int64) (mt re : Int32)  : Met l yX6_marbles wsX6_marbles ({ frames := 1, cells := 0, slots := 0, locals := 21 } : Room) (va_Pc [.ref h0] (px_W D [(h0, .inr (3, [.ref lg, .ref fs, .ref ps, .long fa, .long fb, .int mt, .int re]))] [(cI, .int), (cJ, .long)])) (vp_Si (fun r => r = nI (pop (fa ||| fb)))) 0 0 (fun _ => False) := by
  refine Met.ofW (cc := cX6_marbles) (maxL := 1) (ret := (some .int)) (by decide) rfl ?_
  intro p e s m args below meth c s₁ B hml hv
  obtain ⟨rfl, hP, hK⟩ := hv
  have hx := B.exec
  have hb := B.bytes
  have hr := B.returns
  have hts := atoms_spec (ws := wsX6_marbles) B.pre
  have hown : s.vm.findClass RX6 = some m.cls := findClass_of_methodNamed B.named
  have hlocks := B.notSynchronized
  have hinX6 : ∀ w ∈ wsX60, w ∈ wsX6_marbles := by decide +kernel
  have hfl49 : (Cond.fieldLink RX6 49 "Twistquad" "first" "J").before ([.ref h0] : List Value).toArray s = true := hts _ (by decide +kernel)
  have hfl57 : (Cond.fieldLink RX6 57 "Twistquad" "second" "J").before ([.ref h0] : List Value).toArray s = true := hts _ (by decide +kernel)
  have hl := lv_entry ([.ref h0]) (n := 1) (Nat.le_of_ble_eq_true rfl)
  rw [lg_entry_eq]
  generalize (lg_sl ([.ref h0]) ++ List.replicate (1 - (lg_sl ([.ref h0])).length) Slot.unset).toArray = ls at hl ⊢
  have hl : lv_has ls 1 [(0, .ref h0)] := hl
  refine lv_aload_n hx hb dX6_marbles_0 rfl (lv_at hl 0 rfl) ?_
  refine va_get (D := D) (ci := 3) (v := .long fa) (C := RX6) (T := TX6) (N := 7) hx hb hts hinX6 hown hK hP 0 rfl rfl 3 (by decide) hfl49 (fun _ h9 => h9) rfl dX6_marbles_1 ?_
  refine lv_aload_n hx hb dX6_marbles_4 rfl (lv_at hl 0 rfl) ?_
  refine va_get (D := D) (ci := 3) (v := .long fb) (C := RX6) (T := TX6) (N := 7) hx hb hts hinX6 hown hK hP 0 rfl rfl 4 (by decide) hfl57 (fun _ h9 => h9) rfl dX6_marbles_5 ?_
  refine lv_lor hx hb dX6_marbles_8 ?_
  refine lv_topl (fun x8 ex8 => ?_)
  refine vp_callSi (W.runS (As := [.long x8]) (rest := []) ⟨hx, hb, hml, hown, hts⟩ (c_J13_bitCount_95d88 l x8) (va_cwS 1 hts gX6_marbles_J13_bitCount_95d88 rfl rfl rfl (by decide +kernel) ⟨Nat.le_of_ble_eq_true rfl, Nat.le_of_ble_eq_true rfl⟩) ⟨px_blind0, fun U hU hW => ⟨rfl, trivial⟩⟩ rfl rfl hl.1 rfl (lv_room (Nat.le_of_ble_eq_true rfl)) dX6_marbles_9 ⟨(Nat.le_of_ble_eq_true rfl), (Nat.le_of_ble_eq_true rfl)⟩) (fun r9 er9 => ?_)
  obtain rfl := er9.symm
  refine W.iret (v := (nI (pop x8))) hx hb hr (fun tt ht hW => ⟨(nI (pop x8)), rfl, ?_, ht⟩) (fun _ h => nomatch h) dX6_marbles_12
  obtain rfl := ex8.symm; rfl

set_option maxHeartbeats 400000 in
set_option maxRecDepth 100000 in
theorem c_X6_emptyCells (l : Launch) (D : va_G) (cI cJ : ClassId) (h0 lg fs ps : Nat) (fa fb : Int64) (mt re : Int32)  : Met l yX6_emptyCells wsX6_emptyCells ({ frames := 0, cells := 0, slots := 0, locals := 0 } : Room) (va_Pc [.ref h0] (px_W D [(h0, .inr (3, [.ref lg, .ref fs, .ref ps, .long fa, .long fb, .int mt, .int re]))] [(cI, .int), (cJ, .long)])) (vp_Sl (fun r => r = cempty fa fb)) 0 0 (fun _ => False) := by
  refine Met.ofW (cc := cX6_emptyCells) (maxL := 1) (ret := (some .long)) (by decide) rfl ?_
  intro p e s m args below meth c s₁ B hml hv
  obtain ⟨rfl, hP, hK⟩ := hv
  have hx := B.exec
  have hb := B.bytes
  have hr := B.returns
  have hts := atoms_spec (ws := wsX6_emptyCells) B.pre
  have hown : s.vm.findClass RX6 = some m.cls := findClass_of_methodNamed B.named
  have hlocks := B.notSynchronized
  have hinX6 : ∀ w ∈ wsX60, w ∈ wsX6_emptyCells := by decide +kernel
  have hfl49 : (Cond.fieldLink RX6 49 "Twistquad" "first" "J").before ([.ref h0] : List Value).toArray s = true := hts _ (by decide +kernel)
  have hfl57 : (Cond.fieldLink RX6 57 "Twistquad" "second" "J").before ([.ref h0] : List Value).toArray s = true := hts _ (by decide +kernel)
  have hl := lv_entry ([.ref h0]) (n := 1) (Nat.le_of_ble_eq_true rfl)
  rw [lg_entry_eq]
  generalize (lg_sl ([.ref h0]) ++ List.replicate (1 - (lg_sl ([.ref h0])).length) Slot.unset).toArray = ls at hl ⊢
  have hl : lv_has ls 1 [(0, .ref h0)] := hl
  refine lv_ldc2 (v := 68719476735) hx hb hown (hts (.constantLong RX6 239 (68719476735)) (by decide +kernel)) dX6_emptyCells_0 ?_
  refine lv_aload_n hx hb dX6_emptyCells_3 rfl (lv_at hl 0 rfl) ?_
  refine va_get (D := D) (ci := 3) (v := .long fa) (C := RX6) (T := TX6) (N := 7) hx hb hts hinX6 hown hK hP 0 rfl rfl 3 (by decide) hfl49 (fun _ h9 => h9) rfl dX6_emptyCells_4 ?_
  refine lv_aload_n hx hb dX6_emptyCells_7 rfl (lv_at hl 0 rfl) ?_
  refine va_get (D := D) (ci := 3) (v := .long fb) (C := RX6) (T := TX6) (N := 7) hx hb hts hinX6 hown hK hP 0 rfl rfl 4 (by decide) hfl57 (fun _ h9 => h9) rfl dX6_emptyCells_8 ?_
  refine lv_lor hx hb dX6_emptyCells_11 ?_
  refine lv_topl (fun x11 ex11 => ?_)
  refine lv_ldc2 (v := (-1)) hx hb hown (hts (.constantLong RX6 126 (-1)) (by decide +kernel)) dX6_emptyCells_12 ?_
  refine lv_lxor hx hb dX6_emptyCells_15 ?_
  refine lv_topl (fun x15 ex15 => ?_)
  refine lv_land hx hb dX6_emptyCells_16 ?_
  refine lv_topl (fun x16 ex16 => ?_)
  refine W.lret (v := x16) hx hb hr (fun tt ht hW => ⟨x16, rfl, ?_, ht⟩) (fun _ h => nomatch h) dX6_emptyCells_17
  obtain rfl := ex11.symm; obtain rfl := ex15.symm; obtain rfl := ex16.symm; rfl

set_option maxHeartbeats 400000 in
set_option maxRecDepth 100000 in
theorem c_X6_isEmpty (l : Launch) (D : va_G) (cI cJ : ClassId) (h0 lg fs ps : Nat) (fa fb : Int64) (mt re : Int32) (v : Int32) : Met l yX6_isEmpty wsX6_isEmpty ({ frames := 1, cells := 0, slots := 0, locals := 20 } : Room) (va_Pc [.ref h0, .int v] (px_W D [(h0, .inr (3, [.ref lg, .ref fs, .ref ps, .long fa, .long fb, .int mt, .int re]))] [(cI, .int), (cJ, .long)])) (vp_Si (fun r => r = if ¬ (cempty fa fb &&& jshl 1 v) = 0 then 1 else 0)) 0 0 (fun _ => False) := by
  refine Met.ofW (cc := cX6_isEmpty) (maxL := 2) (ret := (some .boolean)) (by decide) rfl ?_
  intro p e s m args below meth c s₁ B hml hv
  obtain ⟨rfl, hP, hK⟩ := hv
  have hx := B.exec
  have hb := B.bytes
  have hr := B.returns
  have hts := atoms_spec (ws := wsX6_isEmpty) B.pre
  have hown : s.vm.findClass RX6 = some m.cls := findClass_of_methodNamed B.named
  have hlocks := B.notSynchronized
  have hl := lv_entry ([.ref h0, .int v]) (n := 2) (Nat.le_of_ble_eq_true rfl)
  rw [lg_entry_eq]
  generalize (lg_sl ([.ref h0, .int v]) ++ List.replicate (2 - (lg_sl ([.ref h0, .int v])).length) Slot.unset).toArray = ls at hl ⊢
  have hl : lv_has ls 2 [(0, .ref h0), (1, .int v)] := hl
  refine lv_aload_n hx hb dX6_isEmpty_0 rfl (lv_at hl 0 rfl) ?_
  refine vp_callSl (W.runV (As := []) (rest := []) ⟨hx, hb, hml, hown, hts⟩ (c_X6_emptyCells l D cI cJ h0 lg fs ps fa fb mt re ) (cwV 0 hts gX6_isEmpty_X6_emptyCells rfl rfl rfl (by decide +kernel) ⟨Nat.le_of_ble_eq_true rfl, Nat.le_of_ble_eq_true rfl⟩) ⟨px_blindW, va_recv hK hP (ci := 3) (q0 := 0) rfl rfl, fun U hU hW => ⟨rfl, by rw [hU]; exact hP.sub (ws' := [(h0, .inr (3, [.ref lg, .ref fs, .ref ps, .long fa, .long fb, .int mt, .int re]))]) [0] rfl, va_K.moved hW.alike hK⟩⟩ rfl rfl hl.1 rfl (lv_room (Nat.le_of_ble_eq_true rfl)) dX6_isEmpty_1 ⟨(Nat.le_of_ble_eq_true rfl), (Nat.le_of_ble_eq_true rfl)⟩) (fun r1 er1 => ?_)
  obtain rfl := er1.symm
  refine lv_iload_n hx hb dX6_isEmpty_4 rfl (lv_at hl 1 rfl) ?_
  refine vp_callSl (W.runS (As := [.int v]) (rest := [.long (cempty fa fb)]) ⟨hx, hb, hml, hown, hts⟩ (c_X6_bitOf l v) (va_cwS 1 hts gX6_isEmpty_X6_bitOf rfl rfl rfl (by decide +kernel) ⟨Nat.le_of_ble_eq_true rfl, Nat.le_of_ble_eq_true rfl⟩) ⟨px_blind0, fun U hU hW => ⟨rfl, trivial⟩⟩ rfl rfl hl.1 rfl (lv_room (Nat.le_of_ble_eq_true rfl)) dX6_isEmpty_5 ⟨(Nat.le_of_ble_eq_true rfl), (Nat.le_of_ble_eq_true rfl)⟩) (fun r5 er5 => ?_)
  obtain rfl := er5.symm
  refine lv_land hx hb dX6_isEmpty_8 ?_
  refine lv_topl (fun x8 ex8 => ?_)
  refine lv_lconst (v := 0) hx hb dX6_isEmpty_9 (by decide) ?_
  refine W.lcmp hx hb dX6_isEmpty_10 ?_
  refine lv_if_eq (tgt := 18) hx hb dX6_isEmpty_11 (by decide) (fun c11 => ?_) (fun c11 => ?_)
  · rw [lg_cmp_eq] at c11
    refine lv_iconst (v := 0) hx hb dX6_isEmpty_18 (by decide) ?_
    refine W.zret (v := 0) hx hb hr (rfl) (fun tt ht hW => ⟨0, rfl, ?_, ht⟩) (fun _ h => nomatch h) dX6_isEmpty_19
    obtain rfl := ex8.symm; first | rw [if_pos c11] | rw [if_neg (fun h => h c11)]
  · rw [lg_cmp_eq] at c11
    refine lv_iconst (v := 1) hx hb dX6_isEmpty_14 (by decide) ?_
    refine lv_goto (tgt := 19) hx hb dX6_isEmpty_15 (by decide) ?_
    refine W.zret (v := 1) hx hb hr (rfl) (fun tt ht hW => ⟨1, rfl, ?_, ht⟩) (fun _ h => nomatch h) dX6_isEmpty_19
    obtain rfl := ex8.symm; first | rw [if_pos c11] | rw [if_neg (fun h => h c11)]

set_option maxHeartbeats 400000 in
set_option maxRecDepth 100000 in
theorem c_X6_marblesOf (l : Launch) (D : va_G) (cI cJ : ClassId) (h0 lg fs ps : Nat) (fa fb : Int64) (mt re : Int32) (v : Int32) : Met l yX6_marblesOf wsX6_marblesOf ({ frames := 0, cells := 0, slots := 0, locals := 0 } : Room) (va_Pc [.ref h0, .int v] (px_W D [(h0, .inr (3, [.ref lg, .ref fs, .ref ps, .long fa, .long fb, .int mt, .int re]))] [(cI, .int), (cJ, .long)])) (vp_Sl (fun r => r = if v = 1 then fa else fb)) 0 0 (fun _ => False) := by
  refine Met.ofW (cc := cX6_marblesOf) (maxL := 2) (ret := (some .long)) (by decide) rfl ?_
  intro p e s m args below meth c s₁ B hml hv
  obtain ⟨rfl, hP, hK⟩ := hv
  have hx := B.exec
  have hb := B.bytes
  have hr := B.returns
  have hts := atoms_spec (ws := wsX6_marblesOf) B.pre
  have hown : s.vm.findClass RX6 = some m.cls := findClass_of_methodNamed B.named
  have hlocks := B.notSynchronized
  have hinX6 : ∀ w ∈ wsX60, w ∈ wsX6_marblesOf := by decide +kernel
  have hfl57 : (Cond.fieldLink RX6 57 "Twistquad" "second" "J").before ([.ref h0, .int v] : List Value).toArray s = true := hts _ (by decide +kernel)
  have hfl49 : (Cond.fieldLink RX6 49 "Twistquad" "first" "J").before ([.ref h0, .int v] : List Value).toArray s = true := hts _ (by decide +kernel)
  have hl := lv_entry ([.ref h0, .int v]) (n := 2) (Nat.le_of_ble_eq_true rfl)
  rw [lg_entry_eq]
  generalize (lg_sl ([.ref h0, .int v]) ++ List.replicate (2 - (lg_sl ([.ref h0, .int v])).length) Slot.unset).toArray = ls at hl ⊢
  have hl : lv_has ls 2 [(0, .ref h0), (1, .int v)] := hl
  refine lv_iload_n hx hb dX6_marblesOf_0 rfl (lv_at hl 1 rfl) ?_
  refine lv_iconst (v := 1) hx hb dX6_marblesOf_1 (by decide) ?_
  refine lv_icmp_ne (tgt := 12) hx hb dX6_marblesOf_2 (by decide) (fun c2 => ?_) (fun c2 => ?_)
  · refine lv_aload_n hx hb dX6_marblesOf_12 rfl (lv_at hl 0 rfl) ?_
    refine va_get (D := D) (ci := 3) (v := .long fb) (C := RX6) (T := TX6) (N := 7) hx hb hts hinX6 hown hK hP 0 rfl rfl 4 (by decide) hfl57 (fun _ h9 => h9) rfl dX6_marblesOf_13 ?_
    refine W.lret (v := fb) hx hb hr (fun tt ht hW => ⟨fb, rfl, ?_, ht⟩) (fun _ h => nomatch h) dX6_marblesOf_16
    first | rw [if_pos c2] | rw [if_neg c2]
  · refine lv_aload_n hx hb dX6_marblesOf_5 rfl (lv_at hl 0 rfl) ?_
    refine va_get (D := D) (ci := 3) (v := .long fa) (C := RX6) (T := TX6) (N := 7) hx hb hts hinX6 hown hK hP 0 rfl rfl 3 (by decide) hfl49 (fun _ h9 => h9) rfl dX6_marblesOf_6 ?_
    refine lv_goto (tgt := 16) hx hb dX6_marblesOf_9 (by decide) ?_
    refine W.lret (v := fa) hx hb hr (fun tt ht hW => ⟨fa, rfl, ?_, ht⟩) (fun _ h => nomatch h) dX6_marblesOf_16
    first | rw [if_pos c2] | rw [if_neg c2]

set_option maxHeartbeats 400000 in
set_option maxRecDepth 100000 in
theorem c_X6_sideToAct (l : Launch) (D : va_G) (cI cJ : ClassId) (h0 lg fs ps : Nat) (fa fb : Int64) (mt re : Int32) (hm : mt = 0 ∨ 0 < pop (fa ||| fb)) : Met l yX6_sideToAct wsX6_sideToAct ({ frames := 2, cells := 0, slots := 0, locals := 41 } : Room) (va_Pc [.ref h0] (px_W D [(h0, .inr (3, [.ref lg, .ref fs, .ref ps, .long fa, .long fb, .int mt, .int re]))] [(cI, .int), (cJ, .long)])) (vp_Si (fun r => r = cside (pop (fa ||| fb)) mt)) 0 0 (fun _ => False) := by
  refine Met.ofW (cc := cX6_sideToAct) (maxL := 2) (ret := (some .int)) (by decide) rfl ?_
  intro p e s m args below meth c s₁ B hml hv
  obtain ⟨rfl, hP, hK⟩ := hv
  have hx := B.exec
  have hb := B.bytes
  have hr := B.returns
  have hts := atoms_spec (ws := wsX6_sideToAct) B.pre
  have hown : s.vm.findClass RX6 = some m.cls := findClass_of_methodNamed B.named
  have hlocks := B.notSynchronized
  have hinX6 : ∀ w ∈ wsX60, w ∈ wsX6_sideToAct := by decide +kernel
  have hfl72 : (Cond.fieldLink RX6 72 "Twistquad" "mustTurn" "Z").before ([.ref h0] : List Value).toArray s = true := hts _ (by decide +kernel)
  have hl := lv_entry ([.ref h0]) (n := 2) (Nat.le_of_ble_eq_true rfl)
  rw [lg_entry_eq]
  generalize (lg_sl ([.ref h0]) ++ List.replicate (2 - (lg_sl ([.ref h0])).length) Slot.unset).toArray = ls at hl ⊢
  have hl : lv_has ls 2 [(0, .ref h0)] := hl
  refine lv_aload_n hx hb dX6_sideToAct_0 rfl (lv_at hl 0 rfl) ?_
  refine va_get (D := D) (ci := 3) (v := .int mt) (C := RX6) (T := TX6) (N := 7) hx hb hts hinX6 hown hK hP 0 rfl rfl 5 (by decide) hfl72 (fun _ h9 => h9) rfl dX6_sideToAct_1 ?_
  refine lv_if_eq (tgt := 16) hx hb dX6_sideToAct_4 (by decide) (fun c4 => ?_) (fun c4 => ?_)
  · refine lv_aload_n hx hb dX6_sideToAct_16 rfl (lv_at hl 0 rfl) ?_
    refine vp_callSi (W.runV (As := []) (rest := []) ⟨hx, hb, hml, hown, hts⟩ (c_X6_marbles l D cI cJ h0 lg fs ps fa fb mt re ) (cwV 0 hts gX6_sideToAct_X6_marbles rfl rfl rfl (by decide +kernel) ⟨Nat.le_of_ble_eq_true rfl, Nat.le_of_ble_eq_true rfl⟩) ⟨px_blindW, va_recv hK hP (ci := 3) (q0 := 0) rfl rfl, fun U hU hW => ⟨rfl, by rw [hU]; exact hP.sub (ws' := [(h0, .inr (3, [.ref lg, .ref fs, .ref ps, .long fa, .long fb, .int mt, .int re]))]) [0] rfl, va_K.moved hW.alike hK⟩⟩ rfl rfl hl.1 rfl (lv_room (Nat.le_of_ble_eq_true rfl)) dX6_sideToAct_17 ⟨(Nat.le_of_ble_eq_true rfl), (Nat.le_of_ble_eq_true rfl)⟩) (fun r17 er17 => ?_)
    obtain rfl := er17.symm
    refine lv_istore_n (lv' := [(1, .int (nI (pop (fa ||| fb)))), (0, .ref h0)]) hx hb dX6_sideToAct_20 rfl hl (by decide) rfl (fun ls hl => ?_)
    refine lv_iload_n hx hb dX6_sideToAct_21 rfl (lv_at hl 0 rfl) ?_
    have hpl := pop_le (fa ||| fb)
    refine lv_iconst (v := 2) hx hb dX6_sideToAct_22 (by decide) ?_
    refine lv_irem hx hb dX6_sideToAct_23 (by decide) ?_
    refine pk_ti (y := nI ((pop (fa ||| fb)) % 2)) (pk_rem (a := (pop (fa ||| fb))) (d := 2) (by omega) (by omega) (by omega)) ?_
    refine lv_if_ne (tgt := 31) hx hb dX6_sideToAct_24 (by decide) (fun c24 => ?_) (fun c24 => ?_)
    · have c24 : ¬ ((pop (fa ||| fb)) % 2) = 0 := _root_.mt (nq_eq (a := ((pop (fa ||| fb)) % 2)) (b := 0) (by omega) (by omega)).mpr c24
      refine lv_iconst (v := 2) hx hb dX6_sideToAct_31 (by decide) ?_
      refine W.iret (v := 2) hx hb hr (fun tt ht hW => ⟨2, rfl, ?_, ht⟩) (fun _ h => nomatch h) dX6_sideToAct_32
      first | exact (cside1 c4 c24).symm | exact (cside2 c4 c24).symm | exact (cside3 c4 c24).symm | exact (cside4 c4 c24).symm
    · have c24 : ((pop (fa ||| fb)) % 2) = 0 := (nq_eq (a := ((pop (fa ||| fb)) % 2)) (b := 0) (by omega) (by omega)).mp c24
      refine lv_iconst (v := 1) hx hb dX6_sideToAct_27 (by decide) ?_
      refine lv_goto (tgt := 32) hx hb dX6_sideToAct_28 (by decide) ?_
      refine W.iret (v := 1) hx hb hr (fun tt ht hW => ⟨1, rfl, ?_, ht⟩) (fun _ h => nomatch h) dX6_sideToAct_32
      first | exact (cside1 c4 c24).symm | exact (cside2 c4 c24).symm | exact (cside3 c4 c24).symm | exact (cside4 c4 c24).symm
  · refine lv_aload_n hx hb dX6_sideToAct_7 rfl (lv_at hl 0 rfl) ?_
    refine vp_callSi (W.runV (As := []) (rest := []) ⟨hx, hb, hml, hown, hts⟩ (c_X6_marbles l D cI cJ h0 lg fs ps fa fb mt re ) (cwV 0 hts gX6_sideToAct_X6_marbles rfl rfl rfl (by decide +kernel) ⟨Nat.le_of_ble_eq_true rfl, Nat.le_of_ble_eq_true rfl⟩) ⟨px_blindW, va_recv hK hP (ci := 3) (q0 := 0) rfl rfl, fun U hU hW => ⟨rfl, by rw [hU]; exact hP.sub (ws' := [(h0, .inr (3, [.ref lg, .ref fs, .ref ps, .long fa, .long fb, .int mt, .int re]))]) [0] rfl, va_K.moved hW.alike hK⟩⟩ rfl rfl hl.1 rfl (lv_room (Nat.le_of_ble_eq_true rfl)) dX6_sideToAct_8 ⟨(Nat.le_of_ble_eq_true rfl), (Nat.le_of_ble_eq_true rfl)⟩) (fun r8 er8 => ?_)
    obtain rfl := er8.symm
    refine lv_iconst (v := 1) hx hb dX6_sideToAct_11 (by decide) ?_
    have hp9 : 0 < pop (fa ||| fb) := hm.resolve_left c4
    refine lv_isub hx hb dX6_sideToAct_12 ?_
    refine pk_ti (y := nI ((pop (fa ||| fb)) - 1)) (pk_sub (a := (pop (fa ||| fb))) (b := 1) (by omega)) ?_
    refine lv_goto (tgt := 20) hx hb dX6_sideToAct_13 (by decide) ?_
    refine lv_istore_n (lv' := [(1, .int (nI ((pop (fa ||| fb)) - 1))), (0, .ref h0)]) hx hb dX6_sideToAct_20 rfl hl (by decide) rfl (fun ls hl => ?_)
    refine lv_iload_n hx hb dX6_sideToAct_21 rfl (lv_at hl 0 rfl) ?_
    have hpl := pop_le (fa ||| fb)
    refine lv_iconst (v := 2) hx hb dX6_sideToAct_22 (by decide) ?_
    refine lv_irem hx hb dX6_sideToAct_23 (by decide) ?_
    refine pk_ti (y := nI (((pop (fa ||| fb)) - 1) % 2)) (pk_rem (a := ((pop (fa ||| fb)) - 1)) (d := 2) (by omega) (by omega) (by omega)) ?_
    refine lv_if_ne (tgt := 31) hx hb dX6_sideToAct_24 (by decide) (fun c24 => ?_) (fun c24 => ?_)
    · have c24 : ¬ (((pop (fa ||| fb)) - 1) % 2) = 0 := _root_.mt (nq_eq (a := (((pop (fa ||| fb)) - 1) % 2)) (b := 0) (by omega) (by omega)).mpr c24
      refine lv_iconst (v := 2) hx hb dX6_sideToAct_31 (by decide) ?_
      refine W.iret (v := 2) hx hb hr (fun tt ht hW => ⟨2, rfl, ?_, ht⟩) (fun _ h => nomatch h) dX6_sideToAct_32
      first | exact (cside1 c4 c24).symm | exact (cside2 c4 c24).symm | exact (cside3 c4 c24).symm | exact (cside4 c4 c24).symm
    · have c24 : (((pop (fa ||| fb)) - 1) % 2) = 0 := (nq_eq (a := (((pop (fa ||| fb)) - 1) % 2)) (b := 0) (by omega) (by omega)).mp c24
      refine lv_iconst (v := 1) hx hb dX6_sideToAct_27 (by decide) ?_
      refine lv_goto (tgt := 32) hx hb dX6_sideToAct_28 (by decide) ?_
      refine W.iret (v := 1) hx hb hr (fun tt ht hW => ⟨1, rfl, ?_, ht⟩) (fun _ h => nomatch h) dX6_sideToAct_32
      first | exact (cside1 c4 c24).symm | exact (cside2 c4 c24).symm | exact (cside3 c4 c24).symm | exact (cside4 c4 c24).symm

set_option maxHeartbeats 400000 in
set_option maxRecDepth 100000 in
theorem c_X6_resultBehindTurn (l : Launch) (D : va_G) (cI cJ : ClassId) (h0 lg fs ps : Nat) (fa fb : Int64) (mt re : Int32)  : Met l yX6_resultBehindTurn wsX6_resultBehindTurn ({ frames := 2, cells := 0, slots := 0, locals := 45 } : Room) (va_Pc [.ref h0] (px_W D [(h0, .inr (3, [.ref lg, .ref fs, .ref ps, .long fa, .long fb, .int mt, .int re]))] [(cI, .int), (cJ, .long)])) (vp_Si (fun r => r = cjudge fa fb)) 0 0 (fun _ => False) := by
  refine Met.ofW (cc := cX6_resultBehindTurn) (maxL := 3) (ret := (some .int)) (by decide) rfl ?_
  intro p e s m args below meth c s₁ B hml hv
  obtain ⟨rfl, hP, hK⟩ := hv
  have hx := B.exec
  have hb := B.bytes
  have hr := B.returns
  have hts := atoms_spec (ws := wsX6_resultBehindTurn) B.pre
  have hown : s.vm.findClass RX6 = some m.cls := findClass_of_methodNamed B.named
  have hlocks := B.notSynchronized
  have hinX6 : ∀ w ∈ wsX60, w ∈ wsX6_resultBehindTurn := by decide +kernel
  have hfl49 : (Cond.fieldLink RX6 49 "Twistquad" "first" "J").before ([.ref h0] : List Value).toArray s = true := hts _ (by decide +kernel)
  have hfl57 : (Cond.fieldLink RX6 57 "Twistquad" "second" "J").before ([.ref h0] : List Value).toArray s = true := hts _ (by decide +kernel)
  have hl := lv_entry ([.ref h0]) (n := 3) (Nat.le_of_ble_eq_true rfl)
  rw [lg_entry_eq]
  generalize (lg_sl ([.ref h0]) ++ List.replicate (3 - (lg_sl ([.ref h0])).length) Slot.unset).toArray = ls at hl ⊢
  have hl : lv_has ls 3 [(0, .ref h0)] := hl
  refine lv_aload_n hx hb dX6_resultBehindTurn_0 rfl (lv_at hl 0 rfl) ?_
  refine va_get (D := D) (ci := 3) (v := .long fa) (C := RX6) (T := TX6) (N := 7) hx hb hts hinX6 hown hK hP 0 rfl rfl 3 (by decide) hfl49 (fun _ h9 => h9) rfl dX6_resultBehindTurn_1 ?_
  refine vp_callSi (W.runS (As := [.long fa]) (rest := []) ⟨hx, hb, hml, hown, hts⟩ (c_X1_hasLine l fa) (va_cwS 1 hts gX6_resultBehindTurn_X1_hasLine rfl rfl rfl (by decide +kernel) ⟨Nat.le_of_ble_eq_true rfl, Nat.le_of_ble_eq_true rfl⟩) ⟨px_blind0, fun U hU hW => ⟨rfl, trivial⟩⟩ rfl rfl hl.1 rfl (lv_room (Nat.le_of_ble_eq_true rfl)) dX6_resultBehindTurn_4 ⟨(Nat.le_of_ble_eq_true rfl), (Nat.le_of_ble_eq_true rfl)⟩) (fun r4 er4 => ?_)
  obtain rfl := er4.symm
  refine pk_b (P := cline fa = true) (fun b4 => ?_) (fun b4 => ?_)
  · refine lv_istore_n (lv' := [(1, .int 1), (0, .ref h0)]) hx hb dX6_resultBehindTurn_7 rfl hl (by decide) rfl (fun ls hl => ?_)
    refine lv_aload_n hx hb dX6_resultBehindTurn_8 rfl (lv_at hl 1 rfl) ?_
    refine va_get (D := D) (ci := 3) (v := .long fb) (C := RX6) (T := TX6) (N := 7) hx hb hts hinX6 hown hK hP 0 rfl rfl 4 (by decide) hfl57 (fun _ h9 => h9) rfl dX6_resultBehindTurn_9 ?_
    refine vp_callSi (W.runS (As := [.long fb]) (rest := []) ⟨hx, hb, hml, hown, hts⟩ (c_X1_hasLine l fb) (va_cwS 1 hts gX6_resultBehindTurn_X1_hasLine rfl rfl rfl (by decide +kernel) ⟨Nat.le_of_ble_eq_true rfl, Nat.le_of_ble_eq_true rfl⟩) ⟨px_blind0, fun U hU hW => ⟨rfl, trivial⟩⟩ rfl rfl hl.1 rfl (lv_room (Nat.le_of_ble_eq_true rfl)) dX6_resultBehindTurn_12 ⟨(Nat.le_of_ble_eq_true rfl), (Nat.le_of_ble_eq_true rfl)⟩) (fun r12 er12 => ?_)
    obtain rfl := er12.symm
    refine pk_b (P := cline fb = true) (fun b12 => ?_) (fun b12 => ?_)
    · refine lv_istore_n (lv' := [(2, .int 1), (1, .int 1), (0, .ref h0)]) hx hb dX6_resultBehindTurn_15 rfl hl (by decide) rfl (fun ls hl => ?_)
      refine lv_iload_n hx hb dX6_resultBehindTurn_16 rfl (lv_at hl 1 rfl) ?_
      refine lv_iload_n hx hb dX6_resultBehindTurn_17 rfl (lv_at hl 0 rfl) ?_
      refine lv_icmp_eq (tgt := 31) hx hb dX6_resultBehindTurn_18 (by decide) (fun c18 => ?_) (fun c18 => ?_)
      · refine lv_iload_n hx hb dX6_resultBehindTurn_31 rfl (lv_at hl 1 rfl) ?_
        refine lv_if_ne (tgt := 44) hx hb dX6_resultBehindTurn_32 (by decide) (fun c32 => ?_) (fun c32 => ?_)
        · refine lv_iconst (v := 3) hx hb dX6_resultBehindTurn_44 (by decide) ?_
          refine lv_goto (tgt := 49) hx hb dX6_resultBehindTurn_45 (by decide) ?_
          refine W.iret (v := 3) hx hb hr (fun tt ht hW => ⟨3, rfl, ?_, ht⟩) (fun _ h => nomatch h) dX6_resultBehindTurn_49
          skip; unfold cjudge; first | (rw [if_pos b4, if_pos b12]; done) | (rw [if_pos b4, if_neg b12]; done) | (rw [if_neg b4, if_pos b12]; done) | (rw [if_neg b4, if_neg b12, if_pos c41]; done) | (rw [if_neg b4, if_neg b12, if_neg c41]; done)
        · exact absurd c32 (by decide)
      · exact absurd c18 (by decide)
    · refine lv_istore_n (lv' := [(2, .int 0), (1, .int 1), (0, .ref h0)]) hx hb dX6_resultBehindTurn_15 rfl hl (by decide) rfl (fun ls hl => ?_)
      refine lv_iload_n hx hb dX6_resultBehindTurn_16 rfl (lv_at hl 1 rfl) ?_
      refine lv_iload_n hx hb dX6_resultBehindTurn_17 rfl (lv_at hl 0 rfl) ?_
      refine lv_icmp_eq (tgt := 31) hx hb dX6_resultBehindTurn_18 (by decide) (fun c18 => ?_) (fun c18 => ?_)
      · exact absurd c18 (by decide)
      · refine lv_iload_n hx hb dX6_resultBehindTurn_21 rfl (lv_at hl 1 rfl) ?_
        refine lv_if_eq (tgt := 29) hx hb dX6_resultBehindTurn_22 (by decide) (fun c22 => ?_) (fun c22 => ?_)
        · exact absurd c22 (by decide)
        · refine lv_iconst (v := 1) hx hb dX6_resultBehindTurn_25 (by decide) ?_
          refine lv_goto (tgt := 30) hx hb dX6_resultBehindTurn_26 (by decide) ?_
          refine W.iret (v := 1) hx hb hr (fun tt ht hW => ⟨1, rfl, ?_, ht⟩) (fun _ h => nomatch h) dX6_resultBehindTurn_30
          skip; unfold cjudge; first | (rw [if_pos b4, if_pos b12]; done) | (rw [if_pos b4, if_neg b12]; done) | (rw [if_neg b4, if_pos b12]; done) | (rw [if_neg b4, if_neg b12, if_pos c41]; done) | (rw [if_neg b4, if_neg b12, if_neg c41]; done)
  · refine lv_istore_n (lv' := [(1, .int 0), (0, .ref h0)]) hx hb dX6_resultBehindTurn_7 rfl hl (by decide) rfl (fun ls hl => ?_)
    refine lv_aload_n hx hb dX6_resultBehindTurn_8 rfl (lv_at hl 1 rfl) ?_
    refine va_get (D := D) (ci := 3) (v := .long fb) (C := RX6) (T := TX6) (N := 7) hx hb hts hinX6 hown hK hP 0 rfl rfl 4 (by decide) hfl57 (fun _ h9 => h9) rfl dX6_resultBehindTurn_9 ?_
    refine vp_callSi (W.runS (As := [.long fb]) (rest := []) ⟨hx, hb, hml, hown, hts⟩ (c_X1_hasLine l fb) (va_cwS 1 hts gX6_resultBehindTurn_X1_hasLine rfl rfl rfl (by decide +kernel) ⟨Nat.le_of_ble_eq_true rfl, Nat.le_of_ble_eq_true rfl⟩) ⟨px_blind0, fun U hU hW => ⟨rfl, trivial⟩⟩ rfl rfl hl.1 rfl (lv_room (Nat.le_of_ble_eq_true rfl)) dX6_resultBehindTurn_12 ⟨(Nat.le_of_ble_eq_true rfl), (Nat.le_of_ble_eq_true rfl)⟩) (fun r12 er12 => ?_)
    obtain rfl := er12.symm
    refine pk_b (P := cline fb = true) (fun b12 => ?_) (fun b12 => ?_)
    · refine lv_istore_n (lv' := [(2, .int 1), (1, .int 0), (0, .ref h0)]) hx hb dX6_resultBehindTurn_15 rfl hl (by decide) rfl (fun ls hl => ?_)
      refine lv_iload_n hx hb dX6_resultBehindTurn_16 rfl (lv_at hl 1 rfl) ?_
      refine lv_iload_n hx hb dX6_resultBehindTurn_17 rfl (lv_at hl 0 rfl) ?_
      refine lv_icmp_eq (tgt := 31) hx hb dX6_resultBehindTurn_18 (by decide) (fun c18 => ?_) (fun c18 => ?_)
      · exact absurd c18 (by decide)
      · refine lv_iload_n hx hb dX6_resultBehindTurn_21 rfl (lv_at hl 1 rfl) ?_
        refine lv_if_eq (tgt := 29) hx hb dX6_resultBehindTurn_22 (by decide) (fun c22 => ?_) (fun c22 => ?_)
        · refine lv_iconst (v := 2) hx hb dX6_resultBehindTurn_29 (by decide) ?_
          refine W.iret (v := 2) hx hb hr (fun tt ht hW => ⟨2, rfl, ?_, ht⟩) (fun _ h => nomatch h) dX6_resultBehindTurn_30
          skip; unfold cjudge; first | (rw [if_pos b4, if_pos b12]; done) | (rw [if_pos b4, if_neg b12]; done) | (rw [if_neg b4, if_pos b12]; done) | (rw [if_neg b4, if_neg b12, if_pos c41]; done) | (rw [if_neg b4, if_neg b12, if_neg c41]; done)
        · exact absurd c22 (by decide)
    · refine lv_istore_n (lv' := [(2, .int 0), (1, .int 0), (0, .ref h0)]) hx hb dX6_resultBehindTurn_15 rfl hl (by decide) rfl (fun ls hl => ?_)
      refine lv_iload_n hx hb dX6_resultBehindTurn_16 rfl (lv_at hl 1 rfl) ?_
      refine lv_iload_n hx hb dX6_resultBehindTurn_17 rfl (lv_at hl 0 rfl) ?_
      refine lv_icmp_eq (tgt := 31) hx hb dX6_resultBehindTurn_18 (by decide) (fun c18 => ?_) (fun c18 => ?_)
      · refine lv_iload_n hx hb dX6_resultBehindTurn_31 rfl (lv_at hl 1 rfl) ?_
        refine lv_if_ne (tgt := 44) hx hb dX6_resultBehindTurn_32 (by decide) (fun c32 => ?_) (fun c32 => ?_)
        · exact absurd c32 (by decide)
        · refine lv_aload_n hx hb dX6_resultBehindTurn_35 rfl (lv_at hl 2 rfl) ?_
          refine vp_callSl (W.runV (As := []) (rest := []) ⟨hx, hb, hml, hown, hts⟩ (c_X6_emptyCells l D cI cJ h0 lg fs ps fa fb mt re ) (cwV 0 hts gX6_resultBehindTurn_X6_emptyCells rfl rfl rfl (by decide +kernel) ⟨Nat.le_of_ble_eq_true rfl, Nat.le_of_ble_eq_true rfl⟩) ⟨px_blindW, va_recv hK hP (ci := 3) (q0 := 0) rfl rfl, fun U hU hW => ⟨rfl, by rw [hU]; exact hP.sub (ws' := [(h0, .inr (3, [.ref lg, .ref fs, .ref ps, .long fa, .long fb, .int mt, .int re]))]) [0] rfl, va_K.moved hW.alike hK⟩⟩ rfl rfl hl.1 rfl (lv_room (Nat.le_of_ble_eq_true rfl)) dX6_resultBehindTurn_36 ⟨(Nat.le_of_ble_eq_true rfl), (Nat.le_of_ble_eq_true rfl)⟩) (fun r36 er36 => ?_)
          obtain rfl := er36.symm
          refine lv_lconst (v := 0) hx hb dX6_resultBehindTurn_39 (by decide) ?_
          refine W.lcmp hx hb dX6_resultBehindTurn_40 ?_
          refine lv_if_ne (tgt := 48) hx hb dX6_resultBehindTurn_41 (by decide) (fun c41 => ?_) (fun c41 => ?_)
          · rw [lg_cmp_eq] at c41
            refine lv_iconst (v := 0) hx hb dX6_resultBehindTurn_48 (by decide) ?_
            refine W.iret (v := 0) hx hb hr (fun tt ht hW => ⟨0, rfl, ?_, ht⟩) (fun _ h => nomatch h) dX6_resultBehindTurn_49
            skip; unfold cjudge; first | (rw [if_pos b4, if_pos b12]; done) | (rw [if_pos b4, if_neg b12]; done) | (rw [if_neg b4, if_pos b12]; done) | (rw [if_neg b4, if_neg b12, if_pos c41]; done) | (rw [if_neg b4, if_neg b12, if_neg c41]; done)
          · rw [lg_cmp_eq] at c41
            refine lv_iconst (v := 3) hx hb dX6_resultBehindTurn_44 (by decide) ?_
            refine lv_goto (tgt := 49) hx hb dX6_resultBehindTurn_45 (by decide) ?_
            refine W.iret (v := 3) hx hb hr (fun tt ht hW => ⟨3, rfl, ?_, ht⟩) (fun _ h => nomatch h) dX6_resultBehindTurn_49
            skip; unfold cjudge; first | (rw [if_pos b4, if_pos b12]; done) | (rw [if_pos b4, if_neg b12]; done) | (rw [if_neg b4, if_pos b12]; done) | (rw [if_neg b4, if_neg b12, if_pos c41]; done) | (rw [if_neg b4, if_neg b12, if_neg c41]; done)
      · exact absurd c18 (by decide)

set_option maxHeartbeats 400000 in
set_option maxRecDepth 100000 in
theorem c_X6_result (l : Launch) (D : va_G) (cI cJ : ClassId) (h0 lg fs ps : Nat) (fa fb : Int64) (mt re : Int32)  : Met l yX6_result wsX6_result ({ frames := 0, cells := 0, slots := 0, locals := 0 } : Room) (va_Pc [.ref h0] (px_W D [(h0, .inr (3, [.ref lg, .ref fs, .ref ps, .long fa, .long fb, .int mt, .int re]))] [(cI, .int), (cJ, .long)])) (vp_Si (fun r => r = re)) 0 0 (fun _ => False) := by
  refine Met.ofW (cc := cX6_result) (maxL := 1) (ret := (some .int)) (by decide) rfl ?_
  intro p e s m args below meth c s₁ B hml hv
  obtain ⟨rfl, hP, hK⟩ := hv
  have hx := B.exec
  have hb := B.bytes
  have hr := B.returns
  have hts := atoms_spec (ws := wsX6_result) B.pre
  have hown : s.vm.findClass RX6 = some m.cls := findClass_of_methodNamed B.named
  have hlocks := B.notSynchronized
  have hinX6 : ∀ w ∈ wsX60, w ∈ wsX6_result := by decide +kernel
  have hfl31 : (Cond.fieldLink RX6 31 "Twistquad" "result" "I").before ([.ref h0] : List Value).toArray s = true := hts _ (by decide +kernel)
  have hl := lv_entry ([.ref h0]) (n := 1) (Nat.le_of_ble_eq_true rfl)
  rw [lg_entry_eq]
  generalize (lg_sl ([.ref h0]) ++ List.replicate (1 - (lg_sl ([.ref h0])).length) Slot.unset).toArray = ls at hl ⊢
  have hl : lv_has ls 1 [(0, .ref h0)] := hl
  refine lv_aload_n hx hb dX6_result_0 rfl (lv_at hl 0 rfl) ?_
  refine va_get (D := D) (ci := 3) (v := .int re) (C := RX6) (T := TX6) (N := 7) hx hb hts hinX6 hown hK hP 0 rfl rfl 6 (by decide) hfl31 (fun _ h9 => h9) rfl dX6_result_1 ?_
  refine W.iret (v := re) hx hb hr (fun tt ht hW => ⟨re, rfl, ?_, ht⟩) (fun _ h => nomatch h) dX6_result_4
  rfl

set_option maxHeartbeats 400000 in
set_option maxRecDepth 100000 in
theorem c_X6_mustTurn (l : Launch) (D : va_G) (cI cJ : ClassId) (h0 lg fs ps : Nat) (fa fb : Int64) (mt re : Int32) (hz : mt = 0 ∨ mt = 1) : Met l yX6_mustTurn wsX6_mustTurn ({ frames := 0, cells := 0, slots := 0, locals := 0 } : Room) (va_Pc [.ref h0] (px_W D [(h0, .inr (3, [.ref lg, .ref fs, .ref ps, .long fa, .long fb, .int mt, .int re]))] [(cI, .int), (cJ, .long)])) (vp_Si (fun r => r = mt)) 0 0 (fun _ => False) := by
  refine Met.ofW (cc := cX6_mustTurn) (maxL := 1) (ret := (some .boolean)) (by decide) rfl ?_
  intro p e s m args below meth c s₁ B hml hv
  obtain ⟨rfl, hP, hK⟩ := hv
  have hx := B.exec
  have hb := B.bytes
  have hr := B.returns
  have hts := atoms_spec (ws := wsX6_mustTurn) B.pre
  have hown : s.vm.findClass RX6 = some m.cls := findClass_of_methodNamed B.named
  have hlocks := B.notSynchronized
  have hinX6 : ∀ w ∈ wsX60, w ∈ wsX6_mustTurn := by decide +kernel
  have hfl72 : (Cond.fieldLink RX6 72 "Twistquad" "mustTurn" "Z").before ([.ref h0] : List Value).toArray s = true := hts _ (by decide +kernel)
  have hl := lv_entry ([.ref h0]) (n := 1) (Nat.le_of_ble_eq_true rfl)
  rw [lg_entry_eq]
  generalize (lg_sl ([.ref h0]) ++ List.replicate (1 - (lg_sl ([.ref h0])).length) Slot.unset).toArray = ls at hl ⊢
  have hl : lv_has ls 1 [(0, .ref h0)] := hl
  refine lv_aload_n hx hb dX6_mustTurn_0 rfl (lv_at hl 0 rfl) ?_
  refine va_get (D := D) (ci := 3) (v := .int mt) (C := RX6) (T := TX6) (N := 7) hx hb hts hinX6 hown hK hP 0 rfl rfl 5 (by decide) hfl72 (fun _ h9 => h9) rfl dX6_mustTurn_1 ?_
  refine W.zret (v := mt) hx hb hr (by rcases hz with h | h <;> rw [h] <;> rfl) (fun tt ht hW => ⟨mt, rfl, ?_, ht⟩) (fun _ h => nomatch h) dX6_mustTurn_4
  rfl

set_option maxHeartbeats 400000 in
set_option maxRecDepth 100000 in
theorem c_X6_mover (l : Launch) (D : va_G) (cI cJ : ClassId) (h0 lg fs ps : Nat) (fa fb : Int64) (mt re : Int32) (hm : mt = 0 ∨ 0 < pop (fa ||| fb)) : Met l yX6_mover wsX6_mover ({ frames := 3, cells := 0, slots := 0, locals := 62 } : Room) (va_Pc [.ref h0] (px_W D [(h0, .inr (3, [.ref lg, .ref fs, .ref ps, .long fa, .long fb, .int mt, .int re]))] [(cI, .int), (cJ, .long)])) (vp_Si (fun r => r = if re = 0 then cside (pop (fa ||| fb)) mt else 0)) 0 0 (fun _ => False) := by
  refine Met.ofW (cc := cX6_mover) (maxL := 1) (ret := (some .int)) (by decide) rfl ?_
  intro p e s m args below meth c s₁ B hml hv
  obtain ⟨rfl, hP, hK⟩ := hv
  have hx := B.exec
  have hb := B.bytes
  have hr := B.returns
  have hts := atoms_spec (ws := wsX6_mover) B.pre
  have hown : s.vm.findClass RX6 = some m.cls := findClass_of_methodNamed B.named
  have hlocks := B.notSynchronized
  have hinX6 : ∀ w ∈ wsX60, w ∈ wsX6_mover := by decide +kernel
  have hfl31 : (Cond.fieldLink RX6 31 "Twistquad" "result" "I").before ([.ref h0] : List Value).toArray s = true := hts _ (by decide +kernel)
  have hl := lv_entry ([.ref h0]) (n := 1) (Nat.le_of_ble_eq_true rfl)
  rw [lg_entry_eq]
  generalize (lg_sl ([.ref h0]) ++ List.replicate (1 - (lg_sl ([.ref h0])).length) Slot.unset).toArray = ls at hl ⊢
  have hl : lv_has ls 1 [(0, .ref h0)] := hl
  refine lv_aload_n hx hb dX6_mover_0 rfl (lv_at hl 0 rfl) ?_
  refine va_get (D := D) (ci := 3) (v := .int re) (C := RX6) (T := TX6) (N := 7) hx hb hts hinX6 hown hK hP 0 rfl rfl 6 (by decide) hfl31 (fun _ h9 => h9) rfl dX6_mover_1 ?_
  refine lv_if_ne (tgt := 14) hx hb dX6_mover_4 (by decide) (fun c4 => ?_) (fun c4 => ?_)
  · refine lv_iconst (v := 0) hx hb dX6_mover_14 (by decide) ?_
    refine W.iret (v := 0) hx hb hr (fun tt ht hW => ⟨0, rfl, ?_, ht⟩) (fun _ h => nomatch h) dX6_mover_15
    first | rw [if_pos c4] | rw [if_neg c4]
  · refine lv_aload_n hx hb dX6_mover_7 rfl (lv_at hl 0 rfl) ?_
    refine vp_callSi (W.runV (As := []) (rest := []) ⟨hx, hb, hml, hown, hts⟩ (c_X6_sideToAct l D cI cJ h0 lg fs ps fa fb mt re hm) (cwV 0 hts gX6_mover_X6_sideToAct rfl rfl rfl (by decide +kernel) ⟨Nat.le_of_ble_eq_true rfl, Nat.le_of_ble_eq_true rfl⟩) ⟨px_blindW, va_recv hK hP (ci := 3) (q0 := 0) rfl rfl, fun U hU hW => ⟨rfl, by rw [hU]; exact hP.sub (ws' := [(h0, .inr (3, [.ref lg, .ref fs, .ref ps, .long fa, .long fb, .int mt, .int re]))]) [0] rfl, va_K.moved hW.alike hK⟩⟩ rfl rfl hl.1 rfl (lv_room (Nat.le_of_ble_eq_true rfl)) dX6_mover_8 ⟨(Nat.le_of_ble_eq_true rfl), (Nat.le_of_ble_eq_true rfl)⟩) (fun r8 er8 => ?_)
    obtain rfl := er8.symm
    refine lv_goto (tgt := 15) hx hb dX6_mover_11 (by decide) ?_
    refine W.iret (v := (cside (pop (fa ||| fb)) mt)) hx hb hr (fun tt ht hW => ⟨(cside (pop (fa ||| fb)) mt), rfl, ?_, ht⟩) (fun _ h => nomatch h) dX6_mover_15
    first | rw [if_pos c4] | rw [if_neg c4]

set_option maxHeartbeats 400000 in
set_option maxRecDepth 100000 in
theorem c_X6_form (l : Launch) (D : va_G) (cI cJ : ClassId) (h0 lg fs ps : Nat) (fa fb : Int64) (mt re : Int32)  : Met l yX6_form wsX6_form ({ frames := 2, cells := 0, slots := 0, locals := 62 } : Room) (va_Pc [.ref h0] (px_W D [(h0, .inr (3, [.ref lg, .ref fs, .ref ps, .long fa, .long fb, .int mt, .int re]))] [(cI, .int), (cJ, .long)])) (vp_Sl (fun r => r = cleast fa fb 8)) 0 0 (fun _ => False) := by
  refine Met.ofW (cc := cX6_form) (maxL := 1) (ret := (some .long)) (by decide) rfl ?_
  intro p e s m args below meth c s₁ B hml hv
  obtain ⟨rfl, hP, hK⟩ := hv
  have hx := B.exec
  have hb := B.bytes
  have hr := B.returns
  have hts := atoms_spec (ws := wsX6_form) B.pre
  have hown : s.vm.findClass RX6 = some m.cls := findClass_of_methodNamed B.named
  have hlocks := B.notSynchronized
  have hinX6 : ∀ w ∈ wsX60, w ∈ wsX6_form := by decide +kernel
  have hfl49 : (Cond.fieldLink RX6 49 "Twistquad" "first" "J").before ([.ref h0] : List Value).toArray s = true := hts _ (by decide +kernel)
  have hfl57 : (Cond.fieldLink RX6 57 "Twistquad" "second" "J").before ([.ref h0] : List Value).toArray s = true := hts _ (by decide +kernel)
  have hl := lv_entry ([.ref h0]) (n := 1) (Nat.le_of_ble_eq_true rfl)
  rw [lg_entry_eq]
  generalize (lg_sl ([.ref h0]) ++ List.replicate (1 - (lg_sl ([.ref h0])).length) Slot.unset).toArray = ls at hl ⊢
  have hl : lv_has ls 1 [(0, .ref h0)] := hl
  refine lv_aload_n hx hb dX6_form_0 rfl (lv_at hl 0 rfl) ?_
  refine va_get (D := D) (ci := 3) (v := .long fa) (C := RX6) (T := TX6) (N := 7) hx hb hts hinX6 hown hK hP 0 rfl rfl 3 (by decide) hfl49 (fun _ h9 => h9) rfl dX6_form_1 ?_
  refine lv_aload_n hx hb dX6_form_4 rfl (lv_at hl 0 rfl) ?_
  refine va_get (D := D) (ci := 3) (v := .long fb) (C := RX6) (T := TX6) (N := 7) hx hb hts hinX6 hown hK hP 0 rfl rfl 4 (by decide) hfl57 (fun _ h9 => h9) rfl dX6_form_5 ?_
  refine vp_callSl (W.runS (As := [.long fa, .long fb]) (rest := []) ⟨hx, hb, hml, hown, hts⟩ (c_X0_leastCode l fa fb) (va_cwS 2 hts gX6_form_X0_leastCode rfl rfl rfl (by decide +kernel) ⟨Nat.le_of_ble_eq_true rfl, Nat.le_of_ble_eq_true rfl⟩) ⟨px_blind0, fun U hU hW => ⟨rfl, trivial⟩⟩ rfl rfl hl.1 rfl (lv_room (Nat.le_of_ble_eq_true rfl)) dX6_form_8 ⟨(Nat.le_of_ble_eq_true rfl), (Nat.le_of_ble_eq_true rfl)⟩) (fun r8 er8 => ?_)
  obtain rfl := er8.symm
  refine W.lret (v := (cleast fa fb 8)) hx hb hr (fun tt ht hW => ⟨(cleast fa fb 8), rfl, ?_, ht⟩) (fun _ h => nomatch h) dX6_form_11
  rfl

set_option maxHeartbeats 400000 in
set_option maxRecDepth 100000 in
theorem c_X6_symmetries (l : Launch) (D : va_G) (cI cJ : ClassId) (h0 lg fs ps : Nat) (fa fb : Int64) (mt re : Int32)  : Met l yX6_symmetries wsX6_symmetries ({ frames := 2, cells := 0, slots := 0, locals := 63 } : Room) (va_Pc [.ref h0] (px_W D [(h0, .inr (3, [.ref lg, .ref fs, .ref ps, .long fa, .long fb, .int mt, .int re]))] [(cI, .int), (cJ, .long)])) (vp_Si (fun r => r = nI (csym fa fb 8))) 0 0 (fun _ => False) := by
  refine Met.ofW (cc := cX6_symmetries) (maxL := 1) (ret := (some .int)) (by decide) rfl ?_
  intro p e s m args below meth c s₁ B hml hv
  obtain ⟨rfl, hP, hK⟩ := hv
  have hx := B.exec
  have hb := B.bytes
  have hr := B.returns
  have hts := atoms_spec (ws := wsX6_symmetries) B.pre
  have hown : s.vm.findClass RX6 = some m.cls := findClass_of_methodNamed B.named
  have hlocks := B.notSynchronized
  have hinX6 : ∀ w ∈ wsX60, w ∈ wsX6_symmetries := by decide +kernel
  have hfl49 : (Cond.fieldLink RX6 49 "Twistquad" "first" "J").before ([.ref h0] : List Value).toArray s = true := hts _ (by decide +kernel)
  have hfl57 : (Cond.fieldLink RX6 57 "Twistquad" "second" "J").before ([.ref h0] : List Value).toArray s = true := hts _ (by decide +kernel)
  have hl := lv_entry ([.ref h0]) (n := 1) (Nat.le_of_ble_eq_true rfl)
  rw [lg_entry_eq]
  generalize (lg_sl ([.ref h0]) ++ List.replicate (1 - (lg_sl ([.ref h0])).length) Slot.unset).toArray = ls at hl ⊢
  have hl : lv_has ls 1 [(0, .ref h0)] := hl
  refine lv_aload_n hx hb dX6_symmetries_0 rfl (lv_at hl 0 rfl) ?_
  refine va_get (D := D) (ci := 3) (v := .long fa) (C := RX6) (T := TX6) (N := 7) hx hb hts hinX6 hown hK hP 0 rfl rfl 3 (by decide) hfl49 (fun _ h9 => h9) rfl dX6_symmetries_1 ?_
  refine lv_aload_n hx hb dX6_symmetries_4 rfl (lv_at hl 0 rfl) ?_
  refine va_get (D := D) (ci := 3) (v := .long fb) (C := RX6) (T := TX6) (N := 7) hx hb hts hinX6 hown hK hP 0 rfl rfl 4 (by decide) hfl57 (fun _ h9 => h9) rfl dX6_symmetries_5 ?_
  refine vp_callSi (W.runS (As := [.long fa, .long fb]) (rest := []) ⟨hx, hb, hml, hown, hts⟩ (c_X0_countSymmetries l fa fb) (va_cwS 2 hts gX6_symmetries_X0_countSymmetries rfl rfl rfl (by decide +kernel) ⟨Nat.le_of_ble_eq_true rfl, Nat.le_of_ble_eq_true rfl⟩) ⟨px_blind0, fun U hU hW => ⟨rfl, trivial⟩⟩ rfl rfl hl.1 rfl (lv_room (Nat.le_of_ble_eq_true rfl)) dX6_symmetries_8 ⟨(Nat.le_of_ble_eq_true rfl), (Nat.le_of_ble_eq_true rfl)⟩) (fun r8 er8 => ?_)
  obtain rfl := er8.symm
  refine W.iret (v := (nI (csym fa fb 8))) hx hb hr (fun tt ht hW => ⟨(nI (csym fa fb 8)), rfl, ?_, ht⟩) (fun _ h => nomatch h) dX6_symmetries_11
  rfl

set_option maxHeartbeats 400000 in
set_option maxRecDepth 100000 in
theorem c_X6_turnBoard (l : Launch) (D : va_G) (cI cJ : ClassId) (sz : Nat) (h0 lg fs ps : Nat) (fa fb : Int64) (mt re : Int32) (tn : Nat) (htn : tn < 8) : Met l yX6_turnBoard wsX6_turnBoard ({ frames := 2, cells := 0, slots := 0, locals := 53 } : Room) (va_Pc [.ref h0, .int (nI tn)] (pv_C D cI cJ [(h0, .inr (3, [.ref lg, .ref fs, .ref ps, .long fa, .long fb, .int mt, .int re]))] sz)) (va_Qv (fun (u : Unit) => True) (fun (u : Unit) => pv_B D cI cJ (va_A [(h0, .inr (3, [.ref lg, .ref fs, .ref ps, .long fa, .long fb, .int mt, .int re]))] sz) [(h0, .inr (3, [.ref lg, .ref fs, .ref ps, .long (cturned fa tn), .long (cturned fb tn), .int mt, .int re]))]) (va_A [(h0, .inr (3, [.ref lg, .ref fs, .ref ps, .long fa, .long fb, .int mt, .int re]))] sz)) 0 0 (va_A [(h0, .inr (3, [.ref lg, .ref fs, .ref ps, .long fa, .long fb, .int mt, .int re]))] sz) := by
  refine Met.ofW (cc := cX6_turnBoard) (maxL := 2) (ret := none) (by decide) rfl ?_
  intro p e s m args below meth c s₁ B hml hv
  obtain ⟨rfl, rfl, hP, hK, hD0⟩ := hv
  have hx := B.exec
  have hb := B.bytes
  have hr := B.returns
  have hts := atoms_spec (ws := wsX6_turnBoard) B.pre
  have hown : s.vm.findClass RX6 = some m.cls := findClass_of_methodNamed B.named
  have hlocks := B.notSynchronized
  have hD := hD0.self (sz := s.heap.size)
  generalize hAe : va_A [(h0, .inr (3, [.ref lg, .ref fs, .ref ps, .long fa, .long fb, .int mt, .int re]))] s.heap.size = A at hD ⊢
  have hA : ∀ q : Nat, s.heap.size ≤ q → A q := fun q h => by rw [← hAe]; exact Or.inr h
  have hS : va_S A s.heap s.heap [] := va_S.rf
  have hinX6 : ∀ w ∈ wsX60, w ∈ wsX6_turnBoard := by decide +kernel
  have hfl49 : (Cond.fieldLink RX6 49 "Twistquad" "first" "J").before ([.ref h0, .int (nI tn)] : List Value).toArray s = true := hts _ (by decide +kernel)
  have hfl57 : (Cond.fieldLink RX6 57 "Twistquad" "second" "J").before ([.ref h0, .int (nI tn)] : List Value).toArray s = true := hts _ (by decide +kernel)
  have hl := lv_entry ([.ref h0, .int (nI tn)]) (n := 2) (Nat.le_of_ble_eq_true rfl)
  rw [lg_entry_eq]
  generalize (lg_sl ([.ref h0, .int (nI tn)]) ++ List.replicate (2 - (lg_sl ([.ref h0, .int (nI tn)])).length) Slot.unset).toArray = ls at hl ⊢
  have hl : lv_has ls 2 [(0, .ref h0), (1, .int (nI tn))] := hl
  refine lv_aload_n hx hb dX6_turnBoard_0 rfl (lv_at hl 0 rfl) ?_
  refine lv_aload_n hx hb dX6_turnBoard_1 rfl (lv_at hl 0 rfl) ?_
  refine va_get (D := D) (ci := 3) (v := .long fa) (C := RX6) (T := TX6) (N := 7) hx hb hts hinX6 hown hK hP 0 rfl rfl 3 (by decide) hfl49 (fun _ h9 => h9) rfl dX6_turnBoard_2 ?_
  refine lv_iload_n hx hb dX6_turnBoard_5 rfl (lv_at hl 1 rfl) ?_
  refine vp_callSl (W.runS (As := [.long fa, .int (nI tn)]) (rest := [.ref h0]) ⟨hx, hb, hml, hown, hts⟩ (c_X4_turned l fa tn (by omega)) (va_cwS 2 hts gX6_turnBoard_X4_turned rfl rfl rfl (by decide +kernel) ⟨Nat.le_of_ble_eq_true rfl, Nat.le_of_ble_eq_true rfl⟩) ⟨px_blind0, fun U hU hW => ⟨rfl, trivial⟩⟩ rfl rfl hl.1 rfl (lv_room (Nat.le_of_ble_eq_true rfl)) dX6_turnBoard_6 ⟨(Nat.le_of_ble_eq_true rfl), (Nat.le_of_ble_eq_true rfl)⟩) (fun r6 er6 => ?_)
  obtain rfl := er6.symm
  refine va_put (D := D) (ci := 3) (v := .long (cturned fa tn)) (ty := .long) (C := RX6) (T := TX6) (N := 7) hx hb hts hinX6 tyX6 tyX6_ok nmX6 hown hK hP hD hS 0 rfl rfl 3 (by decide) hfl49 (fun _ h9 => h9) rfl (by decide +kernel) rfl rfl (Nat.le_of_ble_eq_true rfl) dX6_turnBoard_9 (fun H locs hP hD hS => ?_)
  have hP : va_P D vwCl [(h0, .inr (3, [.ref lg, .ref fs, .ref ps, .long (cturned fa tn), .long fb, .int mt, .int re]))] H := hP
  have hD : va_D A [(h0, .inr (3, [.ref lg, .ref fs, .ref ps, .long (cturned fa tn), .long fb, .int mt, .int re]))] := hD
  refine lv_aload_n hx hb dX6_turnBoard_12 rfl (lv_at hl 0 rfl) ?_
  refine lv_aload_n hx hb dX6_turnBoard_13 rfl (lv_at hl 0 rfl) ?_
  refine va_get (D := D) (ci := 3) (v := .long fb) (C := RX6) (T := TX6) (N := 7) hx hb hts hinX6 hown hK hP 0 rfl rfl 4 (by decide) hfl57 (fun _ h9 => h9) rfl dX6_turnBoard_14 ?_
  refine lv_iload_n hx hb dX6_turnBoard_17 rfl (lv_at hl 1 rfl) ?_
  refine vp_callSl (W.runS (As := [.long fb, .int (nI tn)]) (rest := [.ref h0]) ⟨hx, hb, hml, hown, hts⟩ (c_X4_turned l fb tn (by omega)) (va_cwS 2 hts gX6_turnBoard_X4_turned rfl rfl rfl (by decide +kernel) ⟨Nat.le_of_ble_eq_true rfl, Nat.le_of_ble_eq_true rfl⟩) ⟨px_blind0, fun U hU hW => ⟨rfl, trivial⟩⟩ rfl rfl hl.1 rfl (lv_room (Nat.le_of_ble_eq_true rfl)) dX6_turnBoard_18 ⟨(Nat.le_of_ble_eq_true rfl), (Nat.le_of_ble_eq_true rfl)⟩) (fun r18 er18 => ?_)
  obtain rfl := er18.symm
  refine va_put (D := D) (ci := 3) (v := .long (cturned fb tn)) (ty := .long) (C := RX6) (T := TX6) (N := 7) hx hb hts hinX6 tyX6 tyX6_ok nmX6 hown hK hP hD hS 0 rfl rfl 4 (by decide) hfl57 (fun _ h9 => h9) rfl (by decide +kernel) rfl rfl (Nat.le_of_ble_eq_true rfl) dX6_turnBoard_21 (fun H locs hP hD hS => ?_)
  have hP : va_P D vwCl [(h0, .inr (3, [.ref lg, .ref fs, .ref ps, .long (cturned fa tn), .long (cturned fb tn), .int mt, .int re]))] H := hP
  have hD : va_D A [(h0, .inr (3, [.ref lg, .ref fs, .ref ps, .long (cturned fa tn), .long (cturned fb tn), .int mt, .int re]))] := hD
  refine W.vret hx hb hr (fun tt ht hW => ⟨⟨(), rfl, ?_, by rw [ht]; exact hP, va_K.moved hW.alike hK, hD⟩, hS.F ht⟩) hS.2.2 dX6_turnBoard_24
  trivial
set_option maxHeartbeats 400000 in
set_option maxRecDepth 100000 in
theorem c_X6_moves (l : Launch) (D : va_G) (cI cJ : ClassId) (h0 lg lc lt fs ps : Nat) (fa fb : Int64) (mt re : Int32) (cs ts : Nat → Int32) (k : Nat) (hk : k ≤ 36)  : Met l yX6_moves wsX6_moves ({ frames := 1, cells := 0, slots := 0, locals := 20 } : Room) (va_Pc [.ref h0] (px_W D [(h0, .inr (3, [.ref lg, .ref fs, .ref ps, .long fa, .long fb, .int mt, .int re])), (lg, .inr (0, [.ref lc, .ref lt, .int (nI k)])), (lc, .inl (cI, 36, .inl cs)), (lt, .inl (cI, 36, .inl ts))] [(cI, .int), (cJ, .long)])) (vp_Si (fun r => r = nI k)) 0 0 (fun _ => False) := by
  refine Met.ofW (cc := cX6_moves) (maxL := 1) (ret := (some .int)) (by decide) rfl ?_
  intro p e s m args below meth c s₁ B hml hv
  obtain ⟨rfl, hP, hK⟩ := hv
  have hx := B.exec
  have hb := B.bytes
  have hr := B.returns
  have hts := atoms_spec (ws := wsX6_moves) B.pre
  have hown : s.vm.findClass RX6 = some m.cls := findClass_of_methodNamed B.named
  have hlocks := B.notSynchronized
  have hinX6 : ∀ w ∈ wsX60, w ∈ wsX6_moves := by decide +kernel
  have hfl12 : (Cond.fieldLink RX6 12 "Twistquad" "log" "LTwistquad$MoveLog;").before ([.ref h0] : List Value).toArray s = true := hts _ (by decide +kernel)
  have hl := lv_entry ([.ref h0]) (n := 1) (Nat.le_of_ble_eq_true rfl)
  rw [lg_entry_eq]
  generalize (lg_sl ([.ref h0]) ++ List.replicate (1 - (lg_sl ([.ref h0])).length) Slot.unset).toArray = ls at hl ⊢
  have hl : lv_has ls 1 [(0, .ref h0)] := hl
  refine lv_aload_n hx hb dX6_moves_0 rfl (lv_at hl 0 rfl) ?_
  refine va_get (D := D) (ci := 3) (v := .ref lg) (C := RX6) (T := TX6) (N := 7) hx hb hts hinX6 hown hK hP 0 rfl rfl 0 (by decide) hfl12 (fun _ h9 => h9) rfl dX6_moves_1 ?_
  refine vp_callSi (W.runV (As := []) (rest := []) ⟨hx, hb, hml, hown, hts⟩ (c_X2_count l D cI cJ lg lc lt cs ts k (by omega) ) (cwV 0 hts gX6_moves_X2_count rfl rfl rfl (by decide +kernel) ⟨Nat.le_of_ble_eq_true rfl, Nat.le_of_ble_eq_true rfl⟩) ⟨px_blindW, va_recv hK hP (ci := 0) (q0 := 1) rfl rfl, fun U hU hW => ⟨rfl, by rw [hU]; exact hP.sub (ws' := [(lg, .inr (0, [.ref lc, .ref lt, .int (nI k)])), (lc, .inl (cI, 36, .inl cs)), (lt, .inl (cI, 36, .inl ts))]) [1, 2, 3] rfl, va_K.moved hW.alike hK⟩⟩ rfl rfl hl.1 rfl (lv_room (Nat.le_of_ble_eq_true rfl)) dX6_moves_4 ⟨(Nat.le_of_ble_eq_true rfl), (Nat.le_of_ble_eq_true rfl)⟩) (fun r4 er4 => ?_)
  obtain rfl := er4.symm
  refine W.iret (v := (nI k)) hx hb hr (fun tt ht hW => ⟨(nI k), rfl, ?_, ht⟩) (fun _ h => nomatch h) dX6_moves_7
  rfl

set_option maxHeartbeats 400000 in
set_option maxRecDepth 100000 in
theorem c_X6_lengthOfText (l : Launch) (D : va_G) (cI cJ : ClassId) (h0 lg lc lt fs ps : Nat) (fa fb : Int64) (mt re : Int32) (cs ts : Nat → Int32) (k : Nat) (hk : k ≤ 36) (j : Nat) (hj : j < k) : Met l yX6_lengthOfText wsX6_lengthOfText ({ frames := 3, cells := 0, slots := 0, locals := 63 } : Room) (va_Pc [.ref h0, .int (nI j)] (px_W D [(h0, .inr (3, [.ref lg, .ref fs, .ref ps, .long fa, .long fb, .int mt, .int re])), (lg, .inr (0, [.ref lc, .ref lt, .int (nI k)])), (lc, .inl (cI, 36, .inl cs)), (lt, .inl (cI, 36, .inl ts))] [(cI, .int), (cJ, .long)])) (vp_Si (fun r => r = if ts j = (-1) then 2 else 4)) 0 0 (fun _ => False) := by
  refine Met.ofW (cc := cX6_lengthOfText) (maxL := 2) (ret := (some .int)) (by decide) rfl ?_
  intro p e s m args below meth c s₁ B hml hv
  obtain ⟨rfl, hP, hK⟩ := hv
  have hx := B.exec
  have hb := B.bytes
  have hr := B.returns
  have hts := atoms_spec (ws := wsX6_lengthOfText) B.pre
  have hown : s.vm.findClass RX6 = some m.cls := findClass_of_methodNamed B.named
  have hlocks := B.notSynchronized
  have hinX6 : ∀ w ∈ wsX60, w ∈ wsX6_lengthOfText := by decide +kernel
  have hfl12 : (Cond.fieldLink RX6 12 "Twistquad" "log" "LTwistquad$MoveLog;").before ([.ref h0, .int (nI j)] : List Value).toArray s = true := hts _ (by decide +kernel)
  have hl := lv_entry ([.ref h0, .int (nI j)]) (n := 2) (Nat.le_of_ble_eq_true rfl)
  rw [lg_entry_eq]
  generalize (lg_sl ([.ref h0, .int (nI j)]) ++ List.replicate (2 - (lg_sl ([.ref h0, .int (nI j)])).length) Slot.unset).toArray = ls at hl ⊢
  have hl : lv_has ls 2 [(0, .ref h0), (1, .int (nI j))] := hl
  refine lv_aload_n hx hb dX6_lengthOfText_0 rfl (lv_at hl 0 rfl) ?_
  refine va_get (D := D) (ci := 3) (v := .ref lg) (C := RX6) (T := TX6) (N := 7) hx hb hts hinX6 hown hK hP 0 rfl rfl 0 (by decide) hfl12 (fun _ h9 => h9) rfl dX6_lengthOfText_1 ?_
  refine lv_iload_n hx hb dX6_lengthOfText_4 rfl (lv_at hl 1 rfl) ?_
  refine vp_callSi (W.runV (As := [.int (nI j)]) (rest := []) ⟨hx, hb, hml, hown, hts⟩ (c_X2_hasTurn l D cI cJ lg lc lt cs ts k (by omega) j (by omega)) (cwV 1 hts gX6_lengthOfText_X2_hasTurn rfl rfl rfl (by decide +kernel) ⟨Nat.le_of_ble_eq_true rfl, Nat.le_of_ble_eq_true rfl⟩) ⟨px_blindW, va_recv hK hP (ci := 0) (q0 := 1) rfl rfl, fun U hU hW => ⟨rfl, by rw [hU]; exact hP.sub (ws' := [(lg, .inr (0, [.ref lc, .ref lt, .int (nI k)])), (lc, .inl (cI, 36, .inl cs)), (lt, .inl (cI, 36, .inl ts))]) [1, 2, 3] rfl, va_K.moved hW.alike hK⟩⟩ rfl rfl hl.1 rfl (lv_room (Nat.le_of_ble_eq_true rfl)) dX6_lengthOfText_5 ⟨(Nat.le_of_ble_eq_true rfl), (Nat.le_of_ble_eq_true rfl)⟩) (fun r5 er5 => ?_)
  obtain rfl := er5.symm
  refine pk_b (P := ¬ ts j = (-1)) (fun b5 => ?_) (fun b5 => ?_)
  · refine lv_if_eq (tgt := 15) hx hb dX6_lengthOfText_8 (by decide) (fun c8 => ?_) (fun c8 => ?_)
    · exact absurd c8 (by decide)
    · refine lv_iconst (v := 4) hx hb dX6_lengthOfText_11 (by decide) ?_
      refine lv_goto (tgt := 16) hx hb dX6_lengthOfText_12 (by decide) ?_
      refine W.iret (v := 4) hx hb hr (fun tt ht hW => ⟨4, rfl, ?_, ht⟩) (fun _ h => nomatch h) dX6_lengthOfText_16
      first | rw [if_pos (Decidable.not_not.mp b5)] | rw [if_neg b5]
  · refine lv_if_eq (tgt := 15) hx hb dX6_lengthOfText_8 (by decide) (fun c8 => ?_) (fun c8 => ?_)
    · refine lv_iconst (v := 2) hx hb dX6_lengthOfText_15 (by decide) ?_
      refine W.iret (v := 2) hx hb hr (fun tt ht hW => ⟨2, rfl, ?_, ht⟩) (fun _ h => nomatch h) dX6_lengthOfText_16
      first | rw [if_pos (Decidable.not_not.mp b5)] | rw [if_neg b5]
    · exact absurd c8 (by decide)
