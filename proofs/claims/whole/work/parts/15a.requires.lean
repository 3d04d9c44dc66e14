def icell (v : Int32) : Prop := 0 ≤ v ∧ v ≤ 35
def iq (v : Int32) : Prop := 0 ≤ v ∧ v ≤ 3
def iw (v : Int32) : Prop := 0 ≤ v ∧ v ≤ 1
def iside (v : Int32) : Prop := 1 ≤ v ∧ v ≤ 2
def imove (k : Nat) (v : Int32) : Prop := 0 ≤ v ∧ v < nI k
def iboard (f g : Int64) : Prop := ((f ||| g) &&& (-68719476736)) = 0 ∧ (f &&& g) = 0 ∧ (nI (pop f) - nI (pop g) = 0 ∨ nI (pop f) - nI (pop g) = 1)
theorem i32_lt36 (v : Int32) : v < 36 ↔ v ≤ 35 := by rw [Int32.lt_iff_toInt_lt, Int32.le_iff_toInt_le, show (36 : Int32).toInt = 36 from rfl, show (35 : Int32).toInt = 35 from rfl]; omega
theorem i32_lt4 (v : Int32) : v < 4 ↔ v ≤ 3 := by rw [Int32.lt_iff_toInt_lt, Int32.le_iff_toInt_le, show (4 : Int32).toInt = 4 from rfl, show (3 : Int32).toInt = 3 from rfl]; omega
theorem i32_lt2 (v : Int32) : v < 2 ↔ v ≤ 1 := by rw [Int32.lt_iff_toInt_lt, Int32.le_iff_toInt_le, show (2 : Int32).toInt = 2 from rfl, show (1 : Int32).toInt = 1 from rfl]; omega
theorem i32_side (v : Int32) : iside v ↔ v = 1 ∨ v = 2 := by
  unfold iside
  rw [Int32.le_iff_toInt_le, Int32.le_iff_toInt_le, ← Int32.toInt_inj, ← Int32.toInt_inj, show (1 : Int32).toInt = 1 from rfl, show (2 : Int32).toInt = 2 from rfl]; omega
theorem i32_nat {v : Int32} {n : Nat} (hn : n < 2 ^ 31) (h0 : 0 ≤ v) (h : v < nI n) : ∃ j, j < n ∧ v = nI j := by
  rcases pk_ix v hn with h1 | h1 | h1
  · exact absurd h0 (Int32.not_le.mpr h1)
  · exact absurd h (Int32.not_lt.mpr h1)
  · exact h1
theorem icell_nat {v : Int32} (h : icell v) : ∃ j, j < 36 ∧ v = nI j := i32_nat (n := 36) (by decide) h.1 ((i32_lt36 v).mpr h.2)
theorem iq_nat {v : Int32} (h : iq v) : ∃ j, j < 4 ∧ v = nI j := i32_nat (n := 4) (by decide) h.1 ((i32_lt4 v).mpr h.2)
theorem iw_nat {v : Int32} (h : iw v) : ∃ j, j < 2 ∧ v = nI j := i32_nat (n := 2) (by decide) h.1 ((i32_lt2 v).mpr h.2)

set_option maxHeartbeats 400000 in
set_option maxRecDepth 100000 in
theorem c_X6_requireCell (l : Launch) (hltr : l.stackTraces = false) (D : va_G) (cI cJ : ClassId) (sz : Nat)  (v : Int32) : vx_Met l yX6_requireCell wsX6_requireCell ({ frames := 6, cells := 1, slots := 6, locals := 90 } : Room) (va_Pc [.int v] (px_X (va_A [] sz) (pv_C D cI cJ [] sz))) (va_Qv (fun (u : Unit) => icell v) (fun (u : Unit) => pv_B D cI cJ (va_A [] sz) []) (va_A [] sz)) (vx_X (fun (_ : Unit) => True) (fun (E : String) (_ : Unit) (tt : State) => (E = nIOB ∧ ¬ icell v) ∧ pv_B D cI cJ (va_A [] sz) [] tt) (va_A [] sz)) 1 6 (va_A [] sz) := by
  refine vx_ofW (cc := cX6_requireCell) (maxL := 1) (ret := none) (by decide) rfl ?_
  intro p e s m args below meth c s₁ B hml htab hv
  obtain ⟨rfl, hEX, hZ, rfl, hP, hK, hD0⟩ := hv
  have hx := B.exec
  have hb := B.bytes
  have hr := B.returns
  have hts := atoms_spec (ws := wsX6_requireCell) B.pre
  have hown : s.vm.findClass RX6 = some m.cls := findClass_of_methodNamed B.named
  have hlocks := B.notSynchronized
  have hD := hD0.self (sz := s.heap.size)
  generalize hAe : va_A [] s.heap.size = A at hD hZ ⊢
  have hA : ∀ q : Nat, s.heap.size ≤ q → A q := fun q h => by rw [← hAe]; exact Or.inr h
  have hS : va_S A s.heap s.heap [] := va_S.rf
  have hl := lv_entry ([.int v]) (n := 1) (Nat.le_of_ble_eq_true rfl)
  rw [lg_entry_eq]
  generalize (lg_sl ([.int v]) ++ List.replicate (1 - (lg_sl ([.int v])).length) Slot.unset).toArray = ls at hl ⊢
  have hl : lv_has ls 1 [(0, .int v)] := hl
  refine lv_iload_n hx hb dX6_requireCell_0 rfl (lv_at hl 0 rfl) ?_
  refine lv_if_lt (tgt := 10) hx hb dX6_requireCell_1 (by decide) (fun c1 => ?_) (fun c1 => ?_)
  · obtain ⟨sa, hstr⟩ := hEX.1 (212, "no such cell") (by unfold xstrs; simp)
    have hmem9 : ∀ w ∈ (vx_atS RX6 158 nIOB ["java/lang/RuntimeException", "java/lang/Exception"]).filter goodWord, w ∈ wsX6_requireCell := fun w h => by first | exact List.mem_cons_of_mem _ (List.mem_append_right _ h) | exact List.mem_cons_of_mem _ (List.mem_append_left _ (List.mem_append_right _ h)) | exact List.mem_cons_of_mem _ (List.mem_append_left _ (List.mem_append_left _ (List.mem_append_right _ h)))
    refine vx_throwS (own := RX6) (cls := nIOB) (text := "no such cell") (names := ["java/lang/RuntimeException", "java/lang/Exception"]) (ik := 154) (is := 212) (ic := 158) hx hb hltr hown (by decide +kernel) (by decide +kernel) (hts _ (by decide +kernel)) (hts _ (by decide +kernel)) hstr (vx_hat (fun w h => hts w (hmem9 w h)) vx_nong_IOB (vx_c (va_Nw.use rfl hEX.2.1) (vx_c (va_Nw.use rfl hEX.2.2.2.2.1) (vx_c (va_Nw.use rfl hEX.2.2.2.2.2.1) (vx_c (va_Nw.use rfl hEX.2.2.2.2.2.2) vx_n))))) vx_ot_IOB hZ.1 hZ.2 hS (hl.1.trans hml.symm) dX6_requireCell_10 dX6_requireCell_13 dX6_requireCell_14 dX6_requireCell_16 dX6_requireCell_19 (fun x h => (htab x h).elim) (by decide) (Nat.le_of_ble_eq_true rfl) (Nat.le_of_ble_eq_true rfl) (Nat.le_of_ble_eq_true rfl) hlocks (fun tt hvm hz hk => ⟨(), trivial, ⟨⟨rfl, fun h => by first | exact absurd h.1 (Int32.not_le.mpr c1) | exact c7 ((i32_lt36 v).mpr h.2)⟩, px_P hP hk, va_K.moved hvm hK, hD⟩, px_F hS hz hk⟩) hS.2.2 (Nat.le_of_ble_eq_true rfl) (Nat.le_of_ble_eq_true rfl)
  · refine lv_iload_n hx hb dX6_requireCell_4 rfl (lv_at hl 0 rfl) ?_
    refine lv_bipush (v := 36) hx hb dX6_requireCell_5 (by decide) ?_
    refine lv_icmp_lt (tgt := 20) hx hb dX6_requireCell_7 (by decide) (fun c7 => ?_) (fun c7 => ?_)
    · refine vx_ret ?_
      refine W.widen (k := 1) (n := 6) (Nat.le_of_ble_eq_true rfl) (Nat.le_of_ble_eq_true rfl) ?_
      refine W.vret hx hb hr (fun tt ht hW => ⟨⟨(), rfl, ?_, by rw [ht]; exact hP, va_K.moved hW.alike hK, hD⟩, hS.F ht⟩) hS.2.2 dX6_requireCell_20
      exact ⟨Int32.not_lt.mp c1, (i32_lt36 v).mp c7⟩
    · obtain ⟨sa, hstr⟩ := hEX.1 (212, "no such cell") (by unfold xstrs; simp)
      have hmem9 : ∀ w ∈ (vx_atS RX6 158 nIOB ["java/lang/RuntimeException", "java/lang/Exception"]).filter goodWord, w ∈ wsX6_requireCell := fun w h => by first | exact List.mem_cons_of_mem _ (List.mem_append_right _ h) | exact List.mem_cons_of_mem _ (List.mem_append_left _ (List.mem_append_right _ h)) | exact List.mem_cons_of_mem _ (List.mem_append_left _ (List.mem_append_left _ (List.mem_append_right _ h)))
      refine vx_throwS (own := RX6) (cls := nIOB) (text := "no such cell") (names := ["java/lang/RuntimeException", "java/lang/Exception"]) (ik := 154) (is := 212) (ic := 158) hx hb hltr hown (by decide +kernel) (by decide +kernel) (hts _ (by decide +kernel)) (hts _ (by decide +kernel)) hstr (vx_hat (fun w h => hts w (hmem9 w h)) vx_nong_IOB (vx_c (va_Nw.use rfl hEX.2.1) (vx_c (va_Nw.use rfl hEX.2.2.2.2.1) (vx_c (va_Nw.use rfl hEX.2.2.2.2.2.1) (vx_c (va_Nw.use rfl hEX.2.2.2.2.2.2) vx_n))))) vx_ot_IOB hZ.1 hZ.2 hS (hl.1.trans hml.symm) dX6_requireCell_10 dX6_requireCell_13 dX6_requireCell_14 dX6_requireCell_16 dX6_requireCell_19 (fun x h => (htab x h).elim) (by decide) (Nat.le_of_ble_eq_true rfl) (Nat.le_of_ble_eq_true rfl) (Nat.le_of_ble_eq_true rfl) hlocks (fun tt hvm hz hk => ⟨(), trivial, ⟨⟨rfl, fun h => by first | exact absurd h.1 (Int32.not_le.mpr c1) | exact c7 ((i32_lt36 v).mpr h.2)⟩, px_P hP hk, va_K.moved hvm hK, hD⟩, px_F hS hz hk⟩) hS.2.2 (Nat.le_of_ble_eq_true rfl) (Nat.le_of_ble_eq_true rfl)

set_option maxHeartbeats 400000 in
set_option maxRecDepth 100000 in
theorem c_X6_requireQuarter (l : Launch) (hltr : l.stackTraces = false) (D : va_G) (cI cJ : ClassId) (sz : Nat)  (v : Int32) : vx_Met l yX6_requireQuarter wsX6_requireQuarter ({ frames := 6, cells := 1, slots := 6, locals := 90 } : Room) (va_Pc [.int v] (px_X (va_A [] sz) (pv_C D cI cJ [] sz))) (va_Qv (fun (u : Unit) => iq v) (fun (u : Unit) => pv_B D cI cJ (va_A [] sz) []) (va_A [] sz)) (vx_X (fun (_ : Unit) => True) (fun (E : String) (_ : Unit) (tt : State) => (E = nIOB ∧ ¬ iq v) ∧ pv_B D cI cJ (va_A [] sz) [] tt) (va_A [] sz)) 1 6 (va_A [] sz) := by
  refine vx_ofW (cc := cX6_requireQuarter) (maxL := 1) (ret := none) (by decide) rfl ?_
  intro p e s m args below meth c s₁ B hml htab hv
  obtain ⟨rfl, hEX, hZ, rfl, hP, hK, hD0⟩ := hv
  have hx := B.exec
  have hb := B.bytes
  have hr := B.returns
  have hts := atoms_spec (ws := wsX6_requireQuarter) B.pre
  have hown : s.vm.findClass RX6 = some m.cls := findClass_of_methodNamed B.named
  have hlocks := B.notSynchronized
  have hD := hD0.self (sz := s.heap.size)
  generalize hAe : va_A [] s.heap.size = A at hD hZ ⊢
  have hA : ∀ q : Nat, s.heap.size ≤ q → A q := fun q h => by rw [← hAe]; exact Or.inr h
  have hS : va_S A s.heap s.heap [] := va_S.rf
  have hl := lv_entry ([.int v]) (n := 1) (Nat.le_of_ble_eq_true rfl)
  rw [lg_entry_eq]
  generalize (lg_sl ([.int v]) ++ List.replicate (1 - (lg_sl ([.int v])).length) Slot.unset).toArray = ls at hl ⊢
  have hl : lv_has ls 1 [(0, .int v)] := hl
  refine lv_iload_n hx hb dX6_requireQuarter_0 rfl (lv_at hl 0 rfl) ?_
  refine lv_if_lt (tgt := 9) hx hb dX6_requireQuarter_1 (by decide) (fun c1 => ?_) (fun c1 => ?_)
  · obtain ⟨sa, hstr⟩ := hEX.1 (216, "no such quarte\x72") (by unfold xstrs; simp)
    have hmem9 : ∀ w ∈ (vx_atS RX6 158 nIOB ["java/lang/RuntimeException", "java/lang/Exception"]).filter goodWord, w ∈ wsX6_requireQuarter := fun w h => by first | exact List.mem_cons_of_mem _ (List.mem_append_right _ h) | exact List.mem_cons_of_mem _ (List.mem_append_left _ (List.mem_append_right _ h)) | exact List.mem_cons_of_mem _ (List.mem_append_left _ (List.mem_append_left _ (List.mem_append_right _ h)))
    refine vx_throwS (own := RX6) (cls := nIOB) (text := "no such quarte\x72") (names := ["java/lang/RuntimeException", "java/lang/Exception"]) (ik := 154) (is := 216) (ic := 158) hx hb hltr hown (by decide +kernel) (by decide +kernel) (hts _ (by decide +kernel)) (hts _ (by decide +kernel)) hstr (vx_hat (fun w h => hts w (hmem9 w h)) vx_nong_IOB (vx_c (va_Nw.use rfl hEX.2.1) (vx_c (va_Nw.use rfl hEX.2.2.2.2.1) (vx_c (va_Nw.use rfl hEX.2.2.2.2.2.1) (vx_c (va_Nw.use rfl hEX.2.2.2.2.2.2) vx_n))))) vx_ot_IOB hZ.1 hZ.2 hS (hl.1.trans hml.symm) dX6_requireQuarter_9 dX6_requireQuarter_12 dX6_requireQuarter_13 dX6_requireQuarter_15 dX6_requireQuarter_18 (fun x h => (htab x h).elim) (by decide) (Nat.le_of_ble_eq_true rfl) (Nat.le_of_ble_eq_true rfl) (Nat.le_of_ble_eq_true rfl) hlocks (fun tt hvm hz hk => ⟨(), trivial, ⟨⟨rfl, fun h => by first | exact absurd h.1 (Int32.not_le.mpr c1) | exact c6 ((i32_lt4 v).mpr h.2)⟩, px_P hP hk, va_K.moved hvm hK, hD⟩, px_F hS hz hk⟩) hS.2.2 (Nat.le_of_ble_eq_true rfl) (Nat.le_of_ble_eq_true rfl)
  · refine lv_iload_n hx hb dX6_requireQuarter_4 rfl (lv_at hl 0 rfl) ?_
    refine lv_iconst (v := 4) hx hb dX6_requireQuarter_5 (by decide) ?_
    refine lv_icmp_lt (tgt := 19) hx hb dX6_requireQuarter_6 (by decide) (fun c6 => ?_) (fun c6 => ?_)
    · refine vx_ret ?_
      refine W.widen (k := 1) (n := 6) (Nat.le_of_ble_eq_true rfl) (Nat.le_of_ble_eq_true rfl) ?_
      refine W.vret hx hb hr (fun tt ht hW => ⟨⟨(), rfl, ?_, by rw [ht]; exact hP, va_K.moved hW.alike hK, hD⟩, hS.F ht⟩) hS.2.2 dX6_requireQuarter_19
      exact ⟨Int32.not_lt.mp c1, (i32_lt4 v).mp c6⟩
    · obtain ⟨sa, hstr⟩ := hEX.1 (216, "no such quarte\x72") (by unfold xstrs; simp)
      have hmem9 : ∀ w ∈ (vx_atS RX6 158 nIOB ["java/lang/RuntimeException", "java/lang/Exception"]).filter goodWord, w ∈ wsX6_requireQuarter := fun w h => by first | exact List.mem_cons_of_mem _ (List.mem_append_right _ h) | exact List.mem_cons_of_mem _ (List.mem_append_left _ (List.mem_append_right _ h)) | exact List.mem_cons_of_mem _ (List.mem_append_left _ (List.mem_append_left _ (List.mem_append_right _ h)))
      refine vx_throwS (own := RX6) (cls := nIOB) (text := "no such quarte\x72") (names := ["java/lang/RuntimeException", "java/lang/Exception"]) (ik := 154) (is := 216) (ic := 158) hx hb hltr hown (by decide +kernel) (by decide +kernel) (hts _ (by decide +kernel)) (hts _ (by decide +kernel)) hstr (vx_hat (fun w h => hts w (hmem9 w h)) vx_nong_IOB (vx_c (va_Nw.use rfl hEX.2.1) (vx_c (va_Nw.use rfl hEX.2.2.2.2.1) (vx_c (va_Nw.use rfl hEX.2.2.2.2.2.1) (vx_c (va_Nw.use rfl hEX.2.2.2.2.2.2) vx_n))))) vx_ot_IOB hZ.1 hZ.2 hS (hl.1.trans hml.symm) dX6_requireQuarter_9 dX6_requireQuarter_12 dX6_requireQuarter_13 dX6_requireQuarter_15 dX6_requireQuarter_18 (fun x h => (htab x h).elim) (by decide) (Nat.le_of_ble_eq_true rfl) (Nat.le_of_ble_eq_true rfl) (Nat.le_of_ble_eq_true rfl) hlocks (fun tt hvm hz hk => ⟨(), trivial, ⟨⟨rfl, fun h => by first | exact absurd h.1 (Int32.not_le.mpr c1) | exact c6 ((i32_lt4 v).mpr h.2)⟩, px_P hP hk, va_K.moved hvm hK, hD⟩, px_F hS hz hk⟩) hS.2.2 (Nat.le_of_ble_eq_true rfl) (Nat.le_of_ble_eq_true rfl)

set_option maxHeartbeats 400000 in
set_option maxRecDepth 100000 in
theorem c_X6_requireWay (l : Launch) (hltr : l.stackTraces = false) (D : va_G) (cI cJ : ClassId) (sz : Nat)  (v : Int32) : vx_Met l yX6_requireWay wsX6_requireWay ({ frames := 6, cells := 1, slots := 6, locals := 90 } : Room) (va_Pc [.int v] (px_X (va_A [] sz) (pv_C D cI cJ [] sz))) (va_Qv (fun (u : Unit) => iw v) (fun (u : Unit) => pv_B D cI cJ (va_A [] sz) []) (va_A [] sz)) (vx_X (fun (_ : Unit) => True) (fun (E : String) (_ : Unit) (tt : State) => (E = nIAE ∧ ¬ iw v) ∧ pv_B D cI cJ (va_A [] sz) [] tt) (va_A [] sz)) 1 6 (va_A [] sz) := by
  refine vx_ofW (cc := cX6_requireWay) (maxL := 1) (ret := none) (by decide) rfl ?_
  intro p e s m args below meth c s₁ B hml htab hv
  obtain ⟨rfl, hEX, hZ, rfl, hP, hK, hD0⟩ := hv
  have hx := B.exec
  have hb := B.bytes
  have hr := B.returns
  have hts := atoms_spec (ws := wsX6_requireWay) B.pre
  have hown : s.vm.findClass RX6 = some m.cls := findClass_of_methodNamed B.named
  have hlocks := B.notSynchronized
  have hD := hD0.self (sz := s.heap.size)
  generalize hAe : va_A [] s.heap.size = A at hD hZ ⊢
  have hA : ∀ q : Nat, s.heap.size ≤ q → A q := fun q h => by rw [← hAe]; exact Or.inr h
  have hS : va_S A s.heap s.heap [] := va_S.rf
  have hl := lv_entry ([.int v]) (n := 1) (Nat.le_of_ble_eq_true rfl)
  rw [lg_entry_eq]
  generalize (lg_sl ([.int v]) ++ List.replicate (1 - (lg_sl ([.int v])).length) Slot.unset).toArray = ls at hl ⊢
  have hl : lv_has ls 1 [(0, .int v)] := hl
  refine lv_iload_n hx hb dX6_requireWay_0 rfl (lv_at hl 0 rfl) ?_
  refine lv_if_lt (tgt := 9) hx hb dX6_requireWay_1 (by decide) (fun c1 => ?_) (fun c1 => ?_)
  · obtain ⟨sa, hstr⟩ := hEX.1 (220, "no such way") (by unfold xstrs; simp)
    have hmem9 : ∀ w ∈ (vx_atS RX6 222 nIAE ["java/lang/RuntimeException", "java/lang/Exception"]).filter goodWord, w ∈ wsX6_requireWay := fun w h => by first | exact List.mem_cons_of_mem _ (List.mem_append_right _ h) | exact List.mem_cons_of_mem _ (List.mem_append_left _ (List.mem_append_right _ h)) | exact List.mem_cons_of_mem _ (List.mem_append_left _ (List.mem_append_left _ (List.mem_append_right _ h)))
    refine vx_throwS (own := RX6) (cls := nIAE) (text := "no such way") (names := ["java/lang/RuntimeException", "java/lang/Exception"]) (ik := 218) (is := 220) (ic := 222) hx hb hltr hown (by decide +kernel) (by decide +kernel) (hts _ (by decide +kernel)) (hts _ (by decide +kernel)) hstr (vx_hat (fun w h => hts w (hmem9 w h)) vx_nong_IAE (vx_c (va_Nw.use rfl hEX.2.2.2.1) (vx_c (va_Nw.use rfl hEX.2.2.2.2.1) (vx_c (va_Nw.use rfl hEX.2.2.2.2.2.1) (vx_c (va_Nw.use rfl hEX.2.2.2.2.2.2) vx_n))))) vx_ot_IAE hZ.1 hZ.2 hS (hl.1.trans hml.symm) dX6_requireWay_9 dX6_requireWay_12 dX6_requireWay_13 dX6_requireWay_15 dX6_requireWay_18 (fun x h => (htab x h).elim) (by decide) (Nat.le_of_ble_eq_true rfl) (Nat.le_of_ble_eq_true rfl) (Nat.le_of_ble_eq_true rfl) hlocks (fun tt hvm hz hk => ⟨(), trivial, ⟨⟨rfl, fun h => by first | exact absurd h.1 (Int32.not_le.mpr c1) | exact c6 ((i32_lt2 v).mpr h.2)⟩, px_P hP hk, va_K.moved hvm hK, hD⟩, px_F hS hz hk⟩) hS.2.2 (Nat.le_of_ble_eq_true rfl) (Nat.le_of_ble_eq_true rfl)
  · refine lv_iload_n hx hb dX6_requireWay_4 rfl (lv_at hl 0 rfl) ?_
    refine lv_iconst (v := 2) hx hb dX6_requireWay_5 (by decide) ?_
    refine lv_icmp_lt (tgt := 19) hx hb dX6_requireWay_6 (by decide) (fun c6 => ?_) (fun c6 => ?_)
    · refine vx_ret ?_
      refine W.widen (k := 1) (n := 6) (Nat.le_of_ble_eq_true rfl) (Nat.le_of_ble_eq_true rfl) ?_
      refine W.vret hx hb hr (fun tt ht hW => ⟨⟨(), rfl, ?_, by rw [ht]; exact hP, va_K.moved hW.alike hK, hD⟩, hS.F ht⟩) hS.2.2 dX6_requireWay_19
      exact ⟨Int32.not_lt.mp c1, (i32_lt2 v).mp c6⟩
    · obtain ⟨sa, hstr⟩ := hEX.1 (220, "no such way") (by unfold xstrs; simp)
      have hmem9 : ∀ w ∈ (vx_atS RX6 222 nIAE ["java/lang/RuntimeException", "java/lang/Exception"]).filter goodWord, w ∈ wsX6_requireWay := fun w h => by first | exact List.mem_cons_of_mem _ (List.mem_append_right _ h) | exact List.mem_cons_of_mem _ (List.mem_append_left _ (List.mem_append_right _ h)) | exact List.mem_cons_of_mem _ (List.mem_append_left _ (List.mem_append_left _ (List.mem_append_right _ h)))
      refine vx_throwS (own := RX6) (cls := nIAE) (text := "no such way") (names := ["java/lang/RuntimeException", "java/lang/Exception"]) (ik := 218) (is := 220) (ic := 222) hx hb hltr hown (by decide +kernel) (by decide +kernel) (hts _ (by decide +kernel)) (hts _ (by decide +kernel)) hstr (vx_hat (fun w h => hts w (hmem9 w h)) vx_nong_IAE (vx_c (va_Nw.use rfl hEX.2.2.2.1) (vx_c (va_Nw.use rfl hEX.2.2.2.2.1) (vx_c (va_Nw.use rfl hEX.2.2.2.2.2.1) (vx_c (va_Nw.use rfl hEX.2.2.2.2.2.2) vx_n))))) vx_ot_IAE hZ.1 hZ.2 hS (hl.1.trans hml.symm) dX6_requireWay_9 dX6_requireWay_12 dX6_requireWay_13 dX6_requireWay_15 dX6_requireWay_18 (fun x h => (htab x h).elim) (by decide) (Nat.le_of_ble_eq_true rfl) (Nat.le_of_ble_eq_true rfl) (Nat.le_of_ble_eq_true rfl) hlocks (fun tt hvm hz hk => ⟨(), trivial, ⟨⟨rfl, fun h => by first | exact absurd h.1 (Int32.not_le.mpr c1) | exact c6 ((i32_lt2 v).mpr h.2)⟩, px_P hP hk, va_K.moved hvm hK, hD⟩, px_F hS hz hk⟩) hS.2.2 (Nat.le_of_ble_eq_true rfl) (Nat.le_of_ble_eq_true rfl)

set_option maxHeartbeats 400000 in
set_option maxRecDepth 100000 in
theorem c_X6_requireSide (l : Launch) (hltr : l.stackTraces = false) (D : va_G) (cI cJ : ClassId) (sz : Nat)  (v : Int32) : vx_Met l yX6_requireSide wsX6_requireSide ({ frames := 6, cells := 1, slots := 6, locals := 90 } : Room) (va_Pc [.int v] (px_X (va_A [] sz) (pv_C D cI cJ [] sz))) (va_Qv (fun (u : Unit) => iside v) (fun (u : Unit) => pv_B D cI cJ (va_A [] sz) []) (va_A [] sz)) (vx_X (fun (_ : Unit) => True) (fun (E : String) (_ : Unit) (tt : State) => (E = nIOB ∧ ¬ iside v) ∧ pv_B D cI cJ (va_A [] sz) [] tt) (va_A [] sz)) 1 6 (va_A [] sz) := by
  refine vx_ofW (cc := cX6_requireSide) (maxL := 1) (ret := none) (by decide) rfl ?_
  intro p e s m args below meth c s₁ B hml htab hv
  obtain ⟨rfl, hEX, hZ, rfl, hP, hK, hD0⟩ := hv
  have hx := B.exec
  have hb := B.bytes
  have hr := B.returns
  have hts := atoms_spec (ws := wsX6_requireSide) B.pre
  have hown : s.vm.findClass RX6 = some m.cls := findClass_of_methodNamed B.named
  have hlocks := B.notSynchronized
  have hD := hD0.self (sz := s.heap.size)
  generalize hAe : va_A [] s.heap.size = A at hD hZ ⊢
  have hA : ∀ q : Nat, s.heap.size ≤ q → A q := fun q h => by rw [← hAe]; exact Or.inr h
  have hS : va_S A s.heap s.heap [] := va_S.rf
  have hl := lv_entry ([.int v]) (n := 1) (Nat.le_of_ble_eq_true rfl)
  rw [lg_entry_eq]
  generalize (lg_sl ([.int v]) ++ List.replicate (1 - (lg_sl ([.int v])).length) Slot.unset).toArray = ls at hl ⊢
  have hl : lv_has ls 1 [(0, .int v)] := hl
  refine lv_iload_n hx hb dX6_requireSide_0 rfl (lv_at hl 0 rfl) ?_
  refine lv_iconst (v := 1) hx hb dX6_requireSide_1 (by decide) ?_
  refine lv_icmp_eq (tgt := 20) hx hb dX6_requireSide_2 (by decide) (fun c2 => ?_) (fun c2 => ?_)
  · refine vx_ret ?_
    refine W.widen (k := 1) (n := 6) (Nat.le_of_ble_eq_true rfl) (Nat.le_of_ble_eq_true rfl) ?_
    refine W.vret hx hb hr (fun tt ht hW => ⟨⟨(), rfl, ?_, by rw [ht]; exact hP, va_K.moved hW.alike hK, hD⟩, hS.F ht⟩) hS.2.2 dX6_requireSide_20
    exact (i32_side v).mpr (by first | exact Or.inl c2 | exact Or.inr c7)
  · refine lv_iload_n hx hb dX6_requireSide_5 rfl (lv_at hl 0 rfl) ?_
    refine lv_iconst (v := 2) hx hb dX6_requireSide_6 (by decide) ?_
    refine lv_icmp_eq (tgt := 20) hx hb dX6_requireSide_7 (by decide) (fun c7 => ?_) (fun c7 => ?_)
    · refine vx_ret ?_
      refine W.widen (k := 1) (n := 6) (Nat.le_of_ble_eq_true rfl) (Nat.le_of_ble_eq_true rfl) ?_
      refine W.vret hx hb hr (fun tt ht hW => ⟨⟨(), rfl, ?_, by rw [ht]; exact hP, va_K.moved hW.alike hK, hD⟩, hS.F ht⟩) hS.2.2 dX6_requireSide_20
      exact (i32_side v).mpr (by first | exact Or.inl c2 | exact Or.inr c7)
    · obtain ⟨sa, hstr⟩ := hEX.1 (214, "no such side") (by unfold xstrs; simp)
      have hmem9 : ∀ w ∈ (vx_atS RX6 158 nIOB ["java/lang/RuntimeException", "java/lang/Exception"]).filter goodWord, w ∈ wsX6_requireSide := fun w h => by first | exact List.mem_cons_of_mem _ (List.mem_append_right _ h) | exact List.mem_cons_of_mem _ (List.mem_append_left _ (List.mem_append_right _ h)) | exact List.mem_cons_of_mem _ (List.mem_append_left _ (List.mem_append_left _ (List.mem_append_right _ h)))
      refine vx_throwS (own := RX6) (cls := nIOB) (text := "no such side") (names := ["java/lang/RuntimeException", "java/lang/Exception"]) (ik := 154) (is := 214) (ic := 158) hx hb hltr hown (by decide +kernel) (by decide +kernel) (hts _ (by decide +kernel)) (hts _ (by decide +kernel)) hstr (vx_hat (fun w h => hts w (hmem9 w h)) vx_nong_IOB (vx_c (va_Nw.use rfl hEX.2.1) (vx_c (va_Nw.use rfl hEX.2.2.2.2.1) (vx_c (va_Nw.use rfl hEX.2.2.2.2.2.1) (vx_c (va_Nw.use rfl hEX.2.2.2.2.2.2) vx_n))))) vx_ot_IOB hZ.1 hZ.2 hS (hl.1.trans hml.symm) dX6_requireSide_10 dX6_requireSide_13 dX6_requireSide_14 dX6_requireSide_16 dX6_requireSide_19 (fun x h => (htab x h).elim) (by decide) (Nat.le_of_ble_eq_true rfl) (Nat.le_of_ble_eq_true rfl) (Nat.le_of_ble_eq_true rfl) hlocks (fun tt hvm hz hk => ⟨(), trivial, ⟨⟨rfl, fun h => ((i32_side v).mp h).elim c2 c7⟩, px_P hP hk, va_K.moved hvm hK, hD⟩, px_F hS hz hk⟩) hS.2.2 (Nat.le_of_ble_eq_true rfl) (Nat.le_of_ble_eq_true rfl)

set_option maxHeartbeats 400000 in
set_option maxRecDepth 100000 in
theorem c_X6_requireBoard (l : Launch) (hltr : l.stackTraces = false) (D : va_G) (cI cJ : ClassId) (sz : Nat)  (f g : Int64) : vx_Met l yX6_requireBoard wsX6_requireBoard ({ frames := 6, cells := 1, slots := 6, locals := 90 } : Room) (va_Pc [.long f, .long g] (px_X (va_A [] sz) (pv_C D cI cJ [] sz))) (va_Qv (fun (u : Unit) => iboard f g) (fun (u : Unit) => pv_B D cI cJ (va_A [] sz) []) (va_A [] sz)) (vx_X (fun (_ : Unit) => True) (fun (E : String) (_ : Unit) (tt : State) => (E = nIAE ∧ ¬ iboard f g) ∧ pv_B D cI cJ (va_A [] sz) [] tt) (va_A [] sz)) 1 6 (va_A [] sz) := by
  refine vx_ofW (cc := cX6_requireBoard) (maxL := 5) (ret := none) (by decide) rfl ?_
  intro p e s m args below meth c s₁ B hml htab hv
  obtain ⟨rfl, hEX, hZ, rfl, hP, hK, hD0⟩ := hv
  have hx := B.exec
  have hb := B.bytes
  have hr := B.returns
  have hts := atoms_spec (ws := wsX6_requireBoard) B.pre
  have hown : s.vm.findClass RX6 = some m.cls := findClass_of_methodNamed B.named
  have hlocks := B.notSynchronized
  have hD := hD0.self (sz := s.heap.size)
  generalize hAe : va_A [] s.heap.size = A at hD hZ ⊢
  have hA : ∀ q : Nat, s.heap.size ≤ q → A q := fun q h => by rw [← hAe]; exact Or.inr h
  have hS : va_S A s.heap s.heap [] := va_S.rf
  have hl := lv_entry ([.long f, .long g]) (n := 5) (Nat.le_of_ble_eq_true rfl)
  rw [lg_entry_eq]
  generalize (lg_sl ([.long f, .long g]) ++ List.replicate (5 - (lg_sl ([.long f, .long g])).length) Slot.unset).toArray = ls at hl ⊢
  have hl : lv_has ls 5 [(0, .long f), (2, .long g)] := hl
  refine lv_lload_n hx hb dX6_requireBoard_0 rfl (lv_at hl 0 rfl) ?_
  refine lv_lload_n hx hb dX6_requireBoard_1 rfl (lv_at hl 1 rfl) ?_
  refine lv_lor hx hb dX6_requireBoard_2 ?_
  refine lv_topl (fun x2 ex2 => ?_)
  refine lv_ldc2 (v := (-68719476736)) hx hb hown (hts (.constantLong RX6 223 (-68719476736)) (by decide +kernel)) dX6_requireBoard_3 ?_
  refine lv_land hx hb dX6_requireBoard_6 ?_
  refine lv_topl (fun x6 ex6 => ?_)
  refine lv_lconst (v := 0) hx hb dX6_requireBoard_7 (by decide) ?_
  refine W.lcmp hx hb dX6_requireBoard_8 ?_
  refine lv_if_eq (tgt := 22) hx hb dX6_requireBoard_9 (by decide) (fun c9 => ?_) (fun c9 => ?_)
  · rw [lg_cmp_eq] at c9
    refine lv_lload_n hx hb dX6_requireBoard_22 rfl (lv_at hl 0 rfl) ?_
    refine lv_lload_n hx hb dX6_requireBoard_23 rfl (lv_at hl 1 rfl) ?_
    refine lv_land hx hb dX6_requireBoard_24 ?_
    refine lv_topl (fun x24 ex24 => ?_)
    refine lv_lconst (v := 0) hx hb dX6_requireBoard_25 (by decide) ?_
    refine W.lcmp hx hb dX6_requireBoard_26 ?_
    refine lv_if_eq (tgt := 40) hx hb dX6_requireBoard_27 (by decide) (fun c27 => ?_) (fun c27 => ?_)
    · rw [lg_cmp_eq] at c27
      refine lv_lload_n hx hb dX6_requireBoard_40 rfl (lv_at hl 0 rfl) ?_
      refine vp_callSi (W.runS (As := [.long f]) (rest := []) ⟨hx, hb, hml, hown, hts⟩ (c_J13_bitCount_95d88 l f) (va_cwS 1 hts gX6_requireBoard_J13_bitCount_95d88 rfl rfl rfl (by decide +kernel) ⟨Nat.le_of_ble_eq_true rfl, Nat.le_of_ble_eq_true rfl⟩) ⟨px_blind0, fun U hU hW => ⟨rfl, trivial⟩⟩ rfl rfl hl.1 rfl (lv_room (Nat.le_of_ble_eq_true rfl)) dX6_requireBoard_41 ⟨(Nat.le_of_ble_eq_true rfl), (Nat.le_of_ble_eq_true rfl)⟩) (fun r41 er41 => ?_)
      obtain rfl := er41.symm
      refine lv_lload_n hx hb dX6_requireBoard_44 rfl (lv_at hl 1 rfl) ?_
      refine vp_callSi (W.runS (As := [.long g]) (rest := [.int (nI (pop f))]) ⟨hx, hb, hml, hown, hts⟩ (c_J13_bitCount_95d88 l g) (va_cwS 1 hts gX6_requireBoard_J13_bitCount_95d88 rfl rfl rfl (by decide +kernel) ⟨Nat.le_of_ble_eq_true rfl, Nat.le_of_ble_eq_true rfl⟩) ⟨px_blind0, fun U hU hW => ⟨rfl, trivial⟩⟩ rfl rfl hl.1 rfl (lv_room (Nat.le_of_ble_eq_true rfl)) dX6_requireBoard_45 ⟨(Nat.le_of_ble_eq_true rfl), (Nat.le_of_ble_eq_true rfl)⟩) (fun r45 er45 => ?_)
      obtain rfl := er45.symm
      refine lv_isub hx hb dX6_requireBoard_48 ?_
      refine lv_topi (fun x48 ex48 => ?_)
      refine lv_istore (lv' := [(4, .int x48), (0, .long f), (2, .long g)]) hx hb dX6_requireBoard_49 hl (by decide) rfl (fun ls hl => ?_)
      refine lv_iload hx hb dX6_requireBoard_51 (lv_at hl 0 rfl) ?_
      refine lv_if_eq (tgt := 72) hx hb dX6_requireBoard_53 (by decide) (fun c53 => ?_) (fun c53 => ?_)
      · refine vx_ret ?_
        refine W.widen (k := 1) (n := 6) (Nat.le_of_ble_eq_true rfl) (Nat.le_of_ble_eq_true rfl) ?_
        refine W.vret hx hb hr (fun tt ht hW => ⟨⟨(), rfl, ?_, by rw [ht]; exact hP, va_K.moved hW.alike hK, hD⟩, hS.F ht⟩) hS.2.2 dX6_requireBoard_72
        obtain rfl := ex2.symm; obtain rfl := ex6.symm; obtain rfl := ex24.symm; obtain rfl := ex48.symm; exact ⟨c9, c27, by first | exact Or.inl c53 | exact Or.inr c59⟩
      · refine lv_iload hx hb dX6_requireBoard_56 (lv_at hl 0 rfl) ?_
        refine lv_iconst (v := 1) hx hb dX6_requireBoard_58 (by decide) ?_
        refine lv_icmp_eq (tgt := 72) hx hb dX6_requireBoard_59 (by decide) (fun c59 => ?_) (fun c59 => ?_)
        · refine vx_ret ?_
          refine W.widen (k := 1) (n := 6) (Nat.le_of_ble_eq_true rfl) (Nat.le_of_ble_eq_true rfl) ?_
          refine W.vret hx hb hr (fun tt ht hW => ⟨⟨(), rfl, ?_, by rw [ht]; exact hP, va_K.moved hW.alike hK, hD⟩, hS.F ht⟩) hS.2.2 dX6_requireBoard_72
          obtain rfl := ex2.symm; obtain rfl := ex6.symm; obtain rfl := ex24.symm; obtain rfl := ex48.symm; exact ⟨c9, c27, by first | exact Or.inl c53 | exact Or.inr c59⟩
        · obtain ⟨sa, hstr⟩ := hEX.1 (229, "no side can be to move") (by unfold xstrs; simp)
          have hmem9 : ∀ w ∈ (vx_atS RX6 222 nIAE ["java/lang/RuntimeException", "java/lang/Exception"]).filter goodWord, w ∈ wsX6_requireBoard := fun w h => by first | exact List.mem_cons_of_mem _ (List.mem_append_right _ h) | exact List.mem_cons_of_mem _ (List.mem_append_left _ (List.mem_append_right _ h)) | exact List.mem_cons_of_mem _ (List.mem_append_left _ (List.mem_append_left _ (List.mem_append_right _ h)))
          refine vx_throwS (own := RX6) (cls := nIAE) (text := "no side can be to move") (names := ["java/lang/RuntimeException", "java/lang/Exception"]) (ik := 218) (is := 229) (ic := 222) hx hb hltr hown (by decide +kernel) (by decide +kernel) (hts _ (by decide +kernel)) (hts _ (by decide +kernel)) hstr (vx_hat (fun w h => hts w (hmem9 w h)) vx_nong_IAE (vx_c (va_Nw.use rfl hEX.2.2.2.1) (vx_c (va_Nw.use rfl hEX.2.2.2.2.1) (vx_c (va_Nw.use rfl hEX.2.2.2.2.2.1) (vx_c (va_Nw.use rfl hEX.2.2.2.2.2.2) vx_n))))) vx_ot_IAE hZ.1 hZ.2 hS (hl.1.trans hml.symm) dX6_requireBoard_62 dX6_requireBoard_65 dX6_requireBoard_66 dX6_requireBoard_68 dX6_requireBoard_71 (fun x h => (htab x h).elim) (by decide) (Nat.le_of_ble_eq_true rfl) (Nat.le_of_ble_eq_true rfl) (Nat.le_of_ble_eq_true rfl) hlocks (fun tt hvm hz hk => ⟨(), trivial, ⟨⟨rfl, fun h => by { obtain rfl := ex2.symm; obtain rfl := ex6.symm; obtain rfl := ex24.symm; obtain rfl := ex48.symm; exact h.2.2.elim c53 c59 }⟩, px_P hP hk, va_K.moved hvm hK, hD⟩, px_F hS hz hk⟩) hS.2.2 (Nat.le_of_ble_eq_true rfl) (Nat.le_of_ble_eq_true rfl)
    · rw [lg_cmp_eq] at c27
      obtain ⟨sa, hstr⟩ := hEX.1 (227, "a cell with two marbles") (by unfold xstrs; simp)
      have hmem9 : ∀ w ∈ (vx_atS RX6 222 nIAE ["java/lang/RuntimeException", "java/lang/Exception"]).filter goodWord, w ∈ wsX6_requireBoard := fun w h => by first | exact List.mem_cons_of_mem _ (List.mem_append_right _ h) | exact List.mem_cons_of_mem _ (List.mem_append_left _ (List.mem_append_right _ h)) | exact List.mem_cons_of_mem _ (List.mem_append_left _ (List.mem_append_left _ (List.mem_append_right _ h)))
      refine vx_throwS (own := RX6) (cls := nIAE) (text := "a cell with two marbles") (names := ["java/lang/RuntimeException", "java/lang/Exception"]) (ik := 218) (is := 227) (ic := 222) hx hb hltr hown (by decide +kernel) (by decide +kernel) (hts _ (by decide +kernel)) (hts _ (by decide +kernel)) hstr (vx_hat (fun w h => hts w (hmem9 w h)) vx_nong_IAE (vx_c (va_Nw.use rfl hEX.2.2.2.1) (vx_c (va_Nw.use rfl hEX.2.2.2.2.1) (vx_c (va_Nw.use rfl hEX.2.2.2.2.2.1) (vx_c (va_Nw.use rfl hEX.2.2.2.2.2.2) vx_n))))) vx_ot_IAE hZ.1 hZ.2 hS (hl.1.trans hml.symm) dX6_requireBoard_30 dX6_requireBoard_33 dX6_requireBoard_34 dX6_requireBoard_36 dX6_requireBoard_39 (fun x h => (htab x h).elim) (by decide) (Nat.le_of_ble_eq_true rfl) (Nat.le_of_ble_eq_true rfl) (Nat.le_of_ble_eq_true rfl) hlocks (fun tt hvm hz hk => ⟨(), trivial, ⟨⟨rfl, fun h => by { obtain rfl := ex2.symm; obtain rfl := ex6.symm; obtain rfl := ex24.symm; exact c27 h.2.1 }⟩, px_P hP hk, va_K.moved hvm hK, hD⟩, px_F hS hz hk⟩) hS.2.2 (Nat.le_of_ble_eq_true rfl) (Nat.le_of_ble_eq_true rfl)
  · rw [lg_cmp_eq] at c9
    obtain ⟨sa, hstr⟩ := hEX.1 (225, "a bit that is no cell") (by unfold xstrs; simp)
    have hmem9 : ∀ w ∈ (vx_atS RX6 222 nIAE ["java/lang/RuntimeException", "java/lang/Exception"]).filter goodWord, w ∈ wsX6_requireBoard := fun w h => by first | exact List.mem_cons_of_mem _ (List.mem_append_right _ h) | exact List.mem_cons_of_mem _ (List.mem_append_left _ (List.mem_append_right _ h)) | exact List.mem_cons_of_mem _ (List.mem_append_left _ (List.mem_append_left _ (List.mem_append_right _ h)))
    refine vx_throwS (own := RX6) (cls := nIAE) (text := "a bit that is no cell") (names := ["java/lang/RuntimeException", "java/lang/Exception"]) (ik := 218) (is := 225) (ic := 222) hx hb hltr hown (by decide +kernel) (by decide +kernel) (hts _ (by decide +kernel)) (hts _ (by decide +kernel)) hstr (vx_hat (fun w h => hts w (hmem9 w h)) vx_nong_IAE (vx_c (va_Nw.use rfl hEX.2.2.2.1) (vx_c (va_Nw.use rfl hEX.2.2.2.2.1) (vx_c (va_Nw.use rfl hEX.2.2.2.2.2.1) (vx_c (va_Nw.use rfl hEX.2.2.2.2.2.2) vx_n))))) vx_ot_IAE hZ.1 hZ.2 hS (hl.1.trans hml.symm) dX6_requireBoard_12 dX6_requireBoard_15 dX6_requireBoard_16 dX6_requireBoard_18 dX6_requireBoard_21 (fun x h => (htab x h).elim) (by decide) (Nat.le_of_ble_eq_true rfl) (Nat.le_of_ble_eq_true rfl) (Nat.le_of_ble_eq_true rfl) hlocks (fun tt hvm hz hk => ⟨(), trivial, ⟨⟨rfl, fun h => by { obtain rfl := ex2.symm; obtain rfl := ex6.symm; exact c9 h.1 }⟩, px_P hP hk, va_K.moved hvm hK, hD⟩, px_F hS hz hk⟩) hS.2.2 (Nat.le_of_ble_eq_true rfl) (Nat.le_of_ble_eq_true rfl)
