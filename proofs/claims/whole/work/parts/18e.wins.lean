def cwc (o e : Int64) : Nat → Nat
  | 0 => 0
  | c + 1 => cwc o e c + (if ¬ (e &&& jshl 1 (nI c)) = 0 then (if cline (o ||| jshl 1 (nI c)) = true then 1 else 0) else 0)
theorem cwc_1 {o e : Int64} {c : Nat} (h : ¬ (e &&& jshl 1 (nI c)) = 0) (h2 : cline (o ||| jshl 1 (nI c)) = true) : nI (cwc o e c + 1) = nI (cwc o e (c + 1)) := by
  show _ = nI (cwc o e c + _); rw [if_pos h, if_pos h2]
theorem cwc_2 {o e : Int64} {c : Nat} (h : ¬ (e &&& jshl 1 (nI c)) = 0) (h2 : ¬ cline (o ||| jshl 1 (nI c)) = true) : nI (cwc o e c) = nI (cwc o e (c + 1)) := by
  show _ = nI (cwc o e c + _); rw [if_pos h, if_neg h2]; rfl
theorem cwc_3 {o e : Int64} {c : Nat} (h : ¬ ¬ (e &&& jshl 1 (nI c)) = 0) : nI (cwc o e c) = nI (cwc o e (c + 1)) := by
  show _ = nI (cwc o e c + _); rw [if_neg h]; rfl
def cwt (o u : Int64) : Nat → Nat
  | 0 => 0
  | t + 1 => cwt o u t + (if cline (cturned o t) = true then (if cline (cturned u t) = true then 0 else 1) else 0)
theorem cwt_1 {o u : Int64} {t : Nat} (h : cline (cturned o t) = true) (h2 : ¬ cline (cturned u t) = true) : nI (cwt o u t + 1) = nI (cwt o u (t + 1)) := by
  show _ = nI (cwt o u t + _); rw [if_pos h, if_neg h2]
theorem cwt_2 {o u : Int64} {t : Nat} (h : cline (cturned o t) = true) (h2 : cline (cturned u t) = true) : nI (cwt o u t) = nI (cwt o u (t + 1)) := by
  show _ = nI (cwt o u t + _); rw [if_pos h, if_pos h2]; rfl
theorem cwt_3 {o u : Int64} {t : Nat} (h : ¬ cline (cturned o t) = true) : nI (cwt o u t) = nI (cwt o u (t + 1)) := by
  show _ = nI (cwt o u t + _); rw [if_neg h]; rfl

set_option maxHeartbeats 400000 in
set_option maxRecDepth 100000 in
theorem c_X6_winningCells (l : Launch) (hltr : l.stackTraces = false) (D : va_G) (cI cJ : ClassId) (sz : Nat) (h0 lg fs ps : Nat) (fa fb : Int64) (mt re : Int32)  : vx_Met l yX6_winningCells wsX6_winningCells ({ frames := 7, cells := 1, slots := 6, locals := 110 } : Room) (va_Pc [.ref h0] (px_X (va_A [(h0, .inr (3, [.ref lg, .ref fs, .ref ps, .long fa, .long fb, .int mt, .int re]))] sz) (pv_C D cI cJ [(h0, .inr (3, [.ref lg, .ref fs, .ref ps, .long fa, .long fb, .int mt, .int re]))] sz))) (va_Qi (fun (r : Int32) (u : Unit) => re = 0 ∧ mt = 0 ∧ r = nI (cwc (cown fa fb mt) (cempty fa fb) 36)) (fun (u : Unit) => pv_B D cI cJ (va_A [(h0, .inr (3, [.ref lg, .ref fs, .ref ps, .long fa, .long fb, .int mt, .int re]))] sz) [(h0, .inr (3, [.ref lg, .ref fs, .ref ps, .long fa, .long fb, .int mt, .int re]))]) (va_A [(h0, .inr (3, [.ref lg, .ref fs, .ref ps, .long fa, .long fb, .int mt, .int re]))] sz)) (vx_X (fun (_ : Unit) => True) (fun (E : String) (_ : Unit) (tt : State) => (E = nISE ∧ ¬ (re = 0 ∧ mt = 0)) ∧ pv_B D cI cJ (va_A [(h0, .inr (3, [.ref lg, .ref fs, .ref ps, .long fa, .long fb, .int mt, .int re]))] sz) [(h0, .inr (3, [.ref lg, .ref fs, .ref ps, .long fa, .long fb, .int mt, .int re]))] tt) (va_A [(h0, .inr (3, [.ref lg, .ref fs, .ref ps, .long fa, .long fb, .int mt, .int re]))] sz)) 1 6 (va_A [(h0, .inr (3, [.ref lg, .ref fs, .ref ps, .long fa, .long fb, .int mt, .int re]))] sz) := by
  refine vx_ofW (cc := cX6_winningCells) (maxL := 5) (ret := (some .int)) (by decide) rfl ?_
  intro p e s m args below meth c s₁ B hml htab hv
  obtain ⟨rfl, hEX, hZ, rfl, hP, hK, hD0⟩ := hv
  have hx := B.exec
  have hb := B.bytes
  have hr := B.returns
  have hts := atoms_spec (ws := wsX6_winningCells) B.pre
  have hown : s.vm.findClass RX6 = some m.cls := findClass_of_methodNamed B.named
  have hlocks := B.notSynchronized
  have hD := hD0.self (sz := s.heap.size)
  generalize hAe : va_A [(h0, .inr (3, [.ref lg, .ref fs, .ref ps, .long fa, .long fb, .int mt, .int re]))] s.heap.size = A at hD hZ ⊢
  have hA : ∀ q : Nat, s.heap.size ≤ q → A q := fun q h => by rw [← hAe]; exact Or.inr h
  have hS : va_S A s.heap s.heap [] := va_S.rf
  have hl := lv_entry ([.ref h0]) (n := 5) (Nat.le_of_ble_eq_true rfl)
  rw [lg_entry_eq]
  generalize (lg_sl ([.ref h0]) ++ List.replicate (5 - (lg_sl ([.ref h0])).length) Slot.unset).toArray = ls at hl ⊢
  have hl : lv_has ls 5 [(0, .ref h0)] := hl
  refine lv_aload_n hx hb dX6_winningCells_0 rfl (lv_at hl 0 rfl) ?_
  have hPc : va_P D vwCl [(h0, .inr (3, [.ref lg, .ref fs, .ref ps, .long fa, .long fb, .int mt, .int re]))] s.heap := hP.sub (ws' := [(h0, .inr (3, [.ref lg, .ref fs, .ref ps, .long fa, .long fb, .int mt, .int re]))]) [0] rfl
  have hDc : va_D A [(h0, .inr (3, [.ref lg, .ref fs, .ref ps, .long fa, .long fb, .int mt, .int re]))] := hD.sub (ws' := [(h0, .inr (3, [.ref lg, .ref fs, .ref ps, .long fa, .long fb, .int mt, .int re]))]) [0] (by decide) rfl
  have hFc := va_free (wc := [(h0, .inr (3, [.ref lg, .ref fs, .ref ps, .long fa, .long fb, .int mt, .int re]))]) hD hS hA [0] rfl
  refine vx_callv (vx_runV (As := []) (rest := []) ⟨hx, hb, hml, hown, hts⟩ (c_X6_requireToPut l hltr D cI cJ s.heap.size  h0 lg fs ps fa fb mt re ) (cwV 0 hts gX6_winningCells_X6_requireToPut rfl rfl rfl (by decide +kernel) ⟨Nat.le_of_ble_eq_true rfl, Nat.le_of_ble_eq_true rfl⟩) ⟨(px_blindX pv_blind), va_recv hK hPc (ci := 3) (q0 := 0) rfl rfl, fun U hU hW => ⟨rfl, hEX.warm hW, by rw [hU]; exact hZ.to hS hW.alike hFc, by rw [hU], by rw [hU]; exact hPc, va_K.moved hW.alike hK, hDc.weaken (fun _ _ _ _ => trivial)⟩⟩ rfl rfl hl.1 rfl (lv_room (Nat.le_of_ble_eq_true rfl)) dX6_winningCells_1 ⟨(Nat.le_of_ble_eq_true rfl), (Nat.le_of_ble_eq_true rfl)⟩) hS (fun q _ h => hFc q h) hFc (fun q _ h => hFc q h) (fun E ce q9 u9 t9 H1 locs hth hvm hpx hB9 hz1 hk1 hS hce hcv hcl => ?_) (fun u t9 H1 locs hth hvm hw1 hB9 hz1 hk1 hS => ?_)
  · obtain ⟨hb9, hP1, hK1, hD1⟩ := hB9
    rw [hth] at hP1
    obtain ⟨hP, hD⟩ := va_join (wr := []) (w1 := [(h0, .inr (3, [.ref lg, .ref fs, .ref ps, .long fa, .long fb, .int mt, .int re]))]) hP hD [0] [] rfl rfl (by decide) (by decide) hk1 hFc hP1 hD1
    have hP : va_P D vwCl [(h0, .inr (3, [.ref lg, .ref fs, .ref ps, .long fa, .long fb, .int mt, .int re]))] H1 := hP.sub (ws' := [(h0, .inr (3, [.ref lg, .ref fs, .ref ps, .long fa, .long fb, .int mt, .int re]))]) [0] rfl
    have hD : va_D A [(h0, .inr (3, [.ref lg, .ref fs, .ref ps, .long fa, .long fb, .int mt, .int re]))] := hD.sub (ws' := [(h0, .inr (3, [.ref lg, .ref fs, .ref ps, .long fa, .long fb, .int mt, .int re]))]) [0] (by decide) rfl
    exact vx_out (fun x h => (htab x h).elim) hlocks hce hcv hcl (fun tt htt hvt => ⟨(), trivial, ⟨hb9, by rw [htt]; exact hP, va_K.moved hvt hK, hD⟩, hS.F htt⟩) hS.2.2 (Nat.le_of_ble_eq_true rfl) (Nat.le_of_ble_eq_true rfl)
  · try dsimp only at hw1
    obtain ⟨hP1, hK1, hD1⟩ := hB9
    rw [hth] at hP1
    obtain ⟨hP, hD⟩ := va_join (wr := []) (w1 := [(h0, .inr (3, [.ref lg, .ref fs, .ref ps, .long fa, .long fb, .int mt, .int re]))]) hP hD [0] [] rfl rfl (by decide) (by decide) hk1 hFc hP1 hD1
    generalize H1 = H at hP hS ⊢
    have hP : va_P D vwCl [(h0, .inr (3, [.ref lg, .ref fs, .ref ps, .long fa, .long fb, .int mt, .int re]))] H := hP.sub (ws' := [(h0, .inr (3, [.ref lg, .ref fs, .ref ps, .long fa, .long fb, .int mt, .int re]))]) [0] rfl
    have hD : va_D A [(h0, .inr (3, [.ref lg, .ref fs, .ref ps, .long fa, .long fb, .int mt, .int re]))] := hD.sub (ws' := [(h0, .inr (3, [.ref lg, .ref fs, .ref ps, .long fa, .long fb, .int mt, .int re]))]) [0] (by decide) rfl
    refine lv_aload_n hx hb dX6_winningCells_4 rfl (lv_at hl 0 rfl) ?_
    refine lv_aload_n hx hb dX6_winningCells_5 rfl (lv_at hl 0 rfl) ?_
    refine vp_callSi (W.runV (As := []) (rest := [.ref h0]) ⟨hx, hb, hml, hown, hts⟩ (c_X6_sideToAct l D cI cJ h0 lg fs ps fa fb mt re (Or.inl hw1.2)) (cwV 0 hts gX6_winningCells_X6_sideToAct rfl rfl rfl (by decide +kernel) ⟨Nat.le_of_ble_eq_true rfl, Nat.le_of_ble_eq_true rfl⟩) ⟨px_blindW, va_recv hK hP (ci := 3) (q0 := 0) rfl rfl, fun U hU hW => ⟨rfl, by rw [hU]; exact hP.sub (ws' := [(h0, .inr (3, [.ref lg, .ref fs, .ref ps, .long fa, .long fb, .int mt, .int re]))]) [0] rfl, va_K.moved hW.alike hK⟩⟩ rfl rfl hl.1 rfl (lv_room (Nat.le_of_ble_eq_true rfl)) dX6_winningCells_6 ⟨(Nat.le_of_ble_eq_true rfl), (Nat.le_of_ble_eq_true rfl)⟩) (fun r6 er6 => ?_)
    obtain rfl := er6.symm
    refine vp_callSl (W.runV (As := [.int (cside (pop (fa ||| fb)) mt)]) (rest := []) ⟨hx, hb, hml, hown, hts⟩ (c_X6_marblesOf l D cI cJ h0 lg fs ps fa fb mt re (cside (pop (fa ||| fb)) mt)) (cwV 1 hts gX6_winningCells_X6_marblesOf rfl rfl rfl (by decide +kernel) ⟨Nat.le_of_ble_eq_true rfl, Nat.le_of_ble_eq_true rfl⟩) ⟨px_blindW, va_recv hK hP (ci := 3) (q0 := 0) rfl rfl, fun U hU hW => ⟨rfl, by rw [hU]; exact hP.sub (ws' := [(h0, .inr (3, [.ref lg, .ref fs, .ref ps, .long fa, .long fb, .int mt, .int re]))]) [0] rfl, va_K.moved hW.alike hK⟩⟩ rfl rfl hl.1 rfl (lv_room (Nat.le_of_ble_eq_true rfl)) dX6_winningCells_9 ⟨(Nat.le_of_ble_eq_true rfl), (Nat.le_of_ble_eq_true rfl)⟩) (fun r9 er9 => ?_)
    obtain rfl := er9.symm
    refine pk_tl (y := (cown fa fb mt)) (rfl) ?_
    refine lv_lstore_n (lv' := [(1, .long (cown fa fb mt)), (0, .ref h0)]) hx hb dX6_winningCells_12 rfl hl (by decide) rfl (fun ls hl => ?_)
    refine lv_iconst (v := 0) hx hb dX6_winningCells_13 (by decide) ?_
    refine lv_istore_n (lv' := [(3, .int 0), (1, .long (cown fa fb mt)), (0, .ref h0)]) hx hb dX6_winningCells_14 rfl hl (by decide) rfl (fun ls hl => ?_)
    refine lv_iconst (v := 0) hx hb dX6_winningCells_15 (by decide) ?_
    refine lv_istore (lv' := [(4, .int 0), (3, .int 0), (1, .long (cown fa fb mt)), (0, .ref h0)]) hx hb dX6_winningCells_16 hl (by decide) rfl (fun ls hl => ?_)
    have loop18 : ∀ (nn i18 : Nat), i18 + nn = 36 → ∀ ls, lv_has ls 5 [(4, .int (nI i18)), (3, .int (nI (cwc (cown fa fb mt) (cempty fa fb) i18))), (0, .ref h0), (1, .long (cown fa fb mt))] → W p l e (headSpec wsX6_winningCells ({ frames := 7, cells := 1, slots := 6, locals := 110 } : Room)).room s m ([.ref h0] : List Value).toArray below meth c H locs 1 6 (vx_MQ below (va_Qi (fun (r : Int32) (u : Unit) => re = 0 ∧ mt = 0 ∧ r = nI (cwc (cown fa fb mt) (cempty fa fb) 36)) (fun (u : Unit) => pv_B D cI cJ (A) [(h0, .inr (3, [.ref lg, .ref fs, .ref ps, .long fa, .long fb, .int mt, .int re]))]) (A)) (vx_X (fun (_ : Unit) => True) (fun (E : String) (_ : Unit) (tt : State) => (E = nISE ∧ ¬ (re = 0 ∧ mt = 0)) ∧ pv_B D cI cJ (A) [(h0, .inr (3, [.ref lg, .ref fs, .ref ps, .long fa, .long fb, .int mt, .int re]))] tt) (A)) ([.ref h0] : List Value).toArray s 1 6 A) (F0 m 18 ls []) := by
      intro nn
      induction nn with
      | zero =>
        intro i18 hi18 ls hl
        obtain rfl : i18 = 36 := by omega
        refine lv_iload hx hb dX6_winningCells_18 (lv_at hl 0 rfl) ?_
        refine lv_bipush (v := 36) hx hb dX6_winningCells_20 (by decide) ?_
        refine lv_icmp_ge (tgt := 56) hx hb dX6_winningCells_22 (by decide) (fun c22 => ?_) (fun c22 => ?_)
        · have c22 : 36 ≤ 36 := (nq_le (a := 36) (b := 36) (by omega) (by omega)).mp c22
          refine lv_iload_n hx hb dX6_winningCells_56 rfl (lv_at hl 1 rfl) ?_
          refine vx_ret ?_
          refine W.widen (k := 1) (n := 6) (Nat.le_of_ble_eq_true rfl) (Nat.le_of_ble_eq_true rfl) ?_
          refine W.iret (v := (nI (cwc (cown fa fb mt) (cempty fa fb) 36))) hx hb hr (fun tt ht hW => ⟨⟨(nI (cwc (cown fa fb mt) (cempty fa fb) 36)), (), rfl, ?_, by rw [ht]; exact hP, va_K.moved hW.alike hK, hD⟩, hS.F ht⟩) hS.2.2 dX6_winningCells_57
          exact ⟨hw1.1, hw1.2, rfl⟩
        · have c22 : ¬ 36 ≤ 36 := _root_.mt (nq_le (a := 36) (b := 36) (by omega) (by omega)).mpr c22
          omega
      | succ nn ih18 =>
        intro i18 hi18 ls hl
        refine lv_iload hx hb dX6_winningCells_18 (lv_at hl 0 rfl) ?_
        refine lv_bipush (v := 36) hx hb dX6_winningCells_20 (by decide) ?_
        refine lv_icmp_ge (tgt := 56) hx hb dX6_winningCells_22 (by decide) (fun c22 => ?_) (fun c22 => ?_)
        · have c22 : 36 ≤ i18 := (nq_le (a := 36) (b := i18) (by omega) (by omega)).mp c22
          omega
        · have c22 : ¬ 36 ≤ i18 := _root_.mt (nq_le (a := 36) (b := i18) (by omega) (by omega)).mpr c22
          refine lv_aload_n hx hb dX6_winningCells_25 rfl (lv_at hl 2 rfl) ?_
          refine lv_iload hx hb dX6_winningCells_26 (lv_at hl 0 rfl) ?_
          refine vp_callSi (W.runV (As := [.int (nI i18)]) (rest := []) ⟨hx, hb, hml, hown, hts⟩ (c_X6_isEmpty l D cI cJ h0 lg fs ps fa fb mt re (nI i18)) (cwV 1 hts gX6_winningCells_X6_isEmpty rfl rfl rfl (by decide +kernel) ⟨Nat.le_of_ble_eq_true rfl, Nat.le_of_ble_eq_true rfl⟩) ⟨px_blindW, va_recv hK hP (ci := 3) (q0 := 0) rfl rfl, fun U hU hW => ⟨rfl, by rw [hU]; exact hP.sub (ws' := [(h0, .inr (3, [.ref lg, .ref fs, .ref ps, .long fa, .long fb, .int mt, .int re]))]) [0] rfl, va_K.moved hW.alike hK⟩⟩ rfl rfl hl.1 rfl (lv_room (Nat.le_of_ble_eq_true rfl)) dX6_winningCells_28 ⟨(Nat.le_of_ble_eq_true rfl), (Nat.le_of_ble_eq_true rfl)⟩) (fun r28 er28 => ?_)
          obtain rfl := er28.symm
          refine pk_b (P := ¬ (cempty fa fb &&& jshl 1 (nI i18)) = 0) (fun b28 => ?_) (fun b28 => ?_)
          · refine lv_if_eq (tgt := 50) hx hb dX6_winningCells_31 (by decide) (fun c31 => ?_) (fun c31 => ?_)
            · exact absurd c31 (by decide)
            · refine lv_lload_n hx hb dX6_winningCells_34 rfl (lv_at hl 3 rfl) ?_
              refine lv_iload hx hb dX6_winningCells_35 (lv_at hl 0 rfl) ?_
              refine vp_callSl (W.runS (As := [.int (nI i18)]) (rest := [.long (cown fa fb mt)]) ⟨hx, hb, hml, hown, hts⟩ (c_X6_bitOf l (nI i18)) (va_cwS 1 hts gX6_winningCells_X6_bitOf rfl rfl rfl (by decide +kernel) ⟨Nat.le_of_ble_eq_true rfl, Nat.le_of_ble_eq_true rfl⟩) ⟨px_blind0, fun U hU hW => ⟨rfl, trivial⟩⟩ rfl rfl hl.1 rfl (lv_room (Nat.le_of_ble_eq_true rfl)) dX6_winningCells_37 ⟨(Nat.le_of_ble_eq_true rfl), (Nat.le_of_ble_eq_true rfl)⟩) (fun r37 er37 => ?_)
              obtain rfl := er37.symm
              refine lv_lor hx hb dX6_winningCells_40 ?_
              refine lv_topl (fun x40 ex40 => ?_)
              refine vp_callSi (W.runS (As := [.long x40]) (rest := []) ⟨hx, hb, hml, hown, hts⟩ (c_X1_hasLine l x40) (va_cwS 1 hts gX6_winningCells_X1_hasLine rfl rfl rfl (by decide +kernel) ⟨Nat.le_of_ble_eq_true rfl, Nat.le_of_ble_eq_true rfl⟩) ⟨px_blind0, fun U hU hW => ⟨rfl, trivial⟩⟩ rfl rfl hl.1 rfl (lv_room (Nat.le_of_ble_eq_true rfl)) dX6_winningCells_41 ⟨(Nat.le_of_ble_eq_true rfl), (Nat.le_of_ble_eq_true rfl)⟩) (fun r41 er41 => ?_)
              obtain rfl := er41.symm
              refine pk_b (P := cline x40 = true) (fun b41 => ?_) (fun b41 => ?_)
              · refine lv_if_eq (tgt := 50) hx hb dX6_winningCells_44 (by decide) (fun c44 => ?_) (fun c44 => ?_)
                · exact absurd c44 (by decide)
                · refine lv_iinc (v := nI (cwc (cown fa fb mt) (cempty fa fb) i18 + 1)) (lv' := [(3, .int (nI (cwc (cown fa fb mt) (cempty fa fb) i18 + 1))), (4, .int (nI i18)), (0, .ref h0), (1, .long (cown fa fb mt))]) hx hb dX6_winningCells_47 hl (k := 1) rfl (nI_add (cwc (cown fa fb mt) (cempty fa fb) i18) 1) (by decide) rfl (fun ls hl => ?_)
                  refine lv_iinc (v := nI (i18 + 1)) (lv' := [(4, .int (nI (i18 + 1))), (3, .int (nI (cwc (cown fa fb mt) (cempty fa fb) i18 + 1))), (0, .ref h0), (1, .long (cown fa fb mt))]) hx hb dX6_winningCells_50 hl (k := 1) rfl (nI_add i18 1) (by decide) rfl (fun ls hl => ?_)
                  refine lv_goto (tgt := 18) hx hb dX6_winningCells_53 (by decide) ?_
                  exact ih18 (i18 + 1) (by omega) ls (by { have e9 : ((nI (cwc (cown fa fb mt) (cempty fa fb) i18 + 1)) : Int32) = (nI (cwc (cown fa fb mt) (cempty fa fb) (i18 + 1))) := by { obtain rfl := ex40.symm; first | exact cwc_1 b28 b41 | exact cwc_2 b28 b41 | exact cwc_3 b28 }; rw [← e9]; exact lv_sub hl [0, 1, 2, 3] rfl })
              · refine lv_if_eq (tgt := 50) hx hb dX6_winningCells_44 (by decide) (fun c44 => ?_) (fun c44 => ?_)
                · refine lv_iinc (v := nI (i18 + 1)) (lv' := [(4, .int (nI (i18 + 1))), (3, .int (nI (cwc (cown fa fb mt) (cempty fa fb) i18))), (0, .ref h0), (1, .long (cown fa fb mt))]) hx hb dX6_winningCells_50 hl (k := 0) rfl (nI_add i18 1) (by decide) rfl (fun ls hl => ?_)
                  refine lv_goto (tgt := 18) hx hb dX6_winningCells_53 (by decide) ?_
                  exact ih18 (i18 + 1) (by omega) ls (by { have e9 : ((nI (cwc (cown fa fb mt) (cempty fa fb) i18)) : Int32) = (nI (cwc (cown fa fb mt) (cempty fa fb) (i18 + 1))) := by { obtain rfl := ex40.symm; first | exact cwc_1 b28 b41 | exact cwc_2 b28 b41 | exact cwc_3 b28 }; rw [← e9]; exact lv_sub hl [0, 1, 2, 3] rfl })
                · exact absurd c44 (by decide)
          · refine lv_if_eq (tgt := 50) hx hb dX6_winningCells_31 (by decide) (fun c31 => ?_) (fun c31 => ?_)
            · refine lv_iinc (v := nI (i18 + 1)) (lv' := [(4, .int (nI (i18 + 1))), (3, .int (nI (cwc (cown fa fb mt) (cempty fa fb) i18))), (0, .ref h0), (1, .long (cown fa fb mt))]) hx hb dX6_winningCells_50 hl (k := 0) rfl (nI_add i18 1) (by decide) rfl (fun ls hl => ?_)
              refine lv_goto (tgt := 18) hx hb dX6_winningCells_53 (by decide) ?_
              exact ih18 (i18 + 1) (by omega) ls (by { have e9 : ((nI (cwc (cown fa fb mt) (cempty fa fb) i18)) : Int32) = (nI (cwc (cown fa fb mt) (cempty fa fb) (i18 + 1))) := by { skip; first | exact cwc_1 b28 b41 | exact cwc_2 b28 b41 | exact cwc_3 b28 }; rw [← e9]; exact lv_sub hl [0, 1, 2, 3] rfl })
            · exact absurd c31 (by decide)
    exact loop18 36 0 (by omega) ls (lv_sub hl [0, 1, 3, 2] rfl)

set_option maxHeartbeats 400000 in
set_option maxRecDepth 100000 in
theorem c_X6_winningTurns (l : Launch) (hltr : l.stackTraces = false) (D : va_G) (cI cJ : ClassId) (sz : Nat) (h0 lg fs ps : Nat) (fa fb : Int64) (mt re : Int32) (v : Int32) : vx_Met l yX6_winningTurns wsX6_winningTurns ({ frames := 7, cells := 3, slots := 18, locals := 111 } : Room) (va_Pc [.ref h0, .int v] (px_X (va_A [(h0, .inr (3, [.ref lg, .ref fs, .ref ps, .long fa, .long fb, .int mt, .int re]))] sz) (pv_C D cI cJ [(h0, .inr (3, [.ref lg, .ref fs, .ref ps, .long fa, .long fb, .int mt, .int re]))] sz))) (va_Qi (fun (r : Int32) (u : Unit) => icell v ∧ re = 0 ∧ mt = 0 ∧ (¬ (cempty fa fb &&& jshl 1 v) = 0) ∧ r = (if cline (cown fa fb mt ||| jshl 1 v) = true then 8 else nI (cwt (cown fa fb mt ||| jshl 1 v) (coth fa fb mt) 8))) (fun (u : Unit) => pv_B D cI cJ (va_A [(h0, .inr (3, [.ref lg, .ref fs, .ref ps, .long fa, .long fb, .int mt, .int re]))] sz) [(h0, .inr (3, [.ref lg, .ref fs, .ref ps, .long fa, .long fb, .int mt, .int re]))]) (va_A [(h0, .inr (3, [.ref lg, .ref fs, .ref ps, .long fa, .long fb, .int mt, .int re]))] sz)) (vx_X (fun (_ : Unit) => True) (fun (E : String) (_ : Unit) (tt : State) => ((E = nIOB ∧ ¬ icell v) ∨ (E = nISE ∧ icell v ∧ ¬ (re = 0 ∧ mt = 0 ∧ ¬ (cempty fa fb &&& jshl 1 v) = 0))) ∧ pv_B D cI cJ (va_A [(h0, .inr (3, [.ref lg, .ref fs, .ref ps, .long fa, .long fb, .int mt, .int re]))] sz) [(h0, .inr (3, [.ref lg, .ref fs, .ref ps, .long fa, .long fb, .int mt, .int re]))] tt) (va_A [(h0, .inr (3, [.ref lg, .ref fs, .ref ps, .long fa, .long fb, .int mt, .int re]))] sz)) 3 18 (va_A [(h0, .inr (3, [.ref lg, .ref fs, .ref ps, .long fa, .long fb, .int mt, .int re]))] sz) := by
  refine vx_ofW (cc := cX6_winningTurns) (maxL := 9) (ret := (some .int)) (by decide) rfl ?_
  intro p e s m args below meth c s₁ B hml htab hv
  obtain ⟨rfl, hEX, hZ, rfl, hP, hK, hD0⟩ := hv
  have hx := B.exec
  have hb := B.bytes
  have hr := B.returns
  have hts := atoms_spec (ws := wsX6_winningTurns) B.pre
  have hown : s.vm.findClass RX6 = some m.cls := findClass_of_methodNamed B.named
  have hlocks := B.notSynchronized
  have hD := hD0.self (sz := s.heap.size)
  generalize hAe : va_A [(h0, .inr (3, [.ref lg, .ref fs, .ref ps, .long fa, .long fb, .int mt, .int re]))] s.heap.size = A at hD hZ ⊢
  have hA : ∀ q : Nat, s.heap.size ≤ q → A q := fun q h => by rw [← hAe]; exact Or.inr h
  have hS : va_S A s.heap s.heap [] := va_S.rf
  have hl := lv_entry ([.ref h0, .int v]) (n := 9) (Nat.le_of_ble_eq_true rfl)
  rw [lg_entry_eq]
  generalize (lg_sl ([.ref h0, .int v]) ++ List.replicate (9 - (lg_sl ([.ref h0, .int v])).length) Slot.unset).toArray = ls at hl ⊢
  have hl : lv_has ls 9 [(0, .ref h0), (1, .int v)] := hl
  refine lv_iload_n hx hb dX6_winningTurns_0 rfl (lv_at hl 1 rfl) ?_
  have hPc : va_P D vwCl [] s.heap := hP.sub (ws' := []) [] rfl
  have hDc : va_D A [] := hD.sub (ws' := []) [] (by decide) rfl
  have hFc := va_free (wc := []) hD hS hA [] rfl
  refine vx_callv (vx_runS (As := [.int v]) (rest := []) ⟨hx, hb, hml, hown, hts⟩ (c_X6_requireCell l hltr D cI cJ s.heap.size v) (va_cwS 1 hts gX6_winningTurns_X6_requireCell rfl rfl rfl (by decide +kernel) ⟨Nat.le_of_ble_eq_true rfl, Nat.le_of_ble_eq_true rfl⟩) ⟨(px_blindX pv_blind), fun U hU hW => ⟨rfl, hEX.warm hW, by rw [hU]; exact hZ.to hS hW.alike hFc, by rw [hU], by rw [hU]; exact hPc, va_K.moved hW.alike hK, hDc.weaken (fun _ _ _ _ => trivial)⟩⟩ rfl rfl hl.1 rfl (lv_room (Nat.le_of_ble_eq_true rfl)) dX6_winningTurns_1 ⟨(Nat.le_of_ble_eq_true rfl), (Nat.le_of_ble_eq_true rfl)⟩) hS (fun q _ h => hFc q h) hFc (fun q _ h => hFc q h) (fun E ce q9 u9 t9 H1 locs hth hvm hpx hB9 hz1 hk1 hS hce hcv hcl => ?_) (fun u t9 H1 locs hth hvm hw1 hB9 hz1 hk1 hS => ?_)
  · obtain ⟨hb9, hP1, hK1, hD1⟩ := hB9
    rw [hth] at hP1
    obtain ⟨hP, hD⟩ := va_join (wr := [(h0, .inr (3, [.ref lg, .ref fs, .ref ps, .long fa, .long fb, .int mt, .int re]))]) (w1 := []) hP hD [] [0] rfl rfl (by decide) (by decide) hk1 hFc hP1 hD1
    have hP : va_P D vwCl [(h0, .inr (3, [.ref lg, .ref fs, .ref ps, .long fa, .long fb, .int mt, .int re]))] H1 := hP.sub (ws' := [(h0, .inr (3, [.ref lg, .ref fs, .ref ps, .long fa, .long fb, .int mt, .int re]))]) [0] rfl
    have hD : va_D A [(h0, .inr (3, [.ref lg, .ref fs, .ref ps, .long fa, .long fb, .int mt, .int re]))] := hD.sub (ws' := [(h0, .inr (3, [.ref lg, .ref fs, .ref ps, .long fa, .long fb, .int mt, .int re]))]) [0] (by decide) rfl
    exact vx_out (fun x h => (htab x h).elim) hlocks hce hcv hcl (fun tt htt hvt => ⟨(), trivial, ⟨Or.inl hb9, by rw [htt]; exact hP, va_K.moved hvt hK, hD⟩, hS.F htt⟩) hS.2.2 (Nat.le_of_ble_eq_true rfl) (Nat.le_of_ble_eq_true rfl)
  · try dsimp only at hw1
    obtain ⟨hP1, hK1, hD1⟩ := hB9
    rw [hth] at hP1
    obtain ⟨hP, hD⟩ := va_join (wr := [(h0, .inr (3, [.ref lg, .ref fs, .ref ps, .long fa, .long fb, .int mt, .int re]))]) (w1 := []) hP hD [] [0] rfl rfl (by decide) (by decide) hk1 hFc hP1 hD1
    generalize H1 = H at hP hS ⊢
    have hP : va_P D vwCl [(h0, .inr (3, [.ref lg, .ref fs, .ref ps, .long fa, .long fb, .int mt, .int re]))] H := hP.sub (ws' := [(h0, .inr (3, [.ref lg, .ref fs, .ref ps, .long fa, .long fb, .int mt, .int re]))]) [0] rfl
    have hD : va_D A [(h0, .inr (3, [.ref lg, .ref fs, .ref ps, .long fa, .long fb, .int mt, .int re]))] := hD.sub (ws' := [(h0, .inr (3, [.ref lg, .ref fs, .ref ps, .long fa, .long fb, .int mt, .int re]))]) [0] (by decide) rfl
    refine lv_aload_n hx hb dX6_winningTurns_4 rfl (lv_at hl 0 rfl) ?_
    have hPc : va_P D vwCl [(h0, .inr (3, [.ref lg, .ref fs, .ref ps, .long fa, .long fb, .int mt, .int re]))] H := hP.sub (ws' := [(h0, .inr (3, [.ref lg, .ref fs, .ref ps, .long fa, .long fb, .int mt, .int re]))]) [0] rfl
    have hDc : va_D A [(h0, .inr (3, [.ref lg, .ref fs, .ref ps, .long fa, .long fb, .int mt, .int re]))] := hD.sub (ws' := [(h0, .inr (3, [.ref lg, .ref fs, .ref ps, .long fa, .long fb, .int mt, .int re]))]) [0] (by decide) rfl
    have hFc := va_free (wc := [(h0, .inr (3, [.ref lg, .ref fs, .ref ps, .long fa, .long fb, .int mt, .int re]))]) hD hS hA [0] rfl
    refine vx_callv (vx_runV (As := []) (rest := []) ⟨hx, hb, hml, hown, hts⟩ (c_X6_requireToPut l hltr D cI cJ H.size  h0 lg fs ps fa fb mt re ) (cwV 0 hts gX6_winningTurns_X6_requireToPut rfl rfl rfl (by decide +kernel) ⟨Nat.le_of_ble_eq_true rfl, Nat.le_of_ble_eq_true rfl⟩) ⟨(px_blindX pv_blind), va_recv hK hPc (ci := 3) (q0 := 0) rfl rfl, fun U hU hW => ⟨rfl, hEX.warm hW, by rw [hU]; exact hZ.to hS hW.alike hFc, by rw [hU], by rw [hU]; exact hPc, va_K.moved hW.alike hK, hDc.weaken (fun _ _ _ _ => trivial)⟩⟩ rfl rfl hl.1 rfl (lv_room (Nat.le_of_ble_eq_true rfl)) dX6_winningTurns_5 ⟨(Nat.le_of_ble_eq_true rfl), (Nat.le_of_ble_eq_true rfl)⟩) hS (fun q _ h => hFc q h) hFc (fun q _ h => hFc q h) (fun E ce q9 u9 t9 H1 locs hth hvm hpx hB9 hz1 hk1 hS hce hcv hcl => ?_) (fun u t9 H1 locs hth hvm hw5 hB9 hz1 hk1 hS => ?_)
    · obtain ⟨hb9, hP1, hK1, hD1⟩ := hB9
      rw [hth] at hP1
      obtain ⟨hP, hD⟩ := va_join (wr := []) (w1 := [(h0, .inr (3, [.ref lg, .ref fs, .ref ps, .long fa, .long fb, .int mt, .int re]))]) hP hD [0] [] rfl rfl (by decide) (by decide) hk1 hFc hP1 hD1
      have hP : va_P D vwCl [(h0, .inr (3, [.ref lg, .ref fs, .ref ps, .long fa, .long fb, .int mt, .int re]))] H1 := hP.sub (ws' := [(h0, .inr (3, [.ref lg, .ref fs, .ref ps, .long fa, .long fb, .int mt, .int re]))]) [0] rfl
      have hD : va_D A [(h0, .inr (3, [.ref lg, .ref fs, .ref ps, .long fa, .long fb, .int mt, .int re]))] := hD.sub (ws' := [(h0, .inr (3, [.ref lg, .ref fs, .ref ps, .long fa, .long fb, .int mt, .int re]))]) [0] (by decide) rfl
      exact vx_out (fun x h => (htab x h).elim) hlocks hce hcv hcl (fun tt htt hvt => ⟨(), trivial, ⟨Or.inr ⟨hb9.1, hw1, fun h => hb9.2 ⟨h.1, h.2.1⟩⟩, by rw [htt]; exact hP, va_K.moved hvt hK, hD⟩, hS.F htt⟩) hS.2.2 (Nat.le_of_ble_eq_true rfl) (Nat.le_of_ble_eq_true rfl)
    · try dsimp only at hw5
      obtain ⟨hP1, hK1, hD1⟩ := hB9
      rw [hth] at hP1
      obtain ⟨hP, hD⟩ := va_join (wr := []) (w1 := [(h0, .inr (3, [.ref lg, .ref fs, .ref ps, .long fa, .long fb, .int mt, .int re]))]) hP hD [0] [] rfl rfl (by decide) (by decide) hk1 hFc hP1 hD1
      generalize H1 = H at hP hS ⊢
      have hP : va_P D vwCl [(h0, .inr (3, [.ref lg, .ref fs, .ref ps, .long fa, .long fb, .int mt, .int re]))] H := hP.sub (ws' := [(h0, .inr (3, [.ref lg, .ref fs, .ref ps, .long fa, .long fb, .int mt, .int re]))]) [0] rfl
      have hD : va_D A [(h0, .inr (3, [.ref lg, .ref fs, .ref ps, .long fa, .long fb, .int mt, .int re]))] := hD.sub (ws' := [(h0, .inr (3, [.ref lg, .ref fs, .ref ps, .long fa, .long fb, .int mt, .int re]))]) [0] (by decide) rfl
      refine lv_aload_n hx hb dX6_winningTurns_8 rfl (lv_at hl 0 rfl) ?_
      refine lv_iload_n hx hb dX6_winningTurns_9 rfl (lv_at hl 1 rfl) ?_
      have hPc : va_P D vwCl [(h0, .inr (3, [.ref lg, .ref fs, .ref ps, .long fa, .long fb, .int mt, .int re]))] H := hP.sub (ws' := [(h0, .inr (3, [.ref lg, .ref fs, .ref ps, .long fa, .long fb, .int mt, .int re]))]) [0] rfl
      have hDc : va_D A [(h0, .inr (3, [.ref lg, .ref fs, .ref ps, .long fa, .long fb, .int mt, .int re]))] := hD.sub (ws' := [(h0, .inr (3, [.ref lg, .ref fs, .ref ps, .long fa, .long fb, .int mt, .int re]))]) [0] (by decide) rfl
      have hFc := va_free (wc := [(h0, .inr (3, [.ref lg, .ref fs, .ref ps, .long fa, .long fb, .int mt, .int re]))]) hD hS hA [0] rfl
      refine vx_callv (vx_runV (As := [.int v]) (rest := []) ⟨hx, hb, hml, hown, hts⟩ (c_X6_requireEmpty l hltr D cI cJ H.size  h0 lg fs ps fa fb mt re v) (cwV 1 hts gX6_winningTurns_X6_requireEmpty rfl rfl rfl (by decide +kernel) ⟨Nat.le_of_ble_eq_true rfl, Nat.le_of_ble_eq_true rfl⟩) ⟨(px_blindX pv_blind), va_recv hK hPc (ci := 3) (q0 := 0) rfl rfl, fun U hU hW => ⟨rfl, hEX.warm hW, by rw [hU]; exact hZ.to hS hW.alike hFc, by rw [hU], by rw [hU]; exact hPc, va_K.moved hW.alike hK, hDc.weaken (fun _ _ _ _ => trivial)⟩⟩ rfl rfl hl.1 rfl (lv_room (Nat.le_of_ble_eq_true rfl)) dX6_winningTurns_10 ⟨(Nat.le_of_ble_eq_true rfl), (Nat.le_of_ble_eq_true rfl)⟩) hS (fun q _ h => hFc q h) hFc (fun q _ h => hFc q h) (fun E ce q9 u9 t9 H1 locs hth hvm hpx hB9 hz1 hk1 hS hce hcv hcl => ?_) (fun u t9 H1 locs hth hvm hw10 hB9 hz1 hk1 hS => ?_)
      · obtain ⟨hb9, hP1, hK1, hD1⟩ := hB9
        rw [hth] at hP1
        obtain ⟨hP, hD⟩ := va_join (wr := []) (w1 := [(h0, .inr (3, [.ref lg, .ref fs, .ref ps, .long fa, .long fb, .int mt, .int re]))]) hP hD [0] [] rfl rfl (by decide) (by decide) hk1 hFc hP1 hD1
        have hP : va_P D vwCl [(h0, .inr (3, [.ref lg, .ref fs, .ref ps, .long fa, .long fb, .int mt, .int re]))] H1 := hP.sub (ws' := [(h0, .inr (3, [.ref lg, .ref fs, .ref ps, .long fa, .long fb, .int mt, .int re]))]) [0] rfl
        have hD : va_D A [(h0, .inr (3, [.ref lg, .ref fs, .ref ps, .long fa, .long fb, .int mt, .int re]))] := hD.sub (ws' := [(h0, .inr (3, [.ref lg, .ref fs, .ref ps, .long fa, .long fb, .int mt, .int re]))]) [0] (by decide) rfl
        exact vx_out (fun x h => (htab x h).elim) hlocks hce hcv hcl (fun tt htt hvt => ⟨(), trivial, ⟨Or.inr ⟨hb9.1, hw1, fun h => h.2.2 hb9.2⟩, by rw [htt]; exact hP, va_K.moved hvt hK, hD⟩, hS.F htt⟩) hS.2.2 (Nat.le_of_ble_eq_true rfl) (Nat.le_of_ble_eq_true rfl)
      · try dsimp only at hw10
        obtain ⟨hP1, hK1, hD1⟩ := hB9
        rw [hth] at hP1
        obtain ⟨hP, hD⟩ := va_join (wr := []) (w1 := [(h0, .inr (3, [.ref lg, .ref fs, .ref ps, .long fa, .long fb, .int mt, .int re]))]) hP hD [0] [] rfl rfl (by decide) (by decide) hk1 hFc hP1 hD1
        generalize H1 = H at hP hS ⊢
        have hP : va_P D vwCl [(h0, .inr (3, [.ref lg, .ref fs, .ref ps, .long fa, .long fb, .int mt, .int re]))] H := hP.sub (ws' := [(h0, .inr (3, [.ref lg, .ref fs, .ref ps, .long fa, .long fb, .int mt, .int re]))]) [0] rfl
        have hD : va_D A [(h0, .inr (3, [.ref lg, .ref fs, .ref ps, .long fa, .long fb, .int mt, .int re]))] := hD.sub (ws' := [(h0, .inr (3, [.ref lg, .ref fs, .ref ps, .long fa, .long fb, .int mt, .int re]))]) [0] (by decide) rfl
        refine lv_aload_n hx hb dX6_winningTurns_13 rfl (lv_at hl 0 rfl) ?_
        refine vp_callSi (W.runV (As := []) (rest := []) ⟨hx, hb, hml, hown, hts⟩ (c_X6_sideToAct l D cI cJ h0 lg fs ps fa fb mt re (Or.inl hw5.2)) (cwV 0 hts gX6_winningTurns_X6_sideToAct rfl rfl rfl (by decide +kernel) ⟨Nat.le_of_ble_eq_true rfl, Nat.le_of_ble_eq_true rfl⟩) ⟨px_blindW, va_recv hK hP (ci := 3) (q0 := 0) rfl rfl, fun U hU hW => ⟨rfl, by rw [hU]; exact hP.sub (ws' := [(h0, .inr (3, [.ref lg, .ref fs, .ref ps, .long fa, .long fb, .int mt, .int re]))]) [0] rfl, va_K.moved hW.alike hK⟩⟩ rfl rfl hl.1 rfl (lv_room (Nat.le_of_ble_eq_true rfl)) dX6_winningTurns_14 ⟨(Nat.le_of_ble_eq_true rfl), (Nat.le_of_ble_eq_true rfl)⟩) (fun r14 er14 => ?_)
        obtain rfl := er14.symm
        refine lv_istore_n (lv' := [(2, .int (cside (pop (fa ||| fb)) mt)), (0, .ref h0), (1, .int v)]) hx hb dX6_winningTurns_17 rfl hl (by decide) rfl (fun ls hl => ?_)
        refine lv_aload_n hx hb dX6_winningTurns_18 rfl (lv_at hl 1 rfl) ?_
        refine lv_iload_n hx hb dX6_winningTurns_19 rfl (lv_at hl 0 rfl) ?_
        refine vp_callSl (W.runV (As := [.int (cside (pop (fa ||| fb)) mt)]) (rest := []) ⟨hx, hb, hml, hown, hts⟩ (c_X6_marblesOf l D cI cJ h0 lg fs ps fa fb mt re (cside (pop (fa ||| fb)) mt)) (cwV 1 hts gX6_winningTurns_X6_marblesOf rfl rfl rfl (by decide +kernel) ⟨Nat.le_of_ble_eq_true rfl, Nat.le_of_ble_eq_true rfl⟩) ⟨px_blindW, va_recv hK hP (ci := 3) (q0 := 0) rfl rfl, fun U hU hW => ⟨rfl, by rw [hU]; exact hP.sub (ws' := [(h0, .inr (3, [.ref lg, .ref fs, .ref ps, .long fa, .long fb, .int mt, .int re]))]) [0] rfl, va_K.moved hW.alike hK⟩⟩ rfl rfl hl.1 rfl (lv_room (Nat.le_of_ble_eq_true rfl)) dX6_winningTurns_20 ⟨(Nat.le_of_ble_eq_true rfl), (Nat.le_of_ble_eq_true rfl)⟩) (fun r20 er20 => ?_)
        obtain rfl := er20.symm
        refine pk_tl (y := (cown fa fb mt)) (rfl) ?_
        refine lv_iload_n hx hb dX6_winningTurns_23 rfl (lv_at hl 2 rfl) ?_
        refine vp_callSl (W.runS (As := [.int v]) (rest := [.long (cown fa fb mt)]) ⟨hx, hb, hml, hown, hts⟩ (c_X6_bitOf l v) (va_cwS 1 hts gX6_winningTurns_X6_bitOf rfl rfl rfl (by decide +kernel) ⟨Nat.le_of_ble_eq_true rfl, Nat.le_of_ble_eq_true rfl⟩) ⟨px_blind0, fun U hU hW => ⟨rfl, trivial⟩⟩ rfl rfl hl.1 rfl (lv_room (Nat.le_of_ble_eq_true rfl)) dX6_winningTurns_24 ⟨(Nat.le_of_ble_eq_true rfl), (Nat.le_of_ble_eq_true rfl)⟩) (fun r24 er24 => ?_)
        obtain rfl := er24.symm
        refine lv_lor hx hb dX6_winningTurns_27 ?_
        refine lv_topl (fun x27 ex27 => ?_)
        refine lv_lstore_n (lv' := [(3, .long x27), (2, .int (cside (pop (fa ||| fb)) mt)), (0, .ref h0), (1, .int v)]) hx hb dX6_winningTurns_28 rfl hl (by decide) rfl (fun ls hl => ?_)
        refine lv_lload_n hx hb dX6_winningTurns_29 rfl (lv_at hl 0 rfl) ?_
        refine vp_callSi (W.runS (As := [.long x27]) (rest := []) ⟨hx, hb, hml, hown, hts⟩ (c_X1_hasLine l x27) (va_cwS 1 hts gX6_winningTurns_X1_hasLine rfl rfl rfl (by decide +kernel) ⟨Nat.le_of_ble_eq_true rfl, Nat.le_of_ble_eq_true rfl⟩) ⟨px_blind0, fun U hU hW => ⟨rfl, trivial⟩⟩ rfl rfl hl.1 rfl (lv_room (Nat.le_of_ble_eq_true rfl)) dX6_winningTurns_30 ⟨(Nat.le_of_ble_eq_true rfl), (Nat.le_of_ble_eq_true rfl)⟩) (fun r30 er30 => ?_)
        obtain rfl := er30.symm
        refine pk_b (P := cline x27 = true) (fun b30 => ?_) (fun b30 => ?_)
        · refine lv_if_eq (tgt := 39) hx hb dX6_winningTurns_33 (by decide) (fun c33 => ?_) (fun c33 => ?_)
          · exact absurd c33 (by decide)
          · refine lv_bipush (v := 8) hx hb dX6_winningTurns_36 (by decide) ?_
            refine vx_ret ?_
            refine W.widen (k := 3) (n := 18) (Nat.le_of_ble_eq_true rfl) (Nat.le_of_ble_eq_true rfl) ?_
            refine W.iret (v := 8) hx hb hr (fun tt ht hW => ⟨⟨8, (), rfl, ?_, by rw [ht]; exact hP, va_K.moved hW.alike hK, hD⟩, hS.F ht⟩) hS.2.2 dX6_winningTurns_38
            exact ⟨hw1, hw5.1, hw5.2, hw10, by { rw [← ex27]; first | (rw [if_pos b30]; done) | (rw [if_neg b30]; done) }⟩
        · refine lv_if_eq (tgt := 39) hx hb dX6_winningTurns_33 (by decide) (fun c33 => ?_) (fun c33 => ?_)
          · refine lv_aload_n hx hb dX6_winningTurns_39 rfl (lv_at hl 2 rfl) ?_
            refine lv_iload_n hx hb dX6_winningTurns_40 rfl (lv_at hl 1 rfl) ?_
            refine vp_callSi (W.runS (As := [.int (cside (pop (fa ||| fb)) mt)]) (rest := [.ref h0]) ⟨hx, hb, hml, hown, hts⟩ (c_X6_otherSide l (cside (pop (fa ||| fb)) mt)) (va_cwS 1 hts gX6_winningTurns_X6_otherSide rfl rfl rfl (by decide +kernel) ⟨Nat.le_of_ble_eq_true rfl, Nat.le_of_ble_eq_true rfl⟩) ⟨px_blind0, fun U hU hW => ⟨rfl, trivial⟩⟩ rfl rfl hl.1 rfl (lv_room (Nat.le_of_ble_eq_true rfl)) dX6_winningTurns_41 ⟨(Nat.le_of_ble_eq_true rfl), (Nat.le_of_ble_eq_true rfl)⟩) (fun r41 er41 => ?_)
            obtain rfl := er41.symm
            refine vp_callSl (W.runV (As := [.int (if (cside (pop (fa ||| fb)) mt) = 1 then 2 else 1)]) (rest := []) ⟨hx, hb, hml, hown, hts⟩ (c_X6_marblesOf l D cI cJ h0 lg fs ps fa fb mt re (if (cside (pop (fa ||| fb)) mt) = 1 then 2 else 1)) (cwV 1 hts gX6_winningTurns_X6_marblesOf rfl rfl rfl (by decide +kernel) ⟨Nat.le_of_ble_eq_true rfl, Nat.le_of_ble_eq_true rfl⟩) ⟨px_blindW, va_recv hK hP (ci := 3) (q0 := 0) rfl rfl, fun U hU hW => ⟨rfl, by rw [hU]; exact hP.sub (ws' := [(h0, .inr (3, [.ref lg, .ref fs, .ref ps, .long fa, .long fb, .int mt, .int re]))]) [0] rfl, va_K.moved hW.alike hK⟩⟩ rfl rfl hl.1 rfl (lv_room (Nat.le_of_ble_eq_true rfl)) dX6_winningTurns_44 ⟨(Nat.le_of_ble_eq_true rfl), (Nat.le_of_ble_eq_true rfl)⟩) (fun r44 er44 => ?_)
            obtain rfl := er44.symm
            refine pk_tl (y := (coth fa fb mt)) (rfl) ?_
            refine lv_lstore (lv' := [(5, .long (coth fa fb mt)), (3, .long x27), (2, .int (cside (pop (fa ||| fb)) mt)), (0, .ref h0), (1, .int v)]) hx hb dX6_winningTurns_47 hl (by decide) rfl (fun ls hl => ?_)
            refine lv_iconst (v := 0) hx hb dX6_winningTurns_49 (by decide) ?_
            refine lv_istore (lv' := [(7, .int 0), (5, .long (coth fa fb mt)), (3, .long x27), (2, .int (cside (pop (fa ||| fb)) mt)), (0, .ref h0), (1, .int v)]) hx hb dX6_winningTurns_50 hl (by decide) rfl (fun ls hl => ?_)
            refine lv_iconst (v := 0) hx hb dX6_winningTurns_52 (by decide) ?_
            refine lv_istore (lv' := [(8, .int 0), (7, .int 0), (5, .long (coth fa fb mt)), (3, .long x27), (2, .int (cside (pop (fa ||| fb)) mt)), (0, .ref h0), (1, .int v)]) hx hb dX6_winningTurns_53 hl (by decide) rfl (fun ls hl => ?_)
            have loop55 : ∀ (nn i55 : Nat), i55 + nn = 8 → ∀ ls, lv_has ls 9 [(8, .int (nI i55)), (7, .int (nI (cwt x27 (coth fa fb mt) i55))), (3, .long x27), (5, .long (coth fa fb mt))] → W p l e (headSpec wsX6_winningTurns ({ frames := 7, cells := 3, slots := 18, locals := 111 } : Room)).room s m ([.ref h0, .int v] : List Value).toArray below meth c H locs 3 18 (vx_MQ below (va_Qi (fun (r : Int32) (u : Unit) => icell v ∧ re = 0 ∧ mt = 0 ∧ (¬ (cempty fa fb &&& jshl 1 v) = 0) ∧ r = (if cline (cown fa fb mt ||| jshl 1 v) = true then 8 else nI (cwt (cown fa fb mt ||| jshl 1 v) (coth fa fb mt) 8))) (fun (u : Unit) => pv_B D cI cJ (A) [(h0, .inr (3, [.ref lg, .ref fs, .ref ps, .long fa, .long fb, .int mt, .int re]))]) (A)) (vx_X (fun (_ : Unit) => True) (fun (E : String) (_ : Unit) (tt : State) => ((E = nIOB ∧ ¬ icell v) ∨ (E = nISE ∧ icell v ∧ ¬ (re = 0 ∧ mt = 0 ∧ ¬ (cempty fa fb &&& jshl 1 v) = 0))) ∧ pv_B D cI cJ (A) [(h0, .inr (3, [.ref lg, .ref fs, .ref ps, .long fa, .long fb, .int mt, .int re]))] tt) (A)) ([.ref h0, .int v] : List Value).toArray s 3 18 A) (F0 m 55 ls []) := by
              intro nn
              induction nn with
              | zero =>
                intro i55 hi55 ls hl
                obtain rfl : i55 = 8 := by omega
                refine lv_iload hx hb dX6_winningTurns_55 (lv_at hl 0 rfl) ?_
                refine lv_bipush (v := 8) hx hb dX6_winningTurns_57 (by decide) ?_
                refine lv_icmp_ge (tgt := 96) hx hb dX6_winningTurns_59 (by decide) (fun c59 => ?_) (fun c59 => ?_)
                · have c59 : 8 ≤ 8 := (nq_le (a := 8) (b := 8) (by omega) (by omega)).mp c59
                  refine lv_iload hx hb dX6_winningTurns_96 (lv_at hl 1 rfl) ?_
                  refine vx_ret ?_
                  refine W.widen (k := 3) (n := 18) (Nat.le_of_ble_eq_true rfl) (Nat.le_of_ble_eq_true rfl) ?_
                  refine W.iret (v := (nI (cwt x27 (coth fa fb mt) 8))) hx hb hr (fun tt ht hW => ⟨⟨(nI (cwt x27 (coth fa fb mt) 8)), (), rfl, ?_, by rw [ht]; exact hP, va_K.moved hW.alike hK, hD⟩, hS.F ht⟩) hS.2.2 dX6_winningTurns_98
                  exact ⟨hw1, hw5.1, hw5.2, hw10, by { rw [← ex27]; first | (rw [if_pos b30]; done) | (rw [if_neg b30]; done) }⟩
                · have c59 : ¬ 8 ≤ 8 := _root_.mt (nq_le (a := 8) (b := 8) (by omega) (by omega)).mpr c59
                  omega
              | succ nn ih55 =>
                intro i55 hi55 ls hl
                refine lv_iload hx hb dX6_winningTurns_55 (lv_at hl 0 rfl) ?_
                refine lv_bipush (v := 8) hx hb dX6_winningTurns_57 (by decide) ?_
                refine lv_icmp_ge (tgt := 96) hx hb dX6_winningTurns_59 (by decide) (fun c59 => ?_) (fun c59 => ?_)
                · have c59 : 8 ≤ i55 := (nq_le (a := 8) (b := i55) (by omega) (by omega)).mp c59
                  omega
                · have c59 : ¬ 8 ≤ i55 := _root_.mt (nq_le (a := 8) (b := i55) (by omega) (by omega)).mpr c59
                  refine lv_lload_n hx hb dX6_winningTurns_62 rfl (lv_at hl 2 rfl) ?_
                  refine lv_iload hx hb dX6_winningTurns_63 (lv_at hl 0 rfl) ?_
                  refine vp_callSl (W.runS (As := [.long x27, .int (nI i55)]) (rest := []) ⟨hx, hb, hml, hown, hts⟩ (c_X4_turned l x27 i55 (by omega)) (va_cwS 2 hts gX6_winningTurns_X4_turned rfl rfl rfl (by decide +kernel) ⟨Nat.le_of_ble_eq_true rfl, Nat.le_of_ble_eq_true rfl⟩) ⟨px_blind0, fun U hU hW => ⟨rfl, trivial⟩⟩ rfl rfl hl.1 rfl (lv_room (Nat.le_of_ble_eq_true rfl)) dX6_winningTurns_65 ⟨(Nat.le_of_ble_eq_true rfl), (Nat.le_of_ble_eq_true rfl)⟩) (fun r65 er65 => ?_)
                  obtain rfl := er65.symm
                  refine vp_callSi (W.runS (As := [.long (cturned x27 i55)]) (rest := []) ⟨hx, hb, hml, hown, hts⟩ (c_X1_hasLine l (cturned x27 i55)) (va_cwS 1 hts gX6_winningTurns_X1_hasLine rfl rfl rfl (by decide +kernel) ⟨Nat.le_of_ble_eq_true rfl, Nat.le_of_ble_eq_true rfl⟩) ⟨px_blind0, fun U hU hW => ⟨rfl, trivial⟩⟩ rfl rfl hl.1 rfl (lv_room (Nat.le_of_ble_eq_true rfl)) dX6_winningTurns_68 ⟨(Nat.le_of_ble_eq_true rfl), (Nat.le_of_ble_eq_true rfl)⟩) (fun r68 er68 => ?_)
                  obtain rfl := er68.symm
                  refine pk_b (P := cline (cturned x27 i55) = true) (fun b68 => ?_) (fun b68 => ?_)
                  · refine lv_if_eq (tgt := 90) hx hb dX6_winningTurns_71 (by decide) (fun c71 => ?_) (fun c71 => ?_)
                    · exact absurd c71 (by decide)
                    · refine lv_lload hx hb dX6_winningTurns_74 (lv_at hl 3 rfl) ?_
                      refine lv_iload hx hb dX6_winningTurns_76 (lv_at hl 0 rfl) ?_
                      refine vp_callSl (W.runS (As := [.long (coth fa fb mt), .int (nI i55)]) (rest := []) ⟨hx, hb, hml, hown, hts⟩ (c_X4_turned l (coth fa fb mt) i55 (by omega)) (va_cwS 2 hts gX6_winningTurns_X4_turned rfl rfl rfl (by decide +kernel) ⟨Nat.le_of_ble_eq_true rfl, Nat.le_of_ble_eq_true rfl⟩) ⟨px_blind0, fun U hU hW => ⟨rfl, trivial⟩⟩ rfl rfl hl.1 rfl (lv_room (Nat.le_of_ble_eq_true rfl)) dX6_winningTurns_78 ⟨(Nat.le_of_ble_eq_true rfl), (Nat.le_of_ble_eq_true rfl)⟩) (fun r78 er78 => ?_)
                      obtain rfl := er78.symm
                      refine vp_callSi (W.runS (As := [.long (cturned (coth fa fb mt) i55)]) (rest := []) ⟨hx, hb, hml, hown, hts⟩ (c_X1_hasLine l (cturned (coth fa fb mt) i55)) (va_cwS 1 hts gX6_winningTurns_X1_hasLine rfl rfl rfl (by decide +kernel) ⟨Nat.le_of_ble_eq_true rfl, Nat.le_of_ble_eq_true rfl⟩) ⟨px_blind0, fun U hU hW => ⟨rfl, trivial⟩⟩ rfl rfl hl.1 rfl (lv_room (Nat.le_of_ble_eq_true rfl)) dX6_winningTurns_81 ⟨(Nat.le_of_ble_eq_true rfl), (Nat.le_of_ble_eq_true rfl)⟩) (fun r81 er81 => ?_)
                      obtain rfl := er81.symm
                      refine pk_b (P := cline (cturned (coth fa fb mt) i55) = true) (fun b81 => ?_) (fun b81 => ?_)
                      · refine lv_if_ne (tgt := 90) hx hb dX6_winningTurns_84 (by decide) (fun c84 => ?_) (fun c84 => ?_)
                        · refine lv_iinc (v := nI (i55 + 1)) (lv' := [(8, .int (nI (i55 + 1))), (7, .int (nI (cwt x27 (coth fa fb mt) i55))), (3, .long x27), (5, .long (coth fa fb mt))]) hx hb dX6_winningTurns_90 hl (k := 0) rfl (nI_add i55 1) (by decide) rfl (fun ls hl => ?_)
                          refine lv_goto (tgt := 55) hx hb dX6_winningTurns_93 (by decide) ?_
                          exact ih55 (i55 + 1) (by omega) ls (by { have e9 : ((nI (cwt x27 (coth fa fb mt) i55)) : Int32) = (nI (cwt x27 (coth fa fb mt) (i55 + 1))) := by { first | exact cwt_1 b68 b81 | exact cwt_2 b68 b81 | exact cwt_3 b68 }; rw [← e9]; exact lv_sub hl [0, 1, 2, 3] rfl })
                        · exact absurd c84 (by decide)
                      · refine lv_if_ne (tgt := 90) hx hb dX6_winningTurns_84 (by decide) (fun c84 => ?_) (fun c84 => ?_)
                        · exact absurd c84 (by decide)
                        · refine lv_iinc (v := nI (cwt x27 (coth fa fb mt) i55 + 1)) (lv' := [(7, .int (nI (cwt x27 (coth fa fb mt) i55 + 1))), (8, .int (nI i55)), (3, .long x27), (5, .long (coth fa fb mt))]) hx hb dX6_winningTurns_87 hl (k := 1) rfl (nI_add (cwt x27 (coth fa fb mt) i55) 1) (by decide) rfl (fun ls hl => ?_)
                          refine lv_iinc (v := nI (i55 + 1)) (lv' := [(8, .int (nI (i55 + 1))), (7, .int (nI (cwt x27 (coth fa fb mt) i55 + 1))), (3, .long x27), (5, .long (coth fa fb mt))]) hx hb dX6_winningTurns_90 hl (k := 1) rfl (nI_add i55 1) (by decide) rfl (fun ls hl => ?_)
                          refine lv_goto (tgt := 55) hx hb dX6_winningTurns_93 (by decide) ?_
                          exact ih55 (i55 + 1) (by omega) ls (by { have e9 : ((nI (cwt x27 (coth fa fb mt) i55 + 1)) : Int32) = (nI (cwt x27 (coth fa fb mt) (i55 + 1))) := by { first | exact cwt_1 b68 b81 | exact cwt_2 b68 b81 | exact cwt_3 b68 }; rw [← e9]; exact lv_sub hl [0, 1, 2, 3] rfl })
                  · refine lv_if_eq (tgt := 90) hx hb dX6_winningTurns_71 (by decide) (fun c71 => ?_) (fun c71 => ?_)
                    · refine lv_iinc (v := nI (i55 + 1)) (lv' := [(8, .int (nI (i55 + 1))), (7, .int (nI (cwt x27 (coth fa fb mt) i55))), (3, .long x27), (5, .long (coth fa fb mt))]) hx hb dX6_winningTurns_90 hl (k := 0) rfl (nI_add i55 1) (by decide) rfl (fun ls hl => ?_)
                      refine lv_goto (tgt := 55) hx hb dX6_winningTurns_93 (by decide) ?_
                      exact ih55 (i55 + 1) (by omega) ls (by { have e9 : ((nI (cwt x27 (coth fa fb mt) i55)) : Int32) = (nI (cwt x27 (coth fa fb mt) (i55 + 1))) := by { first | exact cwt_1 b68 b81 | exact cwt_2 b68 b81 | exact cwt_3 b68 }; rw [← e9]; exact lv_sub hl [0, 1, 2, 3] rfl })
                    · exact absurd c71 (by decide)
            exact loop55 8 0 (by omega) ls (lv_sub hl [0, 1, 3, 2] rfl)
          · exact absurd c33 (by decide)
