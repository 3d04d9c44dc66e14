set_option maxHeartbeats 400000 in
set_option maxRecDepth 100000 in
theorem c_X6_put (l : Launch) (hltr : l.stackTraces = false) (D : va_G) (cI cJ : ClassId) (sz : Nat) (h0 lg lc lt fs ps : Nat) (fa fb : Int64) (mt re : Int32) (cs ts : Nat → Int32) (k : Nat) (hk : k ≤ 36) (v : Int32) (hk2 : mt = 0 → re = 0 → ¬ (cempty fa fb &&& jshl 1 v) = 0 → k < 36) : vx_Met l yX6_put wsX6_put ({ frames := 7, cells := 3, slots := 18, locals := 111 } : Room) (va_Pc [.ref h0, .int v] (px_X (va_A [(h0, .inr (3, [.ref lg, .ref fs, .ref ps, .long fa, .long fb, .int mt, .int re])), (lg, .inr (0, [.ref lc, .ref lt, .int (nI k)])), (lc, .inl (cI, 36, .inl cs)), (lt, .inl (cI, 36, .inl ts))] sz) (pv_C D cI cJ [(h0, .inr (3, [.ref lg, .ref fs, .ref ps, .long fa, .long fb, .int mt, .int re])), (lg, .inr (0, [.ref lc, .ref lt, .int (nI k)])), (lc, .inl (cI, 36, .inl cs)), (lt, .inl (cI, 36, .inl ts))] sz))) (va_Qi (fun (r : Int32) (u : (Int64) × (Int64) × (Int32) × (Int32)) => icell v ∧ re = 0 ∧ mt = 0 ∧ (¬ (cempty fa fb &&& jshl 1 v) = 0) ∧ r = u.2.2.2 ∧ ((u.1 = (fa ||| jshl 1 v) ∧ u.2.1 = fb ∧ cside (pop (fa ||| fb)) mt = 1 ∧ (if cline (fa ||| jshl 1 v) = true then u.2.2.1 = 0 ∧ u.2.2.2 = 1 else u.2.2.1 = 1 ∧ u.2.2.2 = 0)) ∨ (u.1 = fa ∧ u.2.1 = (fb ||| jshl 1 v) ∧ ¬ cside (pop (fa ||| fb)) mt = 1 ∧ (if cline (fb ||| jshl 1 v) = true then u.2.2.1 = 0 ∧ u.2.2.2 = cside (pop (fa ||| fb)) mt else u.2.2.1 = 1 ∧ u.2.2.2 = 0)))) (fun (u : (Int64) × (Int64) × (Int32) × (Int32)) => pv_B D cI cJ (va_A [(h0, .inr (3, [.ref lg, .ref fs, .ref ps, .long fa, .long fb, .int mt, .int re])), (lg, .inr (0, [.ref lc, .ref lt, .int (nI k)])), (lc, .inl (cI, 36, .inl cs)), (lt, .inl (cI, 36, .inl ts))] sz) [(h0, .inr (3, [.ref lg, .ref fs, .ref ps, .long u.1, .long u.2.1, .int u.2.2.1, .int u.2.2.2])), (lg, .inr (0, [.ref lc, .ref lt, .int (nI (k + 1))])), (lc, .inl (cI, 36, .inl (upd cs k v))), (lt, .inl (cI, 36, .inl (upd ts k (-1))))]) (va_A [(h0, .inr (3, [.ref lg, .ref fs, .ref ps, .long fa, .long fb, .int mt, .int re])), (lg, .inr (0, [.ref lc, .ref lt, .int (nI k)])), (lc, .inl (cI, 36, .inl cs)), (lt, .inl (cI, 36, .inl ts))] sz)) (vx_X (fun (_ : Unit) => True) (fun (E : String) (_ : Unit) (tt : State) => ((E = nIOB ∧ ¬ icell v) ∨ (E = nISE ∧ icell v ∧ ¬ (re = 0 ∧ mt = 0 ∧ ¬ (cempty fa fb &&& jshl 1 v) = 0))) ∧ pv_B D cI cJ (va_A [(h0, .inr (3, [.ref lg, .ref fs, .ref ps, .long fa, .long fb, .int mt, .int re])), (lg, .inr (0, [.ref lc, .ref lt, .int (nI k)])), (lc, .inl (cI, 36, .inl cs)), (lt, .inl (cI, 36, .inl ts))] sz) [(h0, .inr (3, [.ref lg, .ref fs, .ref ps, .long fa, .long fb, .int mt, .int re])), (lg, .inr (0, [.ref lc, .ref lt, .int (nI k)])), (lc, .inl (cI, 36, .inl cs)), (lt, .inl (cI, 36, .inl ts))] tt) (va_A [(h0, .inr (3, [.ref lg, .ref fs, .ref ps, .long fa, .long fb, .int mt, .int re])), (lg, .inr (0, [.ref lc, .ref lt, .int (nI k)])), (lc, .inl (cI, 36, .inl cs)), (lt, .inl (cI, 36, .inl ts))] sz)) 3 18 (va_A [(h0, .inr (3, [.ref lg, .ref fs, .ref ps, .long fa, .long fb, .int mt, .int re])), (lg, .inr (0, [.ref lc, .ref lt, .int (nI k)])), (lc, .inl (cI, 36, .inl cs)), (lt, .inl (cI, 36, .inl ts))] sz) := by
  refine vx_ofW (cc := cX6_put) (maxL := 3) (ret := (some .int)) (by decide) rfl ?_
  intro p e s m args below meth c s₁ B hml htab hv
  obtain ⟨rfl, hEX, hZ, rfl, hP, hK, hD0⟩ := hv
  have hx := B.exec
  have hb := B.bytes
  have hr := B.returns
  have hts := atoms_spec (ws := wsX6_put) B.pre
  have hown : s.vm.findClass RX6 = some m.cls := findClass_of_methodNamed B.named
  have hlocks := B.notSynchronized
  have hD := hD0.self (sz := s.heap.size)
  generalize hAe : va_A [(h0, .inr (3, [.ref lg, .ref fs, .ref ps, .long fa, .long fb, .int mt, .int re])), (lg, .inr (0, [.ref lc, .ref lt, .int (nI k)])), (lc, .inl (cI, 36, .inl cs)), (lt, .inl (cI, 36, .inl ts))] s.heap.size = A at hD hZ ⊢
  have hA : ∀ q : Nat, s.heap.size ≤ q → A q := fun q h => by rw [← hAe]; exact Or.inr h
  have hS : va_S A s.heap s.heap [] := va_S.rf
  have hinX6 : ∀ w ∈ wsX60, w ∈ wsX6_put := by decide +kernel
  have hfl57 : (Cond.fieldLink RX6 57 "Twistquad" "second" "J").before ([.ref h0, .int v] : List Value).toArray s = true := hts _ (by decide +kernel)
  have hfl12 : (Cond.fieldLink RX6 12 "Twistquad" "log" "LTwistquad$MoveLog;").before ([.ref h0, .int v] : List Value).toArray s = true := hts _ (by decide +kernel)
  have hfl31 : (Cond.fieldLink RX6 31 "Twistquad" "result" "I").before ([.ref h0, .int v] : List Value).toArray s = true := hts _ (by decide +kernel)
  have hfl72 : (Cond.fieldLink RX6 72 "Twistquad" "mustTurn" "Z").before ([.ref h0, .int v] : List Value).toArray s = true := hts _ (by decide +kernel)
  have hfl49 : (Cond.fieldLink RX6 49 "Twistquad" "first" "J").before ([.ref h0, .int v] : List Value).toArray s = true := hts _ (by decide +kernel)
  have hl := lv_entry ([.ref h0, .int v]) (n := 3) (Nat.le_of_ble_eq_true rfl)
  rw [lg_entry_eq]
  generalize (lg_sl ([.ref h0, .int v]) ++ List.replicate (3 - (lg_sl ([.ref h0, .int v])).length) Slot.unset).toArray = ls at hl ⊢
  have hl : lv_has ls 3 [(0, .ref h0), (1, .int v)] := hl
  refine lv_iload_n hx hb dX6_put_0 rfl (lv_at hl 1 rfl) ?_
  have hPc : va_P D vwCl [] s.heap := hP.sub (ws' := []) [] rfl
  have hDc : va_D A [] := hD.sub (ws' := []) [] (by decide) rfl
  have hFc := va_free (wc := []) hD hS hA [] rfl
  refine vx_callv (vx_runS (As := [.int v]) (rest := []) ⟨hx, hb, hml, hown, hts⟩ (c_X6_requireCell l hltr D cI cJ s.heap.size v) (va_cwS 1 hts gX6_put_X6_requireCell rfl rfl rfl (by decide +kernel) ⟨Nat.le_of_ble_eq_true rfl, Nat.le_of_ble_eq_true rfl⟩) ⟨(px_blindX pv_blind), fun U hU hW => ⟨rfl, hEX.warm hW, by rw [hU]; exact hZ.to hS hW.alike hFc, by rw [hU], by rw [hU]; exact hPc, va_K.moved hW.alike hK, hDc.weaken (fun _ _ _ _ => trivial)⟩⟩ rfl rfl hl.1 rfl (lv_room (Nat.le_of_ble_eq_true rfl)) dX6_put_1 ⟨(Nat.le_of_ble_eq_true rfl), (Nat.le_of_ble_eq_true rfl)⟩) hS (fun q _ h => hFc q h) hFc (fun q _ h => hFc q h) (fun E ce q9 u9 t9 H1 locs hth hvm hpx hB9 hz1 hk1 hS hce hcv hcl => ?_) (fun u t9 H1 locs hth hvm hw1 hB9 hz1 hk1 hS => ?_)
  · obtain ⟨hb9, hP1, hK1, hD1⟩ := hB9
    rw [hth] at hP1
    obtain ⟨hP, hD⟩ := va_join (wr := [(h0, .inr (3, [.ref lg, .ref fs, .ref ps, .long fa, .long fb, .int mt, .int re])), (lg, .inr (0, [.ref lc, .ref lt, .int (nI k)])), (lc, .inl (cI, 36, .inl cs)), (lt, .inl (cI, 36, .inl ts))]) (w1 := []) hP hD [] [0, 1, 2, 3] rfl rfl (by decide) (by decide) hk1 hFc hP1 hD1
    have hP : va_P D vwCl [(h0, .inr (3, [.ref lg, .ref fs, .ref ps, .long fa, .long fb, .int mt, .int re])), (lg, .inr (0, [.ref lc, .ref lt, .int (nI k)])), (lc, .inl (cI, 36, .inl cs)), (lt, .inl (cI, 36, .inl ts))] H1 := hP.sub (ws' := [(h0, .inr (3, [.ref lg, .ref fs, .ref ps, .long fa, .long fb, .int mt, .int re])), (lg, .inr (0, [.ref lc, .ref lt, .int (nI k)])), (lc, .inl (cI, 36, .inl cs)), (lt, .inl (cI, 36, .inl ts))]) [0, 1, 2, 3] rfl
    have hD : va_D A [(h0, .inr (3, [.ref lg, .ref fs, .ref ps, .long fa, .long fb, .int mt, .int re])), (lg, .inr (0, [.ref lc, .ref lt, .int (nI k)])), (lc, .inl (cI, 36, .inl cs)), (lt, .inl (cI, 36, .inl ts))] := hD.sub (ws' := [(h0, .inr (3, [.ref lg, .ref fs, .ref ps, .long fa, .long fb, .int mt, .int re])), (lg, .inr (0, [.ref lc, .ref lt, .int (nI k)])), (lc, .inl (cI, 36, .inl cs)), (lt, .inl (cI, 36, .inl ts))]) [0, 1, 2, 3] (by decide) rfl
    exact vx_out (fun x h => (htab x h).elim) hlocks hce hcv hcl (fun tt htt hvt => ⟨(), trivial, ⟨Or.inl hb9, by rw [htt]; exact hP, va_K.moved hvt hK, hD⟩, hS.F htt⟩) hS.2.2 (Nat.le_of_ble_eq_true rfl) (Nat.le_of_ble_eq_true rfl)
  · try dsimp only at hw1
    obtain ⟨hP1, hK1, hD1⟩ := hB9
    rw [hth] at hP1
    obtain ⟨hP, hD⟩ := va_join (wr := [(h0, .inr (3, [.ref lg, .ref fs, .ref ps, .long fa, .long fb, .int mt, .int re])), (lg, .inr (0, [.ref lc, .ref lt, .int (nI k)])), (lc, .inl (cI, 36, .inl cs)), (lt, .inl (cI, 36, .inl ts))]) (w1 := []) hP hD [] [0, 1, 2, 3] rfl rfl (by decide) (by decide) hk1 hFc hP1 hD1
    generalize H1 = H at hP hS ⊢
    have hP : va_P D vwCl [(h0, .inr (3, [.ref lg, .ref fs, .ref ps, .long fa, .long fb, .int mt, .int re])), (lg, .inr (0, [.ref lc, .ref lt, .int (nI k)])), (lc, .inl (cI, 36, .inl cs)), (lt, .inl (cI, 36, .inl ts))] H := hP.sub (ws' := [(h0, .inr (3, [.ref lg, .ref fs, .ref ps, .long fa, .long fb, .int mt, .int re])), (lg, .inr (0, [.ref lc, .ref lt, .int (nI k)])), (lc, .inl (cI, 36, .inl cs)), (lt, .inl (cI, 36, .inl ts))]) [0, 1, 2, 3] rfl
    have hD : va_D A [(h0, .inr (3, [.ref lg, .ref fs, .ref ps, .long fa, .long fb, .int mt, .int re])), (lg, .inr (0, [.ref lc, .ref lt, .int (nI k)])), (lc, .inl (cI, 36, .inl cs)), (lt, .inl (cI, 36, .inl ts))] := hD.sub (ws' := [(h0, .inr (3, [.ref lg, .ref fs, .ref ps, .long fa, .long fb, .int mt, .int re])), (lg, .inr (0, [.ref lc, .ref lt, .int (nI k)])), (lc, .inl (cI, 36, .inl cs)), (lt, .inl (cI, 36, .inl ts))]) [0, 1, 2, 3] (by decide) rfl
    refine lv_aload_n hx hb dX6_put_4 rfl (lv_at hl 0 rfl) ?_
    have hPc : va_P D vwCl [(h0, .inr (3, [.ref lg, .ref fs, .ref ps, .long fa, .long fb, .int mt, .int re]))] H := hP.sub (ws' := [(h0, .inr (3, [.ref lg, .ref fs, .ref ps, .long fa, .long fb, .int mt, .int re]))]) [0] rfl
    have hDc : va_D A [(h0, .inr (3, [.ref lg, .ref fs, .ref ps, .long fa, .long fb, .int mt, .int re]))] := hD.sub (ws' := [(h0, .inr (3, [.ref lg, .ref fs, .ref ps, .long fa, .long fb, .int mt, .int re]))]) [0] (by decide) rfl
    have hFc := va_free (wc := [(h0, .inr (3, [.ref lg, .ref fs, .ref ps, .long fa, .long fb, .int mt, .int re]))]) hD hS hA [0] rfl
    refine vx_callv (vx_runV (As := []) (rest := []) ⟨hx, hb, hml, hown, hts⟩ (c_X6_requireToPut l hltr D cI cJ H.size  h0 lg fs ps fa fb mt re ) (cwV 0 hts gX6_put_X6_requireToPut rfl rfl rfl (by decide +kernel) ⟨Nat.le_of_ble_eq_true rfl, Nat.le_of_ble_eq_true rfl⟩) ⟨(px_blindX pv_blind), va_recv hK hPc (ci := 3) (q0 := 0) rfl rfl, fun U hU hW => ⟨rfl, hEX.warm hW, by rw [hU]; exact hZ.to hS hW.alike hFc, by rw [hU], by rw [hU]; exact hPc, va_K.moved hW.alike hK, hDc.weaken (fun _ _ _ _ => trivial)⟩⟩ rfl rfl hl.1 rfl (lv_room (Nat.le_of_ble_eq_true rfl)) dX6_put_5 ⟨(Nat.le_of_ble_eq_true rfl), (Nat.le_of_ble_eq_true rfl)⟩) hS (fun q _ h => hFc q h) hFc (fun q _ h => hFc q h) (fun E ce q9 u9 t9 H1 locs hth hvm hpx hB9 hz1 hk1 hS hce hcv hcl => ?_) (fun u t9 H1 locs hth hvm hw5 hB9 hz1 hk1 hS => ?_)
    · obtain ⟨hb9, hP1, hK1, hD1⟩ := hB9
      rw [hth] at hP1
      obtain ⟨hP, hD⟩ := va_join (wr := [(lg, .inr (0, [.ref lc, .ref lt, .int (nI k)])), (lc, .inl (cI, 36, .inl cs)), (lt, .inl (cI, 36, .inl ts))]) (w1 := [(h0, .inr (3, [.ref lg, .ref fs, .ref ps, .long fa, .long fb, .int mt, .int re]))]) hP hD [0] [1, 2, 3] rfl rfl (by decide) (by decide) hk1 hFc hP1 hD1
      have hP : va_P D vwCl [(h0, .inr (3, [.ref lg, .ref fs, .ref ps, .long fa, .long fb, .int mt, .int re])), (lg, .inr (0, [.ref lc, .ref lt, .int (nI k)])), (lc, .inl (cI, 36, .inl cs)), (lt, .inl (cI, 36, .inl ts))] H1 := hP.sub (ws' := [(h0, .inr (3, [.ref lg, .ref fs, .ref ps, .long fa, .long fb, .int mt, .int re])), (lg, .inr (0, [.ref lc, .ref lt, .int (nI k)])), (lc, .inl (cI, 36, .inl cs)), (lt, .inl (cI, 36, .inl ts))]) [3, 0, 1, 2] rfl
      have hD : va_D A [(h0, .inr (3, [.ref lg, .ref fs, .ref ps, .long fa, .long fb, .int mt, .int re])), (lg, .inr (0, [.ref lc, .ref lt, .int (nI k)])), (lc, .inl (cI, 36, .inl cs)), (lt, .inl (cI, 36, .inl ts))] := hD.sub (ws' := [(h0, .inr (3, [.ref lg, .ref fs, .ref ps, .long fa, .long fb, .int mt, .int re])), (lg, .inr (0, [.ref lc, .ref lt, .int (nI k)])), (lc, .inl (cI, 36, .inl cs)), (lt, .inl (cI, 36, .inl ts))]) [3, 0, 1, 2] (by decide) rfl
      exact vx_out (fun x h => (htab x h).elim) hlocks hce hcv hcl (fun tt htt hvt => ⟨(), trivial, ⟨Or.inr ⟨hb9.1, hw1, fun h => hb9.2 ⟨h.1, h.2.1⟩⟩, by rw [htt]; exact hP, va_K.moved hvt hK, hD⟩, hS.F htt⟩) hS.2.2 (Nat.le_of_ble_eq_true rfl) (Nat.le_of_ble_eq_true rfl)
    · try dsimp only at hw5
      obtain ⟨hP1, hK1, hD1⟩ := hB9
      rw [hth] at hP1
      obtain ⟨hP, hD⟩ := va_join (wr := [(lg, .inr (0, [.ref lc, .ref lt, .int (nI k)])), (lc, .inl (cI, 36, .inl cs)), (lt, .inl (cI, 36, .inl ts))]) (w1 := [(h0, .inr (3, [.ref lg, .ref fs, .ref ps, .long fa, .long fb, .int mt, .int re]))]) hP hD [0] [1, 2, 3] rfl rfl (by decide) (by decide) hk1 hFc hP1 hD1
      generalize H1 = H at hP hS ⊢
      have hP : va_P D vwCl [(h0, .inr (3, [.ref lg, .ref fs, .ref ps, .long fa, .long fb, .int mt, .int re])), (lg, .inr (0, [.ref lc, .ref lt, .int (nI k)])), (lc, .inl (cI, 36, .inl cs)), (lt, .inl (cI, 36, .inl ts))] H := hP.sub (ws' := [(h0, .inr (3, [.ref lg, .ref fs, .ref ps, .long fa, .long fb, .int mt, .int re])), (lg, .inr (0, [.ref lc, .ref lt, .int (nI k)])), (lc, .inl (cI, 36, .inl cs)), (lt, .inl (cI, 36, .inl ts))]) [3, 0, 1, 2] rfl
      have hD : va_D A [(h0, .inr (3, [.ref lg, .ref fs, .ref ps, .long fa, .long fb, .int mt, .int re])), (lg, .inr (0, [.ref lc, .ref lt, .int (nI k)])), (lc, .inl (cI, 36, .inl cs)), (lt, .inl (cI, 36, .inl ts))] := hD.sub (ws' := [(h0, .inr (3, [.ref lg, .ref fs, .ref ps, .long fa, .long fb, .int mt, .int re])), (lg, .inr (0, [.ref lc, .ref lt, .int (nI k)])), (lc, .inl (cI, 36, .inl cs)), (lt, .inl (cI, 36, .inl ts))]) [3, 0, 1, 2] (by decide) rfl
      refine lv_aload_n hx hb dX6_put_8 rfl (lv_at hl 0 rfl) ?_
      refine lv_iload_n hx hb dX6_put_9 rfl (lv_at hl 1 rfl) ?_
      have hPc : va_P D vwCl [(h0, .inr (3, [.ref lg, .ref fs, .ref ps, .long fa, .long fb, .int mt, .int re]))] H := hP.sub (ws' := [(h0, .inr (3, [.ref lg, .ref fs, .ref ps, .long fa, .long fb, .int mt, .int re]))]) [0] rfl
      have hDc : va_D A [(h0, .inr (3, [.ref lg, .ref fs, .ref ps, .long fa, .long fb, .int mt, .int re]))] := hD.sub (ws' := [(h0, .inr (3, [.ref lg, .ref fs, .ref ps, .long fa, .long fb, .int mt, .int re]))]) [0] (by decide) rfl
      have hFc := va_free (wc := [(h0, .inr (3, [.ref lg, .ref fs, .ref ps, .long fa, .long fb, .int mt, .int re]))]) hD hS hA [0] rfl
      refine vx_callv (vx_runV (As := [.int v]) (rest := []) ⟨hx, hb, hml, hown, hts⟩ (c_X6_requireEmpty l hltr D cI cJ H.size  h0 lg fs ps fa fb mt re v) (cwV 1 hts gX6_put_X6_requireEmpty rfl rfl rfl (by decide +kernel) ⟨Nat.le_of_ble_eq_true rfl, Nat.le_of_ble_eq_true rfl⟩) ⟨(px_blindX pv_blind), va_recv hK hPc (ci := 3) (q0 := 0) rfl rfl, fun U hU hW => ⟨rfl, hEX.warm hW, by rw [hU]; exact hZ.to hS hW.alike hFc, by rw [hU], by rw [hU]; exact hPc, va_K.moved hW.alike hK, hDc.weaken (fun _ _ _ _ => trivial)⟩⟩ rfl rfl hl.1 rfl (lv_room (Nat.le_of_ble_eq_true rfl)) dX6_put_10 ⟨(Nat.le_of_ble_eq_true rfl), (Nat.le_of_ble_eq_true rfl)⟩) hS (fun q _ h => hFc q h) hFc (fun q _ h => hFc q h) (fun E ce q9 u9 t9 H1 locs hth hvm hpx hB9 hz1 hk1 hS hce hcv hcl => ?_) (fun u t9 H1 locs hth hvm hw10 hB9 hz1 hk1 hS => ?_)
      · obtain ⟨hb9, hP1, hK1, hD1⟩ := hB9
        rw [hth] at hP1
        obtain ⟨hP, hD⟩ := va_join (wr := [(lg, .inr (0, [.ref lc, .ref lt, .int (nI k)])), (lc, .inl (cI, 36, .inl cs)), (lt, .inl (cI, 36, .inl ts))]) (w1 := [(h0, .inr (3, [.ref lg, .ref fs, .ref ps, .long fa, .long fb, .int mt, .int re]))]) hP hD [0] [1, 2, 3] rfl rfl (by decide) (by decide) hk1 hFc hP1 hD1
        have hP : va_P D vwCl [(h0, .inr (3, [.ref lg, .ref fs, .ref ps, .long fa, .long fb, .int mt, .int re])), (lg, .inr (0, [.ref lc, .ref lt, .int (nI k)])), (lc, .inl (cI, 36, .inl cs)), (lt, .inl (cI, 36, .inl ts))] H1 := hP.sub (ws' := [(h0, .inr (3, [.ref lg, .ref fs, .ref ps, .long fa, .long fb, .int mt, .int re])), (lg, .inr (0, [.ref lc, .ref lt, .int (nI k)])), (lc, .inl (cI, 36, .inl cs)), (lt, .inl (cI, 36, .inl ts))]) [3, 0, 1, 2] rfl
        have hD : va_D A [(h0, .inr (3, [.ref lg, .ref fs, .ref ps, .long fa, .long fb, .int mt, .int re])), (lg, .inr (0, [.ref lc, .ref lt, .int (nI k)])), (lc, .inl (cI, 36, .inl cs)), (lt, .inl (cI, 36, .inl ts))] := hD.sub (ws' := [(h0, .inr (3, [.ref lg, .ref fs, .ref ps, .long fa, .long fb, .int mt, .int re])), (lg, .inr (0, [.ref lc, .ref lt, .int (nI k)])), (lc, .inl (cI, 36, .inl cs)), (lt, .inl (cI, 36, .inl ts))]) [3, 0, 1, 2] (by decide) rfl
        exact vx_out (fun x h => (htab x h).elim) hlocks hce hcv hcl (fun tt htt hvt => ⟨(), trivial, ⟨Or.inr ⟨hb9.1, hw1, fun h => h.2.2 hb9.2⟩, by rw [htt]; exact hP, va_K.moved hvt hK, hD⟩, hS.F htt⟩) hS.2.2 (Nat.le_of_ble_eq_true rfl) (Nat.le_of_ble_eq_true rfl)
      · try dsimp only at hw10
        obtain ⟨hP1, hK1, hD1⟩ := hB9
        rw [hth] at hP1
        obtain ⟨hP, hD⟩ := va_join (wr := [(lg, .inr (0, [.ref lc, .ref lt, .int (nI k)])), (lc, .inl (cI, 36, .inl cs)), (lt, .inl (cI, 36, .inl ts))]) (w1 := [(h0, .inr (3, [.ref lg, .ref fs, .ref ps, .long fa, .long fb, .int mt, .int re]))]) hP hD [0] [1, 2, 3] rfl rfl (by decide) (by decide) hk1 hFc hP1 hD1
        generalize H1 = H at hP hS ⊢
        have hP : va_P D vwCl [(h0, .inr (3, [.ref lg, .ref fs, .ref ps, .long fa, .long fb, .int mt, .int re])), (lg, .inr (0, [.ref lc, .ref lt, .int (nI k)])), (lc, .inl (cI, 36, .inl cs)), (lt, .inl (cI, 36, .inl ts))] H := hP.sub (ws' := [(h0, .inr (3, [.ref lg, .ref fs, .ref ps, .long fa, .long fb, .int mt, .int re])), (lg, .inr (0, [.ref lc, .ref lt, .int (nI k)])), (lc, .inl (cI, 36, .inl cs)), (lt, .inl (cI, 36, .inl ts))]) [3, 0, 1, 2] rfl
        have hD : va_D A [(h0, .inr (3, [.ref lg, .ref fs, .ref ps, .long fa, .long fb, .int mt, .int re])), (lg, .inr (0, [.ref lc, .ref lt, .int (nI k)])), (lc, .inl (cI, 36, .inl cs)), (lt, .inl (cI, 36, .inl ts))] := hD.sub (ws' := [(h0, .inr (3, [.ref lg, .ref fs, .ref ps, .long fa, .long fb, .int mt, .int re])), (lg, .inr (0, [.ref lc, .ref lt, .int (nI k)])), (lc, .inl (cI, 36, .inl cs)), (lt, .inl (cI, 36, .inl ts))]) [3, 0, 1, 2] (by decide) rfl
        have hk3 : k < 36 := hk2 hw5.2 hw5.1 hw10
        refine lv_aload_n hx hb dX6_put_13 rfl (lv_at hl 0 rfl) ?_
        refine vp_callSi (W.runV (As := []) (rest := []) ⟨hx, hb, hml, hown, hts⟩ (c_X6_sideToAct l D cI cJ h0 lg fs ps fa fb mt re (Or.inl hw5.2)) (cwV 0 hts gX6_put_X6_sideToAct rfl rfl rfl (by decide +kernel) ⟨Nat.le_of_ble_eq_true rfl, Nat.le_of_ble_eq_true rfl⟩) ⟨px_blindW, va_recv hK hP (ci := 3) (q0 := 0) rfl rfl, fun U hU hW => ⟨rfl, by rw [hU]; exact hP.sub (ws' := [(h0, .inr (3, [.ref lg, .ref fs, .ref ps, .long fa, .long fb, .int mt, .int re]))]) [0] rfl, va_K.moved hW.alike hK⟩⟩ rfl rfl hl.1 rfl (lv_room (Nat.le_of_ble_eq_true rfl)) dX6_put_14 ⟨(Nat.le_of_ble_eq_true rfl), (Nat.le_of_ble_eq_true rfl)⟩) (fun r14 er14 => ?_)
        obtain rfl := er14.symm
        refine lv_istore_n (lv' := [(2, .int (cside (pop (fa ||| fb)) mt)), (0, .ref h0), (1, .int v)]) hx hb dX6_put_17 rfl hl (by decide) rfl (fun ls hl => ?_)
        refine lv_iload_n hx hb dX6_put_18 rfl (lv_at hl 0 rfl) ?_
        refine lv_iconst (v := 1) hx hb dX6_put_19 (by decide) ?_
        refine lv_icmp_ne (tgt := 39) hx hb dX6_put_20 (by decide) (fun c20 => ?_) (fun c20 => ?_)
        · refine lv_aload_n hx hb dX6_put_39 rfl (lv_at hl 1 rfl) ?_
          refine lv_dup hx hb dX6_put_40 rfl ?_
          refine va_get (D := D) (ci := 3) (v := .long fb) (C := RX6) (T := TX6) (N := 7) hx hb hts hinX6 hown hK hP 0 rfl rfl 4 (by decide) hfl57 (fun _ h9 => h9) rfl dX6_put_41 ?_
          refine lv_iload_n hx hb dX6_put_44 rfl (lv_at hl 2 rfl) ?_
          refine vp_callSl (W.runS (As := [.int v]) (rest := [.long fb, .ref h0]) ⟨hx, hb, hml, hown, hts⟩ (c_X6_bitOf l v) (va_cwS 1 hts gX6_put_X6_bitOf rfl rfl rfl (by decide +kernel) ⟨Nat.le_of_ble_eq_true rfl, Nat.le_of_ble_eq_true rfl⟩) ⟨px_blind0, fun U hU hW => ⟨rfl, trivial⟩⟩ rfl rfl hl.1 rfl (lv_room (Nat.le_of_ble_eq_true rfl)) dX6_put_45 ⟨(Nat.le_of_ble_eq_true rfl), (Nat.le_of_ble_eq_true rfl)⟩) (fun r45 er45 => ?_)
          obtain rfl := er45.symm
          refine lv_lor hx hb dX6_put_48 ?_
          refine lv_topl (fun x48 ex48 => ?_)
          refine va_put (D := D) (ci := 3) (v := .long x48) (ty := .long) (C := RX6) (T := TX6) (N := 7) hx hb hts hinX6 tyX6 tyX6_ok nmX6 hown hK hP hD hS 0 rfl rfl 4 (by decide) hfl57 (fun _ h9 => h9) rfl (by decide +kernel) rfl rfl (Nat.le_of_ble_eq_true rfl) dX6_put_49 (fun H locs hP hD hS => ?_)
          have hP : va_P D vwCl [(h0, .inr (3, [.ref lg, .ref fs, .ref ps, .long fa, .long x48, .int mt, .int re])), (lg, .inr (0, [.ref lc, .ref lt, .int (nI k)])), (lc, .inl (cI, 36, .inl cs)), (lt, .inl (cI, 36, .inl ts))] H := hP
          have hD : va_D A [(h0, .inr (3, [.ref lg, .ref fs, .ref ps, .long fa, .long x48, .int mt, .int re])), (lg, .inr (0, [.ref lc, .ref lt, .int (nI k)])), (lc, .inl (cI, 36, .inl cs)), (lt, .inl (cI, 36, .inl ts))] := hD
          refine lv_aload_n hx hb dX6_put_52 rfl (lv_at hl 1 rfl) ?_
          refine va_get (D := D) (ci := 3) (v := .ref lg) (C := RX6) (T := TX6) (N := 7) hx hb hts hinX6 hown hK hP 0 rfl rfl 0 (by decide) hfl12 (fun _ h9 => h9) rfl dX6_put_53 ?_
          refine lv_iload_n hx hb dX6_put_56 rfl (lv_at hl 2 rfl) ?_
          have hPc := hP.sub (ws' := [(lg, .inr (0, [.ref lc, .ref lt, .int (nI k)])), (lc, .inl (cI, 36, .inl cs)), (lt, .inl (cI, 36, .inl ts))]) [1, 2, 3] rfl
          have hDc := hD.sub (ws' := [(lg, .inr (0, [.ref lc, .ref lt, .int (nI k)])), (lc, .inl (cI, 36, .inl cs)), (lt, .inl (cI, 36, .inl ts))]) [1, 2, 3] (by decide) rfl
          have hFc := va_free (wc := [(lg, .inr (0, [.ref lc, .ref lt, .int (nI k)])), (lc, .inl (cI, 36, .inl cs)), (lt, .inl (cI, 36, .inl ts))]) hD hS hA [1, 2, 3] rfl
          refine va_callv (va_runV (As := [.int v]) (rest := []) ⟨hx, hb, hml, hown, hts⟩ (c_X2_addMarble l D cI cJ H.size  lg lc lt cs ts k (by omega) v (by omega)) (cwV 1 hts gX6_put_X2_addMarble rfl rfl rfl (by decide +kernel) ⟨Nat.le_of_ble_eq_true rfl, Nat.le_of_ble_eq_true rfl⟩) ⟨pv_blind, va_recv hK hPc (ci := 0) (q0 := 0) rfl rfl, fun U hU hW => ⟨rfl, by rw [hU], by rw [hU]; exact hPc, va_K.moved hW.alike hK, hDc.weaken (fun _ _ _ _ => trivial)⟩⟩ rfl rfl hl.1 rfl (lv_room (Nat.le_of_ble_eq_true rfl)) dX6_put_57 ⟨(Nat.le_of_ble_eq_true rfl), (Nat.le_of_ble_eq_true rfl)⟩) hS (fun q _ h => hFc q h) hFc (fun u t9 H1 locs hth hvm hw57 hB hz1 hk1 hS => ?_)
          try dsimp only at hw57
          obtain ⟨hP1, hK1, hD1⟩ := hB
          rw [hth] at hP1
          obtain ⟨hP, hD⟩ := va_join (wr := [(h0, .inr (3, [.ref lg, .ref fs, .ref ps, .long fa, .long x48, .int mt, .int re]))]) (w1 := [(lg, .inr (0, [.ref lc, .ref lt, .int (nI (k + 1))])), (lc, .inl (cI, 36, .inl (upd cs k v))), (lt, .inl (cI, 36, .inl (upd ts k (-1))))]) hP hD [1, 2, 3] [0] rfl rfl (by decide) (by decide) hk1 hFc hP1 hD1
          generalize H1 = H at hP hS ⊢
          have hP : va_P D vwCl [(h0, .inr (3, [.ref lg, .ref fs, .ref ps, .long fa, .long x48, .int mt, .int re])), (lg, .inr (0, [.ref lc, .ref lt, .int (nI (k + 1))])), (lc, .inl (cI, 36, .inl (upd cs k v))), (lt, .inl (cI, 36, .inl (upd ts k (-1))))] H := hP.sub (ws' := [(h0, .inr (3, [.ref lg, .ref fs, .ref ps, .long fa, .long x48, .int mt, .int re])), (lg, .inr (0, [.ref lc, .ref lt, .int (nI (k + 1))])), (lc, .inl (cI, 36, .inl (upd cs k v))), (lt, .inl (cI, 36, .inl (upd ts k (-1))))]) [0, 1, 2, 3] rfl
          have hD : va_D A [(h0, .inr (3, [.ref lg, .ref fs, .ref ps, .long fa, .long x48, .int mt, .int re])), (lg, .inr (0, [.ref lc, .ref lt, .int (nI (k + 1))])), (lc, .inl (cI, 36, .inl (upd cs k v))), (lt, .inl (cI, 36, .inl (upd ts k (-1))))] := hD.sub (ws' := [(h0, .inr (3, [.ref lg, .ref fs, .ref ps, .long fa, .long x48, .int mt, .int re])), (lg, .inr (0, [.ref lc, .ref lt, .int (nI (k + 1))])), (lc, .inl (cI, 36, .inl (upd cs k v))), (lt, .inl (cI, 36, .inl (upd ts k (-1))))]) [0, 1, 2, 3] (by decide) rfl
          refine lv_aload_n hx hb dX6_put_60 rfl (lv_at hl 1 rfl) ?_
          refine lv_iload_n hx hb dX6_put_61 rfl (lv_at hl 0 rfl) ?_
          refine vp_callSl (W.runV (As := [.int (cside (pop (fa ||| fb)) mt)]) (rest := []) ⟨hx, hb, hml, hown, hts⟩ (c_X6_marblesOf l D cI cJ h0 lg fs ps fa x48 mt re (cside (pop (fa ||| fb)) mt)) (cwV 1 hts gX6_put_X6_marblesOf rfl rfl rfl (by decide +kernel) ⟨Nat.le_of_ble_eq_true rfl, Nat.le_of_ble_eq_true rfl⟩) ⟨px_blindW, va_recv hK hP (ci := 3) (q0 := 0) rfl rfl, fun U hU hW => ⟨rfl, by rw [hU]; exact hP.sub (ws' := [(h0, .inr (3, [.ref lg, .ref fs, .ref ps, .long fa, .long x48, .int mt, .int re]))]) [0] rfl, va_K.moved hW.alike hK⟩⟩ rfl rfl hl.1 rfl (lv_room (Nat.le_of_ble_eq_true rfl)) dX6_put_62 ⟨(Nat.le_of_ble_eq_true rfl), (Nat.le_of_ble_eq_true rfl)⟩) (fun r62 er62 => ?_)
          obtain rfl := er62.symm
          refine pk_tl (y := x48) (if_neg c20) ?_
          refine vp_callSi (W.runS (As := [.long x48]) (rest := []) ⟨hx, hb, hml, hown, hts⟩ (c_X1_hasLine l x48) (va_cwS 1 hts gX6_put_X1_hasLine rfl rfl rfl (by decide +kernel) ⟨Nat.le_of_ble_eq_true rfl, Nat.le_of_ble_eq_true rfl⟩) ⟨px_blind0, fun U hU hW => ⟨rfl, trivial⟩⟩ rfl rfl hl.1 rfl (lv_room (Nat.le_of_ble_eq_true rfl)) dX6_put_65 ⟨(Nat.le_of_ble_eq_true rfl), (Nat.le_of_ble_eq_true rfl)⟩) (fun r65 er65 => ?_)
          obtain rfl := er65.symm
          refine pk_b (P := cline x48 = true) (fun b65 => ?_) (fun b65 => ?_)
          · refine lv_if_eq (tgt := 79) hx hb dX6_put_68 (by decide) (fun c68 => ?_) (fun c68 => ?_)
            · exact absurd c68 (by decide)
            · refine lv_aload_n hx hb dX6_put_71 rfl (lv_at hl 1 rfl) ?_
              refine lv_iload_n hx hb dX6_put_72 rfl (lv_at hl 0 rfl) ?_
              refine va_put (D := D) (ci := 3) (v := .int (cside (pop (fa ||| fb)) mt)) (ty := .int) (C := RX6) (T := TX6) (N := 7) hx hb hts hinX6 tyX6 tyX6_ok nmX6 hown hK hP hD hS 0 rfl rfl 6 (by decide) hfl31 (fun _ h9 => h9) rfl (by decide +kernel) rfl rfl (Nat.le_of_ble_eq_true rfl) dX6_put_73 (fun H locs hP hD hS => ?_)
              have hP : va_P D vwCl [(h0, .inr (3, [.ref lg, .ref fs, .ref ps, .long fa, .long x48, .int mt, .int (cside (pop (fa ||| fb)) mt)])), (lg, .inr (0, [.ref lc, .ref lt, .int (nI (k + 1))])), (lc, .inl (cI, 36, .inl (upd cs k v))), (lt, .inl (cI, 36, .inl (upd ts k (-1))))] H := hP
              have hD : va_D A [(h0, .inr (3, [.ref lg, .ref fs, .ref ps, .long fa, .long x48, .int mt, .int (cside (pop (fa ||| fb)) mt)])), (lg, .inr (0, [.ref lc, .ref lt, .int (nI (k + 1))])), (lc, .inl (cI, 36, .inl (upd cs k v))), (lt, .inl (cI, 36, .inl (upd ts k (-1))))] := hD
              refine lv_goto (tgt := 84) hx hb dX6_put_76 (by decide) ?_
              refine lv_aload_n hx hb dX6_put_84 rfl (lv_at hl 1 rfl) ?_
              refine va_get (D := D) (ci := 3) (v := .int (cside (pop (fa ||| fb)) mt)) (C := RX6) (T := TX6) (N := 7) hx hb hts hinX6 hown hK hP 0 rfl rfl 6 (by decide) hfl31 (fun _ h9 => h9) rfl dX6_put_85 ?_
              refine vx_ret ?_
              refine W.widen (k := 3) (n := 18) (Nat.le_of_ble_eq_true rfl) (Nat.le_of_ble_eq_true rfl) ?_
              obtain rfl := ex48.symm
              have hre := hw5.1
              have hmt := hw5.2
              refine W.iret (v := (cside (pop (fa ||| fb)) mt)) hx hb hr (fun tt ht hW => ⟨⟨(cside (pop (fa ||| fb)) mt), (fa, (fb ||| (jshl 1 v)), mt, (cside (pop (fa ||| fb)) mt)), rfl, ?_, by rw [ht]; exact hP, va_K.moved hW.alike hK, hD⟩, hS.F ht⟩) hS.2.2 dX6_put_88
              first | exact ⟨hw1, hre, hmt, hw10, rfl, Or.inl ⟨rfl, rfl, c20, it_t b65 ⟨hmt, c20⟩⟩⟩ | exact ⟨hw1, hre, hmt, hw10, rfl, Or.inl ⟨rfl, rfl, c20, it_f b65 ⟨rfl, hre⟩⟩⟩ | exact ⟨hw1, hre, hmt, hw10, rfl, Or.inr ⟨rfl, rfl, c20, it_t b65 ⟨hmt, rfl⟩⟩⟩ | exact ⟨hw1, hre, hmt, hw10, rfl, Or.inr ⟨rfl, rfl, c20, it_f b65 ⟨rfl, hre⟩⟩⟩
          · refine lv_if_eq (tgt := 79) hx hb dX6_put_68 (by decide) (fun c68 => ?_) (fun c68 => ?_)
            · refine lv_aload_n hx hb dX6_put_79 rfl (lv_at hl 1 rfl) ?_
              refine lv_iconst (v := 1) hx hb dX6_put_80 (by decide) ?_
              refine va_put (D := D) (ci := 3) (v := .int 1) (ty := .boolean) (C := RX6) (T := TX6) (N := 7) hx hb hts hinX6 tyX6 tyX6_ok nmX6 hown hK hP hD hS 0 rfl rfl 5 (by decide) hfl72 (fun _ h9 => h9) rfl (by decide +kernel) rfl rfl (Nat.le_of_ble_eq_true rfl) dX6_put_81 (fun H locs hP hD hS => ?_)
              have hP : va_P D vwCl [(h0, .inr (3, [.ref lg, .ref fs, .ref ps, .long fa, .long x48, .int 1, .int re])), (lg, .inr (0, [.ref lc, .ref lt, .int (nI (k + 1))])), (lc, .inl (cI, 36, .inl (upd cs k v))), (lt, .inl (cI, 36, .inl (upd ts k (-1))))] H := hP
              have hD : va_D A [(h0, .inr (3, [.ref lg, .ref fs, .ref ps, .long fa, .long x48, .int 1, .int re])), (lg, .inr (0, [.ref lc, .ref lt, .int (nI (k + 1))])), (lc, .inl (cI, 36, .inl (upd cs k v))), (lt, .inl (cI, 36, .inl (upd ts k (-1))))] := hD
              refine lv_aload_n hx hb dX6_put_84 rfl (lv_at hl 1 rfl) ?_
              refine va_get (D := D) (ci := 3) (v := .int re) (C := RX6) (T := TX6) (N := 7) hx hb hts hinX6 hown hK hP 0 rfl rfl 6 (by decide) hfl31 (fun _ h9 => h9) rfl dX6_put_85 ?_
              refine vx_ret ?_
              refine W.widen (k := 3) (n := 18) (Nat.le_of_ble_eq_true rfl) (Nat.le_of_ble_eq_true rfl) ?_
              obtain rfl := ex48.symm
              have hre := hw5.1
              have hmt := hw5.2
              refine W.iret (v := re) hx hb hr (fun tt ht hW => ⟨⟨re, (fa, (fb ||| (jshl 1 v)), 1, re), rfl, ?_, by rw [ht]; exact hP, va_K.moved hW.alike hK, hD⟩, hS.F ht⟩) hS.2.2 dX6_put_88
              first | exact ⟨hw1, hre, hmt, hw10, rfl, Or.inl ⟨rfl, rfl, c20, it_t b65 ⟨hmt, c20⟩⟩⟩ | exact ⟨hw1, hre, hmt, hw10, rfl, Or.inl ⟨rfl, rfl, c20, it_f b65 ⟨rfl, hre⟩⟩⟩ | exact ⟨hw1, hre, hmt, hw10, rfl, Or.inr ⟨rfl, rfl, c20, it_t b65 ⟨hmt, rfl⟩⟩⟩ | exact ⟨hw1, hre, hmt, hw10, rfl, Or.inr ⟨rfl, rfl, c20, it_f b65 ⟨rfl, hre⟩⟩⟩
            · exact absurd c68 (by decide)
        · refine lv_aload_n hx hb dX6_put_23 rfl (lv_at hl 1 rfl) ?_
          refine lv_dup hx hb dX6_put_24 rfl ?_
          refine va_get (D := D) (ci := 3) (v := .long fa) (C := RX6) (T := TX6) (N := 7) hx hb hts hinX6 hown hK hP 0 rfl rfl 3 (by decide) hfl49 (fun _ h9 => h9) rfl dX6_put_25 ?_
          refine lv_iload_n hx hb dX6_put_28 rfl (lv_at hl 2 rfl) ?_
          refine vp_callSl (W.runS (As := [.int v]) (rest := [.long fa, .ref h0]) ⟨hx, hb, hml, hown, hts⟩ (c_X6_bitOf l v) (va_cwS 1 hts gX6_put_X6_bitOf rfl rfl rfl (by decide +kernel) ⟨Nat.le_of_ble_eq_true rfl, Nat.le_of_ble_eq_true rfl⟩) ⟨px_blind0, fun U hU hW => ⟨rfl, trivial⟩⟩ rfl rfl hl.1 rfl (lv_room (Nat.le_of_ble_eq_true rfl)) dX6_put_29 ⟨(Nat.le_of_ble_eq_true rfl), (Nat.le_of_ble_eq_true rfl)⟩) (fun r29 er29 => ?_)
          obtain rfl := er29.symm
          refine lv_lor hx hb dX6_put_32 ?_
          refine lv_topl (fun x32 ex32 => ?_)
          refine va_put (D := D) (ci := 3) (v := .long x32) (ty := .long) (C := RX6) (T := TX6) (N := 7) hx hb hts hinX6 tyX6 tyX6_ok nmX6 hown hK hP hD hS 0 rfl rfl 3 (by decide) hfl49 (fun _ h9 => h9) rfl (by decide +kernel) rfl rfl (Nat.le_of_ble_eq_true rfl) dX6_put_33 (fun H locs hP hD hS => ?_)
          have hP : va_P D vwCl [(h0, .inr (3, [.ref lg, .ref fs, .ref ps, .long x32, .long fb, .int mt, .int re])), (lg, .inr (0, [.ref lc, .ref lt, .int (nI k)])), (lc, .inl (cI, 36, .inl cs)), (lt, .inl (cI, 36, .inl ts))] H := hP
          have hD : va_D A [(h0, .inr (3, [.ref lg, .ref fs, .ref ps, .long x32, .long fb, .int mt, .int re])), (lg, .inr (0, [.ref lc, .ref lt, .int (nI k)])), (lc, .inl (cI, 36, .inl cs)), (lt, .inl (cI, 36, .inl ts))] := hD
          refine lv_goto (tgt := 52) hx hb dX6_put_36 (by decide) ?_
          refine lv_aload_n hx hb dX6_put_52 rfl (lv_at hl 1 rfl) ?_
          refine va_get (D := D) (ci := 3) (v := .ref lg) (C := RX6) (T := TX6) (N := 7) hx hb hts hinX6 hown hK hP 0 rfl rfl 0 (by decide) hfl12 (fun _ h9 => h9) rfl dX6_put_53 ?_
          refine lv_iload_n hx hb dX6_put_56 rfl (lv_at hl 2 rfl) ?_
          have hPc := hP.sub (ws' := [(lg, .inr (0, [.ref lc, .ref lt, .int (nI k)])), (lc, .inl (cI, 36, .inl cs)), (lt, .inl (cI, 36, .inl ts))]) [1, 2, 3] rfl
          have hDc := hD.sub (ws' := [(lg, .inr (0, [.ref lc, .ref lt, .int (nI k)])), (lc, .inl (cI, 36, .inl cs)), (lt, .inl (cI, 36, .inl ts))]) [1, 2, 3] (by decide) rfl
          have hFc := va_free (wc := [(lg, .inr (0, [.ref lc, .ref lt, .int (nI k)])), (lc, .inl (cI, 36, .inl cs)), (lt, .inl (cI, 36, .inl ts))]) hD hS hA [1, 2, 3] rfl
          refine va_callv (va_runV (As := [.int v]) (rest := []) ⟨hx, hb, hml, hown, hts⟩ (c_X2_addMarble l D cI cJ H.size  lg lc lt cs ts k (by omega) v (by omega)) (cwV 1 hts gX6_put_X2_addMarble rfl rfl rfl (by decide +kernel) ⟨Nat.le_of_ble_eq_true rfl, Nat.le_of_ble_eq_true rfl⟩) ⟨pv_blind, va_recv hK hPc (ci := 0) (q0 := 0) rfl rfl, fun U hU hW => ⟨rfl, by rw [hU], by rw [hU]; exact hPc, va_K.moved hW.alike hK, hDc.weaken (fun _ _ _ _ => trivial)⟩⟩ rfl rfl hl.1 rfl (lv_room (Nat.le_of_ble_eq_true rfl)) dX6_put_57 ⟨(Nat.le_of_ble_eq_true rfl), (Nat.le_of_ble_eq_true rfl)⟩) hS (fun q _ h => hFc q h) hFc (fun u t9 H1 locs hth hvm hw57 hB hz1 hk1 hS => ?_)
          try dsimp only at hw57
          obtain ⟨hP1, hK1, hD1⟩ := hB
          rw [hth] at hP1
          obtain ⟨hP, hD⟩ := va_join (wr := [(h0, .inr (3, [.ref lg, .ref fs, .ref ps, .long x32, .long fb, .int mt, .int re]))]) (w1 := [(lg, .inr (0, [.ref lc, .ref lt, .int (nI (k + 1))])), (lc, .inl (cI, 36, .inl (upd cs k v))), (lt, .inl (cI, 36, .inl (upd ts k (-1))))]) hP hD [1, 2, 3] [0] rfl rfl (by decide) (by decide) hk1 hFc hP1 hD1
          generalize H1 = H at hP hS ⊢
          have hP : va_P D vwCl [(h0, .inr (3, [.ref lg, .ref fs, .ref ps, .long x32, .long fb, .int mt, .int re])), (lg, .inr (0, [.ref lc, .ref lt, .int (nI (k + 1))])), (lc, .inl (cI, 36, .inl (upd cs k v))), (lt, .inl (cI, 36, .inl (upd ts k (-1))))] H := hP.sub (ws' := [(h0, .inr (3, [.ref lg, .ref fs, .ref ps, .long x32, .long fb, .int mt, .int re])), (lg, .inr (0, [.ref lc, .ref lt, .int (nI (k + 1))])), (lc, .inl (cI, 36, .inl (upd cs k v))), (lt, .inl (cI, 36, .inl (upd ts k (-1))))]) [0, 1, 2, 3] rfl
          have hD : va_D A [(h0, .inr (3, [.ref lg, .ref fs, .ref ps, .long x32, .long fb, .int mt, .int re])), (lg, .inr (0, [.ref lc, .ref lt, .int (nI (k + 1))])), (lc, .inl (cI, 36, .inl (upd cs k v))), (lt, .inl (cI, 36, .inl (upd ts k (-1))))] := hD.sub (ws' := [(h0, .inr (3, [.ref lg, .ref fs, .ref ps, .long x32, .long fb, .int mt, .int re])), (lg, .inr (0, [.ref lc, .ref lt, .int (nI (k + 1))])), (lc, .inl (cI, 36, .inl (upd cs k v))), (lt, .inl (cI, 36, .inl (upd ts k (-1))))]) [0, 1, 2, 3] (by decide) rfl
          refine lv_aload_n hx hb dX6_put_60 rfl (lv_at hl 1 rfl) ?_
          refine lv_iload_n hx hb dX6_put_61 rfl (lv_at hl 0 rfl) ?_
          refine vp_callSl (W.runV (As := [.int (cside (pop (fa ||| fb)) mt)]) (rest := []) ⟨hx, hb, hml, hown, hts⟩ (c_X6_marblesOf l D cI cJ h0 lg fs ps x32 fb mt re (cside (pop (fa ||| fb)) mt)) (cwV 1 hts gX6_put_X6_marblesOf rfl rfl rfl (by decide +kernel) ⟨Nat.le_of_ble_eq_true rfl, Nat.le_of_ble_eq_true rfl⟩) ⟨px_blindW, va_recv hK hP (ci := 3) (q0 := 0) rfl rfl, fun U hU hW => ⟨rfl, by rw [hU]; exact hP.sub (ws' := [(h0, .inr (3, [.ref lg, .ref fs, .ref ps, .long x32, .long fb, .int mt, .int re]))]) [0] rfl, va_K.moved hW.alike hK⟩⟩ rfl rfl hl.1 rfl (lv_room (Nat.le_of_ble_eq_true rfl)) dX6_put_62 ⟨(Nat.le_of_ble_eq_true rfl), (Nat.le_of_ble_eq_true rfl)⟩) (fun r62 er62 => ?_)
          obtain rfl := er62.symm
          refine pk_tl (y := x32) (if_pos c20) ?_
          refine vp_callSi (W.runS (As := [.long x32]) (rest := []) ⟨hx, hb, hml, hown, hts⟩ (c_X1_hasLine l x32) (va_cwS 1 hts gX6_put_X1_hasLine rfl rfl rfl (by decide +kernel) ⟨Nat.le_of_ble_eq_true rfl, Nat.le_of_ble_eq_true rfl⟩) ⟨px_blind0, fun U hU hW => ⟨rfl, trivial⟩⟩ rfl rfl hl.1 rfl (lv_room (Nat.le_of_ble_eq_true rfl)) dX6_put_65 ⟨(Nat.le_of_ble_eq_true rfl), (Nat.le_of_ble_eq_true rfl)⟩) (fun r65 er65 => ?_)
          obtain rfl := er65.symm
          refine pk_b (P := cline x32 = true) (fun b65 => ?_) (fun b65 => ?_)
          · refine lv_if_eq (tgt := 79) hx hb dX6_put_68 (by decide) (fun c68 => ?_) (fun c68 => ?_)
            · exact absurd c68 (by decide)
            · refine lv_aload_n hx hb dX6_put_71 rfl (lv_at hl 1 rfl) ?_
              refine lv_iload_n hx hb dX6_put_72 rfl (lv_at hl 0 rfl) ?_
              refine va_put (D := D) (ci := 3) (v := .int (cside (pop (fa ||| fb)) mt)) (ty := .int) (C := RX6) (T := TX6) (N := 7) hx hb hts hinX6 tyX6 tyX6_ok nmX6 hown hK hP hD hS 0 rfl rfl 6 (by decide) hfl31 (fun _ h9 => h9) rfl (by decide +kernel) rfl rfl (Nat.le_of_ble_eq_true rfl) dX6_put_73 (fun H locs hP hD hS => ?_)
              have hP : va_P D vwCl [(h0, .inr (3, [.ref lg, .ref fs, .ref ps, .long x32, .long fb, .int mt, .int (cside (pop (fa ||| fb)) mt)])), (lg, .inr (0, [.ref lc, .ref lt, .int (nI (k + 1))])), (lc, .inl (cI, 36, .inl (upd cs k v))), (lt, .inl (cI, 36, .inl (upd ts k (-1))))] H := hP
              have hD : va_D A [(h0, .inr (3, [.ref lg, .ref fs, .ref ps, .long x32, .long fb, .int mt, .int (cside (pop (fa ||| fb)) mt)])), (lg, .inr (0, [.ref lc, .ref lt, .int (nI (k + 1))])), (lc, .inl (cI, 36, .inl (upd cs k v))), (lt, .inl (cI, 36, .inl (upd ts k (-1))))] := hD
              refine lv_goto (tgt := 84) hx hb dX6_put_76 (by decide) ?_
              refine lv_aload_n hx hb dX6_put_84 rfl (lv_at hl 1 rfl) ?_
              refine va_get (D := D) (ci := 3) (v := .int (cside (pop (fa ||| fb)) mt)) (C := RX6) (T := TX6) (N := 7) hx hb hts hinX6 hown hK hP 0 rfl rfl 6 (by decide) hfl31 (fun _ h9 => h9) rfl dX6_put_85 ?_
              refine vx_ret ?_
              refine W.widen (k := 3) (n := 18) (Nat.le_of_ble_eq_true rfl) (Nat.le_of_ble_eq_true rfl) ?_
              obtain rfl := ex32.symm
              have hre := hw5.1
              have hmt := hw5.2
              refine W.iret (v := (cside (pop (fa ||| fb)) mt)) hx hb hr (fun tt ht hW => ⟨⟨(cside (pop (fa ||| fb)) mt), ((fa ||| (jshl 1 v)), fb, mt, (cside (pop (fa ||| fb)) mt)), rfl, ?_, by rw [ht]; exact hP, va_K.moved hW.alike hK, hD⟩, hS.F ht⟩) hS.2.2 dX6_put_88
              first | exact ⟨hw1, hre, hmt, hw10, rfl, Or.inl ⟨rfl, rfl, c20, it_t b65 ⟨hmt, c20⟩⟩⟩ | exact ⟨hw1, hre, hmt, hw10, rfl, Or.inl ⟨rfl, rfl, c20, it_f b65 ⟨rfl, hre⟩⟩⟩ | exact ⟨hw1, hre, hmt, hw10, rfl, Or.inr ⟨rfl, rfl, c20, it_t b65 ⟨hmt, rfl⟩⟩⟩ | exact ⟨hw1, hre, hmt, hw10, rfl, Or.inr ⟨rfl, rfl, c20, it_f b65 ⟨rfl, hre⟩⟩⟩
          · refine lv_if_eq (tgt := 79) hx hb dX6_put_68 (by decide) (fun c68 => ?_) (fun c68 => ?_)
            · refine lv_aload_n hx hb dX6_put_79 rfl (lv_at hl 1 rfl) ?_
              refine lv_iconst (v := 1) hx hb dX6_put_80 (by decide) ?_
              refine va_put (D := D) (ci := 3) (v := .int 1) (ty := .boolean) (C := RX6) (T := TX6) (N := 7) hx hb hts hinX6 tyX6 tyX6_ok nmX6 hown hK hP hD hS 0 rfl rfl 5 (by decide) hfl72 (fun _ h9 => h9) rfl (by decide +kernel) rfl rfl (Nat.le_of_ble_eq_true rfl) dX6_put_81 (fun H locs hP hD hS => ?_)
              have hP : va_P D vwCl [(h0, .inr (3, [.ref lg, .ref fs, .ref ps, .long x32, .long fb, .int 1, .int re])), (lg, .inr (0, [.ref lc, .ref lt, .int (nI (k + 1))])), (lc, .inl (cI, 36, .inl (upd cs k v))), (lt, .inl (cI, 36, .inl (upd ts k (-1))))] H := hP
              have hD : va_D A [(h0, .inr (3, [.ref lg, .ref fs, .ref ps, .long x32, .long fb, .int 1, .int re])), (lg, .inr (0, [.ref lc, .ref lt, .int (nI (k + 1))])), (lc, .inl (cI, 36, .inl (upd cs k v))), (lt, .inl (cI, 36, .inl (upd ts k (-1))))] := hD
              refine lv_aload_n hx hb dX6_put_84 rfl (lv_at hl 1 rfl) ?_
              refine va_get (D := D) (ci := 3) (v := .int re) (C := RX6) (T := TX6) (N := 7) hx hb hts hinX6 hown hK hP 0 rfl rfl 6 (by decide) hfl31 (fun _ h9 => h9) rfl dX6_put_85 ?_
              refine vx_ret ?_
              refine W.widen (k := 3) (n := 18) (Nat.le_of_ble_eq_true rfl) (Nat.le_of_ble_eq_true rfl) ?_
              obtain rfl := ex32.symm
              have hre := hw5.1
              have hmt := hw5.2
              refine W.iret (v := re) hx hb hr (fun tt ht hW => ⟨⟨re, ((fa ||| (jshl 1 v)), fb, 1, re), rfl, ?_, by rw [ht]; exact hP, va_K.moved hW.alike hK, hD⟩, hS.F ht⟩) hS.2.2 dX6_put_88
              first | exact ⟨hw1, hre, hmt, hw10, rfl, Or.inl ⟨rfl, rfl, c20, it_t b65 ⟨hmt, c20⟩⟩⟩ | exact ⟨hw1, hre, hmt, hw10, rfl, Or.inl ⟨rfl, rfl, c20, it_f b65 ⟨rfl, hre⟩⟩⟩ | exact ⟨hw1, hre, hmt, hw10, rfl, Or.inr ⟨rfl, rfl, c20, it_t b65 ⟨hmt, rfl⟩⟩⟩ | exact ⟨hw1, hre, hmt, hw10, rfl, Or.inr ⟨rfl, rfl, c20, it_f b65 ⟨rfl, hre⟩⟩⟩
            · exact absurd c68 (by decide)

set_option maxHeartbeats 400000 in
set_option maxRecDepth 100000 in
theorem c_X6_turn (l : Launch) (hltr : l.stackTraces = false) (D : va_G) (cI cJ : ClassId) (sz : Nat) (h0 lg lc lt fs ps : Nat) (fa fb : Int64) (mt re : Int32) (cs ts : Nat → Int32) (k : Nat) (hk : k ≤ 36) (q y : Int32) (hm : mt = 0 ∨ 0 < k) : vx_Met l yX6_turn wsX6_turn ({ frames := 7, cells := 3, slots := 18, locals := 110 } : Room) (va_Pc [.ref h0, .int q, .int y] (px_X (va_A [(h0, .inr (3, [.ref lg, .ref fs, .ref ps, .long fa, .long fb, .int mt, .int re])), (lg, .inr (0, [.ref lc, .ref lt, .int (nI k)])), (lc, .inl (cI, 36, .inl cs)), (lt, .inl (cI, 36, .inl ts))] sz) (pv_C D cI cJ [(h0, .inr (3, [.ref lg, .ref fs, .ref ps, .long fa, .long fb, .int mt, .int re])), (lg, .inr (0, [.ref lc, .ref lt, .int (nI k)])), (lc, .inl (cI, 36, .inl cs)), (lt, .inl (cI, 36, .inl ts))] sz))) (va_Qi (fun (r : Int32) (u : (Nat)) => ∃ q9 y9, q9 < 4 ∧ y9 < 2 ∧ q = nI q9 ∧ y = nI y9 ∧ u = 2 * q9 + y9 ∧ re = 0 ∧ (¬ mt = 0) ∧ r = cjudge (cturned fa u) (cturned fb u)) (fun (u : (Nat)) => pv_B D cI cJ (va_A [(h0, .inr (3, [.ref lg, .ref fs, .ref ps, .long fa, .long fb, .int mt, .int re])), (lg, .inr (0, [.ref lc, .ref lt, .int (nI k)])), (lc, .inl (cI, 36, .inl cs)), (lt, .inl (cI, 36, .inl ts))] sz) [(h0, .inr (3, [.ref lg, .ref fs, .ref ps, .long (cturned fa u), .long (cturned fb u), .int 0, .int (cjudge (cturned fa u) (cturned fb u))])), (lg, .inr (0, [.ref lc, .ref lt, .int (nI k)])), (lc, .inl (cI, 36, .inl cs)), (lt, .inl (cI, 36, .inl (upd ts (k - 1) (nI u))))]) (va_A [(h0, .inr (3, [.ref lg, .ref fs, .ref ps, .long fa, .long fb, .int mt, .int re])), (lg, .inr (0, [.ref lc, .ref lt, .int (nI k)])), (lc, .inl (cI, 36, .inl cs)), (lt, .inl (cI, 36, .inl ts))] sz)) (vx_X (fun (_ : Unit) => True) (fun (E : String) (_ : Unit) (tt : State) => ((E = nIOB ∧ ¬ iq q) ∨ (E = nIAE ∧ iq q ∧ ¬ iw y) ∨ (E = nISE ∧ iq q ∧ iw y ∧ ¬ (re = 0 ∧ ¬ mt = 0))) ∧ pv_B D cI cJ (va_A [(h0, .inr (3, [.ref lg, .ref fs, .ref ps, .long fa, .long fb, .int mt, .int re])), (lg, .inr (0, [.ref lc, .ref lt, .int (nI k)])), (lc, .inl (cI, 36, .inl cs)), (lt, .inl (cI, 36, .inl ts))] sz) [(h0, .inr (3, [.ref lg, .ref fs, .ref ps, .long fa, .long fb, .int mt, .int re])), (lg, .inr (0, [.ref lc, .ref lt, .int (nI k)])), (lc, .inl (cI, 36, .inl cs)), (lt, .inl (cI, 36, .inl ts))] tt) (va_A [(h0, .inr (3, [.ref lg, .ref fs, .ref ps, .long fa, .long fb, .int mt, .int re])), (lg, .inr (0, [.ref lc, .ref lt, .int (nI k)])), (lc, .inl (cI, 36, .inl cs)), (lt, .inl (cI, 36, .inl ts))] sz)) 3 18 (va_A [(h0, .inr (3, [.ref lg, .ref fs, .ref ps, .long fa, .long fb, .int mt, .int re])), (lg, .inr (0, [.ref lc, .ref lt, .int (nI k)])), (lc, .inl (cI, 36, .inl cs)), (lt, .inl (cI, 36, .inl ts))] sz) := by
  refine vx_ofW (cc := cX6_turn) (maxL := 4) (ret := (some .int)) (by decide) rfl ?_
  intro p e s m args below meth c s₁ B hml htab hv
  obtain ⟨rfl, hEX, hZ, rfl, hP, hK, hD0⟩ := hv
  have hx := B.exec
  have hb := B.bytes
  have hr := B.returns
  have hts := atoms_spec (ws := wsX6_turn) B.pre
  have hown : s.vm.findClass RX6 = some m.cls := findClass_of_methodNamed B.named
  have hlocks := B.notSynchronized
  have hD := hD0.self (sz := s.heap.size)
  generalize hAe : va_A [(h0, .inr (3, [.ref lg, .ref fs, .ref ps, .long fa, .long fb, .int mt, .int re])), (lg, .inr (0, [.ref lc, .ref lt, .int (nI k)])), (lc, .inl (cI, 36, .inl cs)), (lt, .inl (cI, 36, .inl ts))] s.heap.size = A at hD hZ ⊢
  have hA : ∀ q : Nat, s.heap.size ≤ q → A q := fun q h => by rw [← hAe]; exact Or.inr h
  have hS : va_S A s.heap s.heap [] := va_S.rf
  have hinX6 : ∀ w ∈ wsX60, w ∈ wsX6_turn := by decide +kernel
  have hfl31 : (Cond.fieldLink RX6 31 "Twistquad" "result" "I").before ([.ref h0, .int q, .int y] : List Value).toArray s = true := hts _ (by decide +kernel)
  have hfl72 : (Cond.fieldLink RX6 72 "Twistquad" "mustTurn" "Z").before ([.ref h0, .int q, .int y] : List Value).toArray s = true := hts _ (by decide +kernel)
  have hfl12 : (Cond.fieldLink RX6 12 "Twistquad" "log" "LTwistquad$MoveLog;").before ([.ref h0, .int q, .int y] : List Value).toArray s = true := hts _ (by decide +kernel)
  have hl := lv_entry ([.ref h0, .int q, .int y]) (n := 4) (Nat.le_of_ble_eq_true rfl)
  rw [lg_entry_eq]
  generalize (lg_sl ([.ref h0, .int q, .int y]) ++ List.replicate (4 - (lg_sl ([.ref h0, .int q, .int y])).length) Slot.unset).toArray = ls at hl ⊢
  have hl : lv_has ls 4 [(0, .ref h0), (1, .int q), (2, .int y)] := hl
  refine lv_iload_n hx hb dX6_turn_0 rfl (lv_at hl 1 rfl) ?_
  have hPc : va_P D vwCl [] s.heap := hP.sub (ws' := []) [] rfl
  have hDc : va_D A [] := hD.sub (ws' := []) [] (by decide) rfl
  have hFc := va_free (wc := []) hD hS hA [] rfl
  refine vx_callv (vx_runS (As := [.int q]) (rest := []) ⟨hx, hb, hml, hown, hts⟩ (c_X6_requireQuarter l hltr D cI cJ s.heap.size q) (va_cwS 1 hts gX6_turn_X6_requireQuarter rfl rfl rfl (by decide +kernel) ⟨Nat.le_of_ble_eq_true rfl, Nat.le_of_ble_eq_true rfl⟩) ⟨(px_blindX pv_blind), fun U hU hW => ⟨rfl, hEX.warm hW, by rw [hU]; exact hZ.to hS hW.alike hFc, by rw [hU], by rw [hU]; exact hPc, va_K.moved hW.alike hK, hDc.weaken (fun _ _ _ _ => trivial)⟩⟩ rfl rfl hl.1 rfl (lv_room (Nat.le_of_ble_eq_true rfl)) dX6_turn_1 ⟨(Nat.le_of_ble_eq_true rfl), (Nat.le_of_ble_eq_true rfl)⟩) hS (fun q _ h => hFc q h) hFc (fun q _ h => hFc q h) (fun E ce q9 u9 t9 H1 locs hth hvm hpx hB9 hz1 hk1 hS hce hcv hcl => ?_) (fun u t9 H1 locs hth hvm hw1 hB9 hz1 hk1 hS => ?_)
  · obtain ⟨hb9, hP1, hK1, hD1⟩ := hB9
    rw [hth] at hP1
    obtain ⟨hP, hD⟩ := va_join (wr := [(h0, .inr (3, [.ref lg, .ref fs, .ref ps, .long fa, .long fb, .int mt, .int re])), (lg, .inr (0, [.ref lc, .ref lt, .int (nI k)])), (lc, .inl (cI, 36, .inl cs)), (lt, .inl (cI, 36, .inl ts))]) (w1 := []) hP hD [] [0, 1, 2, 3] rfl rfl (by decide) (by decide) hk1 hFc hP1 hD1
    have hP : va_P D vwCl [(h0, .inr (3, [.ref lg, .ref fs, .ref ps, .long fa, .long fb, .int mt, .int re])), (lg, .inr (0, [.ref lc, .ref lt, .int (nI k)])), (lc, .inl (cI, 36, .inl cs)), (lt, .inl (cI, 36, .inl ts))] H1 := hP.sub (ws' := [(h0, .inr (3, [.ref lg, .ref fs, .ref ps, .long fa, .long fb, .int mt, .int re])), (lg, .inr (0, [.ref lc, .ref lt, .int (nI k)])), (lc, .inl (cI, 36, .inl cs)), (lt, .inl (cI, 36, .inl ts))]) [0, 1, 2, 3] rfl
    have hD : va_D A [(h0, .inr (3, [.ref lg, .ref fs, .ref ps, .long fa, .long fb, .int mt, .int re])), (lg, .inr (0, [.ref lc, .ref lt, .int (nI k)])), (lc, .inl (cI, 36, .inl cs)), (lt, .inl (cI, 36, .inl ts))] := hD.sub (ws' := [(h0, .inr (3, [.ref lg, .ref fs, .ref ps, .long fa, .long fb, .int mt, .int re])), (lg, .inr (0, [.ref lc, .ref lt, .int (nI k)])), (lc, .inl (cI, 36, .inl cs)), (lt, .inl (cI, 36, .inl ts))]) [0, 1, 2, 3] (by decide) rfl
    exact vx_out (fun x h => (htab x h).elim) hlocks hce hcv hcl (fun tt htt hvt => ⟨(), trivial, ⟨Or.inl hb9, by rw [htt]; exact hP, va_K.moved hvt hK, hD⟩, hS.F htt⟩) hS.2.2 (Nat.le_of_ble_eq_true rfl) (Nat.le_of_ble_eq_true rfl)
  · try dsimp only at hw1
    obtain ⟨hP1, hK1, hD1⟩ := hB9
    rw [hth] at hP1
    obtain ⟨hP, hD⟩ := va_join (wr := [(h0, .inr (3, [.ref lg, .ref fs, .ref ps, .long fa, .long fb, .int mt, .int re])), (lg, .inr (0, [.ref lc, .ref lt, .int (nI k)])), (lc, .inl (cI, 36, .inl cs)), (lt, .inl (cI, 36, .inl ts))]) (w1 := []) hP hD [] [0, 1, 2, 3] rfl rfl (by decide) (by decide) hk1 hFc hP1 hD1
    generalize H1 = H at hP hS ⊢
    have hP : va_P D vwCl [(h0, .inr (3, [.ref lg, .ref fs, .ref ps, .long fa, .long fb, .int mt, .int re])), (lg, .inr (0, [.ref lc, .ref lt, .int (nI k)])), (lc, .inl (cI, 36, .inl cs)), (lt, .inl (cI, 36, .inl ts))] H := hP.sub (ws' := [(h0, .inr (3, [.ref lg, .ref fs, .ref ps, .long fa, .long fb, .int mt, .int re])), (lg, .inr (0, [.ref lc, .ref lt, .int (nI k)])), (lc, .inl (cI, 36, .inl cs)), (lt, .inl (cI, 36, .inl ts))]) [0, 1, 2, 3] rfl
    have hD : va_D A [(h0, .inr (3, [.ref lg, .ref fs, .ref ps, .long fa, .long fb, .int mt, .int re])), (lg, .inr (0, [.ref lc, .ref lt, .int (nI k)])), (lc, .inl (cI, 36, .inl cs)), (lt, .inl (cI, 36, .inl ts))] := hD.sub (ws' := [(h0, .inr (3, [.ref lg, .ref fs, .ref ps, .long fa, .long fb, .int mt, .int re])), (lg, .inr (0, [.ref lc, .ref lt, .int (nI k)])), (lc, .inl (cI, 36, .inl cs)), (lt, .inl (cI, 36, .inl ts))]) [0, 1, 2, 3] (by decide) rfl
    refine lv_iload_n hx hb dX6_turn_4 rfl (lv_at hl 2 rfl) ?_
    have hPc : va_P D vwCl [] H := hP.sub (ws' := []) [] rfl
    have hDc : va_D A [] := hD.sub (ws' := []) [] (by decide) rfl
    have hFc := va_free (wc := []) hD hS hA [] rfl
    refine vx_callv (vx_runS (As := [.int y]) (rest := []) ⟨hx, hb, hml, hown, hts⟩ (c_X6_requireWay l hltr D cI cJ H.size y) (va_cwS 1 hts gX6_turn_X6_requireWay rfl rfl rfl (by decide +kernel) ⟨Nat.le_of_ble_eq_true rfl, Nat.le_of_ble_eq_true rfl⟩) ⟨(px_blindX pv_blind), fun U hU hW => ⟨rfl, hEX.warm hW, by rw [hU]; exact hZ.to hS hW.alike hFc, by rw [hU], by rw [hU]; exact hPc, va_K.moved hW.alike hK, hDc.weaken (fun _ _ _ _ => trivial)⟩⟩ rfl rfl hl.1 rfl (lv_room (Nat.le_of_ble_eq_true rfl)) dX6_turn_5 ⟨(Nat.le_of_ble_eq_true rfl), (Nat.le_of_ble_eq_true rfl)⟩) hS (fun q _ h => hFc q h) hFc (fun q _ h => hFc q h) (fun E ce q9 u9 t9 H1 locs hth hvm hpx hB9 hz1 hk1 hS hce hcv hcl => ?_) (fun u t9 H1 locs hth hvm hw5 hB9 hz1 hk1 hS => ?_)
    · obtain ⟨hb9, hP1, hK1, hD1⟩ := hB9
      rw [hth] at hP1
      obtain ⟨hP, hD⟩ := va_join (wr := [(h0, .inr (3, [.ref lg, .ref fs, .ref ps, .long fa, .long fb, .int mt, .int re])), (lg, .inr (0, [.ref lc, .ref lt, .int (nI k)])), (lc, .inl (cI, 36, .inl cs)), (lt, .inl (cI, 36, .inl ts))]) (w1 := []) hP hD [] [0, 1, 2, 3] rfl rfl (by decide) (by decide) hk1 hFc hP1 hD1
      have hP : va_P D vwCl [(h0, .inr (3, [.ref lg, .ref fs, .ref ps, .long fa, .long fb, .int mt, .int re])), (lg, .inr (0, [.ref lc, .ref lt, .int (nI k)])), (lc, .inl (cI, 36, .inl cs)), (lt, .inl (cI, 36, .inl ts))] H1 := hP.sub (ws' := [(h0, .inr (3, [.ref lg, .ref fs, .ref ps, .long fa, .long fb, .int mt, .int re])), (lg, .inr (0, [.ref lc, .ref lt, .int (nI k)])), (lc, .inl (cI, 36, .inl cs)), (lt, .inl (cI, 36, .inl ts))]) [0, 1, 2, 3] rfl
      have hD : va_D A [(h0, .inr (3, [.ref lg, .ref fs, .ref ps, .long fa, .long fb, .int mt, .int re])), (lg, .inr (0, [.ref lc, .ref lt, .int (nI k)])), (lc, .inl (cI, 36, .inl cs)), (lt, .inl (cI, 36, .inl ts))] := hD.sub (ws' := [(h0, .inr (3, [.ref lg, .ref fs, .ref ps, .long fa, .long fb, .int mt, .int re])), (lg, .inr (0, [.ref lc, .ref lt, .int (nI k)])), (lc, .inl (cI, 36, .inl cs)), (lt, .inl (cI, 36, .inl ts))]) [0, 1, 2, 3] (by decide) rfl
      exact vx_out (fun x h => (htab x h).elim) hlocks hce hcv hcl (fun tt htt hvt => ⟨(), trivial, ⟨Or.inr (Or.inl ⟨hb9.1, hw1, hb9.2⟩), by rw [htt]; exact hP, va_K.moved hvt hK, hD⟩, hS.F htt⟩) hS.2.2 (Nat.le_of_ble_eq_true rfl) (Nat.le_of_ble_eq_true rfl)
    · try dsimp only at hw5
      obtain ⟨hP1, hK1, hD1⟩ := hB9
      rw [hth] at hP1
      obtain ⟨hP, hD⟩ := va_join (wr := [(h0, .inr (3, [.ref lg, .ref fs, .ref ps, .long fa, .long fb, .int mt, .int re])), (lg, .inr (0, [.ref lc, .ref lt, .int (nI k)])), (lc, .inl (cI, 36, .inl cs)), (lt, .inl (cI, 36, .inl ts))]) (w1 := []) hP hD [] [0, 1, 2, 3] rfl rfl (by decide) (by decide) hk1 hFc hP1 hD1
      generalize H1 = H at hP hS ⊢
      have hP : va_P D vwCl [(h0, .inr (3, [.ref lg, .ref fs, .ref ps, .long fa, .long fb, .int mt, .int re])), (lg, .inr (0, [.ref lc, .ref lt, .int (nI k)])), (lc, .inl (cI, 36, .inl cs)), (lt, .inl (cI, 36, .inl ts))] H := hP.sub (ws' := [(h0, .inr (3, [.ref lg, .ref fs, .ref ps, .long fa, .long fb, .int mt, .int re])), (lg, .inr (0, [.ref lc, .ref lt, .int (nI k)])), (lc, .inl (cI, 36, .inl cs)), (lt, .inl (cI, 36, .inl ts))]) [0, 1, 2, 3] rfl
      have hD : va_D A [(h0, .inr (3, [.ref lg, .ref fs, .ref ps, .long fa, .long fb, .int mt, .int re])), (lg, .inr (0, [.ref lc, .ref lt, .int (nI k)])), (lc, .inl (cI, 36, .inl cs)), (lt, .inl (cI, 36, .inl ts))] := hD.sub (ws' := [(h0, .inr (3, [.ref lg, .ref fs, .ref ps, .long fa, .long fb, .int mt, .int re])), (lg, .inr (0, [.ref lc, .ref lt, .int (nI k)])), (lc, .inl (cI, 36, .inl cs)), (lt, .inl (cI, 36, .inl ts))]) [0, 1, 2, 3] (by decide) rfl
      obtain ⟨q9, hq9, rfl⟩ := iq_nat hw1
      obtain ⟨y9, hy9, rfl⟩ := iw_nat hw5
      refine lv_aload_n hx hb dX6_turn_8 rfl (lv_at hl 0 rfl) ?_
      refine va_get (D := D) (ci := 3) (v := .int re) (C := RX6) (T := TX6) (N := 7) hx hb hts hinX6 hown hK hP 0 rfl rfl 6 (by decide) hfl31 (fun _ h9 => h9) rfl dX6_turn_9 ?_
      refine lv_if_ne (tgt := 22) hx hb dX6_turn_12 (by decide) (fun c12 => ?_) (fun c12 => ?_)
      · obtain ⟨sa, hstr⟩ := hEX.1 (84, "no quarter is to be turned") (by unfold xstrs; simp)
        have hmem9 : ∀ w ∈ (vx_atS RX6 86 nISE ["java/lang/RuntimeException", "java/lang/Exception"]).filter goodWord, w ∈ wsX6_turn := fun w h => by first | exact List.mem_cons_of_mem _ (List.mem_append_right _ h) | exact List.mem_cons_of_mem _ (List.mem_append_left _ (List.mem_append_right _ h)) | exact List.mem_cons_of_mem _ (List.mem_append_left _ (List.mem_append_left _ (List.mem_append_right _ h)))
        refine vx_throwS (own := RX6) (cls := nISE) (text := "no quarter is to be turned") (names := ["java/lang/RuntimeException", "java/lang/Exception"]) (ik := 82) (is := 84) (ic := 86) hx hb hltr hown (by decide +kernel) (by decide +kernel) (hts _ (by decide +kernel)) (hts _ (by decide +kernel)) hstr (vx_hat (fun w h => hts w (hmem9 w h)) vx_nong_ISE (vx_c (va_Nw.use rfl hEX.2.2.1) (vx_c (va_Nw.use rfl hEX.2.2.2.2.1) (vx_c (va_Nw.use rfl hEX.2.2.2.2.2.1) (vx_c (va_Nw.use rfl hEX.2.2.2.2.2.2) vx_n))))) vx_ot_ISE hZ.1 hZ.2 hS (hl.1.trans hml.symm) dX6_turn_22 dX6_turn_25 dX6_turn_26 dX6_turn_28 dX6_turn_31 (fun x h => (htab x h).elim) (by decide) (Nat.le_of_ble_eq_true rfl) (Nat.le_of_ble_eq_true rfl) (Nat.le_of_ble_eq_true rfl) hlocks (fun tt hvm hz hk => ⟨(), trivial, ⟨Or.inr (Or.inr ⟨rfl, hw1, hw5, fun h => by first | exact c12 h.1 | exact h.2 c19⟩), px_P hP hk, va_K.moved hvm hK, hD⟩, px_F hS hz hk⟩) hS.2.2 (Nat.le_of_ble_eq_true rfl) (Nat.le_of_ble_eq_true rfl)
      · refine lv_aload_n hx hb dX6_turn_15 rfl (lv_at hl 0 rfl) ?_
        refine va_get (D := D) (ci := 3) (v := .int mt) (C := RX6) (T := TX6) (N := 7) hx hb hts hinX6 hown hK hP 0 rfl rfl 5 (by decide) hfl72 (fun _ h9 => h9) rfl dX6_turn_16 ?_
        refine lv_if_ne (tgt := 32) hx hb dX6_turn_19 (by decide) (fun c19 => ?_) (fun c19 => ?_)
        · refine lv_iload_n hx hb dX6_turn_32 rfl (lv_at hl 1 rfl) ?_
          refine lv_iload_n hx hb dX6_turn_33 rfl (lv_at hl 2 rfl) ?_
          refine vp_callSi (W.runS (As := [.int (nI q9), .int (nI y9)]) (rest := []) ⟨hx, hb, hml, hown, hts⟩ (c_X6_turnNumber l q9 y9) (va_cwS 2 hts gX6_turn_X6_turnNumber rfl rfl rfl (by decide +kernel) ⟨Nat.le_of_ble_eq_true rfl, Nat.le_of_ble_eq_true rfl⟩) ⟨px_blind0, fun U hU hW => ⟨rfl, trivial⟩⟩ rfl rfl hl.1 rfl (lv_room (Nat.le_of_ble_eq_true rfl)) dX6_turn_34 ⟨(Nat.le_of_ble_eq_true rfl), (Nat.le_of_ble_eq_true rfl)⟩) (fun r34 er34 => ?_)
          obtain rfl := er34.symm
          refine lv_istore_n (lv' := [(3, .int (nI (2 * q9 + y9))), (0, .ref h0), (1, .int (nI q9)), (2, .int (nI y9))]) hx hb dX6_turn_37 rfl hl (by decide) rfl (fun ls hl => ?_)
          refine lv_aload_n hx hb dX6_turn_38 rfl (lv_at hl 1 rfl) ?_
          refine lv_iload_n hx hb dX6_turn_39 rfl (lv_at hl 0 rfl) ?_
          have hPc := hP.sub (ws' := [(h0, .inr (3, [.ref lg, .ref fs, .ref ps, .long fa, .long fb, .int mt, .int re]))]) [0] rfl
          have hDc := hD.sub (ws' := [(h0, .inr (3, [.ref lg, .ref fs, .ref ps, .long fa, .long fb, .int mt, .int re]))]) [0] (by decide) rfl
          have hFc := va_free (wc := [(h0, .inr (3, [.ref lg, .ref fs, .ref ps, .long fa, .long fb, .int mt, .int re]))]) hD hS hA [0] rfl
          refine va_callv (va_runV (As := [.int (nI (2 * q9 + y9))]) (rest := []) ⟨hx, hb, hml, hown, hts⟩ (c_X6_turnBoard l D cI cJ H.size  h0 lg fs ps fa fb mt re (2 * q9 + y9) (by omega)) (cwV 1 hts gX6_turn_X6_turnBoard rfl rfl rfl (by decide +kernel) ⟨Nat.le_of_ble_eq_true rfl, Nat.le_of_ble_eq_true rfl⟩) ⟨pv_blind, va_recv hK hPc (ci := 3) (q0 := 0) rfl rfl, fun U hU hW => ⟨rfl, by rw [hU], by rw [hU]; exact hPc, va_K.moved hW.alike hK, hDc.weaken (fun _ _ _ _ => trivial)⟩⟩ rfl rfl hl.1 rfl (lv_room (Nat.le_of_ble_eq_true rfl)) dX6_turn_40 ⟨(Nat.le_of_ble_eq_true rfl), (Nat.le_of_ble_eq_true rfl)⟩) hS (fun q _ h => hFc q h) hFc (fun u t9 H1 locs hth hvm hw40 hB hz1 hk1 hS => ?_)
          try dsimp only at hw40
          obtain ⟨hP1, hK1, hD1⟩ := hB
          rw [hth] at hP1
          obtain ⟨hP, hD⟩ := va_join (wr := [(lg, .inr (0, [.ref lc, .ref lt, .int (nI k)])), (lc, .inl (cI, 36, .inl cs)), (lt, .inl (cI, 36, .inl ts))]) (w1 := [(h0, .inr (3, [.ref lg, .ref fs, .ref ps, .long (cturned fa (2 * q9 + y9)), .long (cturned fb (2 * q9 + y9)), .int mt, .int re]))]) hP hD [0] [1, 2, 3] rfl rfl (by decide) (by decide) hk1 hFc hP1 hD1
          generalize H1 = H at hP hS ⊢
          have hP : va_P D vwCl [(h0, .inr (3, [.ref lg, .ref fs, .ref ps, .long (cturned fa (2 * q9 + y9)), .long (cturned fb (2 * q9 + y9)), .int mt, .int re])), (lg, .inr (0, [.ref lc, .ref lt, .int (nI k)])), (lc, .inl (cI, 36, .inl cs)), (lt, .inl (cI, 36, .inl ts))] H := hP.sub (ws' := [(h0, .inr (3, [.ref lg, .ref fs, .ref ps, .long (cturned fa (2 * q9 + y9)), .long (cturned fb (2 * q9 + y9)), .int mt, .int re])), (lg, .inr (0, [.ref lc, .ref lt, .int (nI k)])), (lc, .inl (cI, 36, .inl cs)), (lt, .inl (cI, 36, .inl ts))]) [3, 0, 1, 2] rfl
          have hD : va_D A [(h0, .inr (3, [.ref lg, .ref fs, .ref ps, .long (cturned fa (2 * q9 + y9)), .long (cturned fb (2 * q9 + y9)), .int mt, .int re])), (lg, .inr (0, [.ref lc, .ref lt, .int (nI k)])), (lc, .inl (cI, 36, .inl cs)), (lt, .inl (cI, 36, .inl ts))] := hD.sub (ws' := [(h0, .inr (3, [.ref lg, .ref fs, .ref ps, .long (cturned fa (2 * q9 + y9)), .long (cturned fb (2 * q9 + y9)), .int mt, .int re])), (lg, .inr (0, [.ref lc, .ref lt, .int (nI k)])), (lc, .inl (cI, 36, .inl cs)), (lt, .inl (cI, 36, .inl ts))]) [3, 0, 1, 2] (by decide) rfl
          have hk0 := hm.resolve_left c19
          refine lv_aload_n hx hb dX6_turn_43 rfl (lv_at hl 1 rfl) ?_
          refine va_get (D := D) (ci := 3) (v := .ref lg) (C := RX6) (T := TX6) (N := 7) hx hb hts hinX6 hown hK hP 0 rfl rfl 0 (by decide) hfl12 (fun _ h9 => h9) rfl dX6_turn_44 ?_
          refine lv_iload_n hx hb dX6_turn_47 rfl (lv_at hl 0 rfl) ?_
          have hPc := hP.sub (ws' := [(lg, .inr (0, [.ref lc, .ref lt, .int (nI k)])), (lc, .inl (cI, 36, .inl cs)), (lt, .inl (cI, 36, .inl ts))]) [1, 2, 3] rfl
          have hDc := hD.sub (ws' := [(lg, .inr (0, [.ref lc, .ref lt, .int (nI k)])), (lc, .inl (cI, 36, .inl cs)), (lt, .inl (cI, 36, .inl ts))]) [1, 2, 3] (by decide) rfl
          have hFc := va_free (wc := [(lg, .inr (0, [.ref lc, .ref lt, .int (nI k)])), (lc, .inl (cI, 36, .inl cs)), (lt, .inl (cI, 36, .inl ts))]) hD hS hA [1, 2, 3] rfl
          refine va_callv (va_runV (As := [.int (nI (2 * q9 + y9))]) (rest := []) ⟨hx, hb, hml, hown, hts⟩ (c_X2_addTurn l D cI cJ H.size  lg lc lt cs ts k (by omega) (nI (2 * q9 + y9)) (by omega)) (cwV 1 hts gX6_turn_X2_addTurn rfl rfl rfl (by decide +kernel) ⟨Nat.le_of_ble_eq_true rfl, Nat.le_of_ble_eq_true rfl⟩) ⟨pv_blind, va_recv hK hPc (ci := 0) (q0 := 0) rfl rfl, fun U hU hW => ⟨rfl, by rw [hU], by rw [hU]; exact hPc, va_K.moved hW.alike hK, hDc.weaken (fun _ _ _ _ => trivial)⟩⟩ rfl rfl hl.1 rfl (lv_room (Nat.le_of_ble_eq_true rfl)) dX6_turn_48 ⟨(Nat.le_of_ble_eq_true rfl), (Nat.le_of_ble_eq_true rfl)⟩) hS (fun q _ h => hFc q h) hFc (fun u t9 H1 locs hth hvm hw48 hB hz1 hk1 hS => ?_)
          try dsimp only at hw48
          obtain ⟨hP1, hK1, hD1⟩ := hB
          rw [hth] at hP1
          obtain ⟨hP, hD⟩ := va_join (wr := [(h0, .inr (3, [.ref lg, .ref fs, .ref ps, .long (cturned fa (2 * q9 + y9)), .long (cturned fb (2 * q9 + y9)), .int mt, .int re]))]) (w1 := [(lg, .inr (0, [.ref lc, .ref lt, .int (nI k)])), (lc, .inl (cI, 36, .inl cs)), (lt, .inl (cI, 36, .inl (upd ts (k - 1) (nI (2 * q9 + y9)))))]) hP hD [1, 2, 3] [0] rfl rfl (by decide) (by decide) hk1 hFc hP1 hD1
          generalize H1 = H at hP hS ⊢
          have hP : va_P D vwCl [(h0, .inr (3, [.ref lg, .ref fs, .ref ps, .long (cturned fa (2 * q9 + y9)), .long (cturned fb (2 * q9 + y9)), .int mt, .int re])), (lg, .inr (0, [.ref lc, .ref lt, .int (nI k)])), (lc, .inl (cI, 36, .inl cs)), (lt, .inl (cI, 36, .inl (upd ts (k - 1) (nI (2 * q9 + y9)))))] H := hP.sub (ws' := [(h0, .inr (3, [.ref lg, .ref fs, .ref ps, .long (cturned fa (2 * q9 + y9)), .long (cturned fb (2 * q9 + y9)), .int mt, .int re])), (lg, .inr (0, [.ref lc, .ref lt, .int (nI k)])), (lc, .inl (cI, 36, .inl cs)), (lt, .inl (cI, 36, .inl (upd ts (k - 1) (nI (2 * q9 + y9)))))]) [0, 1, 2, 3] rfl
          have hD : va_D A [(h0, .inr (3, [.ref lg, .ref fs, .ref ps, .long (cturned fa (2 * q9 + y9)), .long (cturned fb (2 * q9 + y9)), .int mt, .int re])), (lg, .inr (0, [.ref lc, .ref lt, .int (nI k)])), (lc, .inl (cI, 36, .inl cs)), (lt, .inl (cI, 36, .inl (upd ts (k - 1) (nI (2 * q9 + y9)))))] := hD.sub (ws' := [(h0, .inr (3, [.ref lg, .ref fs, .ref ps, .long (cturned fa (2 * q9 + y9)), .long (cturned fb (2 * q9 + y9)), .int mt, .int re])), (lg, .inr (0, [.ref lc, .ref lt, .int (nI k)])), (lc, .inl (cI, 36, .inl cs)), (lt, .inl (cI, 36, .inl (upd ts (k - 1) (nI (2 * q9 + y9)))))]) [0, 1, 2, 3] (by decide) rfl
          refine lv_aload_n hx hb dX6_turn_51 rfl (lv_at hl 1 rfl) ?_
          refine lv_iconst (v := 0) hx hb dX6_turn_52 (by decide) ?_
          refine va_put (D := D) (ci := 3) (v := .int 0) (ty := .boolean) (C := RX6) (T := TX6) (N := 7) hx hb hts hinX6 tyX6 tyX6_ok nmX6 hown hK hP hD hS 0 rfl rfl 5 (by decide) hfl72 (fun _ h9 => h9) rfl (by decide +kernel) rfl rfl (Nat.le_of_ble_eq_true rfl) dX6_turn_53 (fun H locs hP hD hS => ?_)
          have hP : va_P D vwCl [(h0, .inr (3, [.ref lg, .ref fs, .ref ps, .long (cturned fa (2 * q9 + y9)), .long (cturned fb (2 * q9 + y9)), .int 0, .int re])), (lg, .inr (0, [.ref lc, .ref lt, .int (nI k)])), (lc, .inl (cI, 36, .inl cs)), (lt, .inl (cI, 36, .inl (upd ts (k - 1) (nI (2 * q9 + y9)))))] H := hP
          have hD : va_D A [(h0, .inr (3, [.ref lg, .ref fs, .ref ps, .long (cturned fa (2 * q9 + y9)), .long (cturned fb (2 * q9 + y9)), .int 0, .int re])), (lg, .inr (0, [.ref lc, .ref lt, .int (nI k)])), (lc, .inl (cI, 36, .inl cs)), (lt, .inl (cI, 36, .inl (upd ts (k - 1) (nI (2 * q9 + y9)))))] := hD
          refine lv_aload_n hx hb dX6_turn_56 rfl (lv_at hl 1 rfl) ?_
          refine lv_aload_n hx hb dX6_turn_57 rfl (lv_at hl 1 rfl) ?_
          refine vp_callSi (W.runV (As := []) (rest := [.ref h0]) ⟨hx, hb, hml, hown, hts⟩ (c_X6_resultBehindTurn l D cI cJ h0 lg fs ps (cturned fa (2 * q9 + y9)) (cturned fb (2 * q9 + y9)) 0 re ) (cwV 0 hts gX6_turn_X6_resultBehindTurn rfl rfl rfl (by decide +kernel) ⟨Nat.le_of_ble_eq_true rfl, Nat.le_of_ble_eq_true rfl⟩) ⟨px_blindW, va_recv hK hP (ci := 3) (q0 := 0) rfl rfl, fun U hU hW => ⟨rfl, by rw [hU]; exact hP.sub (ws' := [(h0, .inr (3, [.ref lg, .ref fs, .ref ps, .long (cturned fa (2 * q9 + y9)), .long (cturned fb (2 * q9 + y9)), .int 0, .int re]))]) [0] rfl, va_K.moved hW.alike hK⟩⟩ rfl rfl hl.1 rfl (lv_room (Nat.le_of_ble_eq_true rfl)) dX6_turn_58 ⟨(Nat.le_of_ble_eq_true rfl), (Nat.le_of_ble_eq_true rfl)⟩) (fun r58 er58 => ?_)
          obtain rfl := er58.symm
          refine va_put (D := D) (ci := 3) (v := .int (cjudge (cturned fa (2 * q9 + y9)) (cturned fb (2 * q9 + y9)))) (ty := .int) (C := RX6) (T := TX6) (N := 7) hx hb hts hinX6 tyX6 tyX6_ok nmX6 hown hK hP hD hS 0 rfl rfl 6 (by decide) hfl31 (fun _ h9 => h9) rfl (by decide +kernel) rfl rfl (Nat.le_of_ble_eq_true rfl) dX6_turn_61 (fun H locs hP hD hS => ?_)
          have hP : va_P D vwCl [(h0, .inr (3, [.ref lg, .ref fs, .ref ps, .long (cturned fa (2 * q9 + y9)), .long (cturned fb (2 * q9 + y9)), .int 0, .int (cjudge (cturned fa (2 * q9 + y9)) (cturned fb (2 * q9 + y9)))])), (lg, .inr (0, [.ref lc, .ref lt, .int (nI k)])), (lc, .inl (cI, 36, .inl cs)), (lt, .inl (cI, 36, .inl (upd ts (k - 1) (nI (2 * q9 + y9)))))] H := hP
          have hD : va_D A [(h0, .inr (3, [.ref lg, .ref fs, .ref ps, .long (cturned fa (2 * q9 + y9)), .long (cturned fb (2 * q9 + y9)), .int 0, .int (cjudge (cturned fa (2 * q9 + y9)) (cturned fb (2 * q9 + y9)))])), (lg, .inr (0, [.ref lc, .ref lt, .int (nI k)])), (lc, .inl (cI, 36, .inl cs)), (lt, .inl (cI, 36, .inl (upd ts (k - 1) (nI (2 * q9 + y9)))))] := hD
          refine lv_aload_n hx hb dX6_turn_64 rfl (lv_at hl 1 rfl) ?_
          refine va_get (D := D) (ci := 3) (v := .int (cjudge (cturned fa (2 * q9 + y9)) (cturned fb (2 * q9 + y9)))) (C := RX6) (T := TX6) (N := 7) hx hb hts hinX6 hown hK hP 0 rfl rfl 6 (by decide) hfl31 (fun _ h9 => h9) rfl dX6_turn_65 ?_
          refine vx_ret ?_
          refine W.widen (k := 3) (n := 18) (Nat.le_of_ble_eq_true rfl) (Nat.le_of_ble_eq_true rfl) ?_
          refine W.iret (v := (cjudge (cturned fa (2 * q9 + y9)) (cturned fb (2 * q9 + y9)))) hx hb hr (fun tt ht hW => ⟨⟨(cjudge (cturned fa (2 * q9 + y9)) (cturned fb (2 * q9 + y9))), (2 * q9 + y9), rfl, ?_, by rw [ht]; exact hP, va_K.moved hW.alike hK, hD⟩, hS.F ht⟩) hS.2.2 dX6_turn_68
          exact ⟨q9, y9, hq9, hy9, rfl, rfl, rfl, c12, c19, rfl⟩
        · obtain ⟨sa, hstr⟩ := hEX.1 (84, "no quarter is to be turned") (by unfold xstrs; simp)
          have hmem9 : ∀ w ∈ (vx_atS RX6 86 nISE ["java/lang/RuntimeException", "java/lang/Exception"]).filter goodWord, w ∈ wsX6_turn := fun w h => by first | exact List.mem_cons_of_mem _ (List.mem_append_right _ h) | exact List.mem_cons_of_mem _ (List.mem_append_left _ (List.mem_append_right _ h)) | exact List.mem_cons_of_mem _ (List.mem_append_left _ (List.mem_append_left _ (List.mem_append_right _ h)))
          refine vx_throwS (own := RX6) (cls := nISE) (text := "no quarter is to be turned") (names := ["java/lang/RuntimeException", "java/lang/Exception"]) (ik := 82) (is := 84) (ic := 86) hx hb hltr hown (by decide +kernel) (by decide +kernel) (hts _ (by decide +kernel)) (hts _ (by decide +kernel)) hstr (vx_hat (fun w h => hts w (hmem9 w h)) vx_nong_ISE (vx_c (va_Nw.use rfl hEX.2.2.1) (vx_c (va_Nw.use rfl hEX.2.2.2.2.1) (vx_c (va_Nw.use rfl hEX.2.2.2.2.2.1) (vx_c (va_Nw.use rfl hEX.2.2.2.2.2.2) vx_n))))) vx_ot_ISE hZ.1 hZ.2 hS (hl.1.trans hml.symm) dX6_turn_22 dX6_turn_25 dX6_turn_26 dX6_turn_28 dX6_turn_31 (fun x h => (htab x h).elim) (by decide) (Nat.le_of_ble_eq_true rfl) (Nat.le_of_ble_eq_true rfl) (Nat.le_of_ble_eq_true rfl) hlocks (fun tt hvm hz hk => ⟨(), trivial, ⟨Or.inr (Or.inr ⟨rfl, hw1, hw5, fun h => by first | exact c12 h.1 | exact h.2 c19⟩), px_P hP hk, va_K.moved hvm hK, hD⟩, px_F hS hz hk⟩) hS.2.2 (Nat.le_of_ble_eq_true rfl) (Nat.le_of_ble_eq_true rfl)

set_option maxHeartbeats 400000 in
set_option maxRecDepth 100000 in
theorem c_X6_undo_turn (l : Launch) (D : va_G) (cI cJ : ClassId) (sz : Nat) (h0 lg lc lt fs ps : Nat) (fa fb : Int64) (mt re : Int32) (cs ts : Nat → Int32) (k : Nat) (hk : k ≤ 36) (tn : Nat) (htn : tn < 8) (hk0 : 0 < k) (ht9 : ts (k - 1) = nI tn) : Met l yX6_undo wsX6_undo ({ frames := 3, cells := 0, slots := 0, locals := 74 } : Room) (va_Pc [.ref h0] (px_E (pv_C D cI cJ [(h0, .inr (3, [.ref lg, .ref fs, .ref ps, .long fa, .long fb, .int mt, .int re])), (lg, .inr (0, [.ref lc, .ref lt, .int (nI k)])), (lc, .inl (cI, 36, .inl cs)), (lt, .inl (cI, 36, .inl ts))] sz))) (va_Qi (fun (r : Int32) (u : Unit) => r = 1) (fun (u : Unit) => pv_B D cI cJ (va_A [(h0, .inr (3, [.ref lg, .ref fs, .ref ps, .long fa, .long fb, .int mt, .int re])), (lg, .inr (0, [.ref lc, .ref lt, .int (nI k)])), (lc, .inl (cI, 36, .inl cs)), (lt, .inl (cI, 36, .inl ts))] sz) [(h0, .inr (3, [.ref lg, .ref fs, .ref ps, .long (cturned fa (2 * (tn / 2) + (1 - tn % 2))), .long (cturned fb (2 * (tn / 2) + (1 - tn % 2))), .int 1, .int 0])), (lg, .inr (0, [.ref lc, .ref lt, .int (nI k)])), (lc, .inl (cI, 36, .inl cs)), (lt, .inl (cI, 36, .inl (upd ts (k - 1) (-1))))]) (va_A [(h0, .inr (3, [.ref lg, .ref fs, .ref ps, .long fa, .long fb, .int mt, .int re])), (lg, .inr (0, [.ref lc, .ref lt, .int (nI k)])), (lc, .inl (cI, 36, .inl cs)), (lt, .inl (cI, 36, .inl ts))] sz)) 0 0 (va_A [(h0, .inr (3, [.ref lg, .ref fs, .ref ps, .long fa, .long fb, .int mt, .int re])), (lg, .inr (0, [.ref lc, .ref lt, .int (nI k)])), (lc, .inl (cI, 36, .inl cs)), (lt, .inl (cI, 36, .inl ts))] sz) := by
  refine Met.ofW (cc := cX6_undo) (maxL := 5) (ret := (some .boolean)) (by decide) rfl ?_
  intro p e s m args below meth c s₁ B hml hv
  obtain ⟨rfl, hEN, rfl, hP, hK, hD0⟩ := hv
  have hx := B.exec
  have hb := B.bytes
  have hr := B.returns
  have hts := atoms_spec (ws := wsX6_undo) B.pre
  have hown : s.vm.findClass RX6 = some m.cls := findClass_of_methodNamed B.named
  have hlocks := B.notSynchronized
  have hD := hD0.self (sz := s.heap.size)
  generalize hAe : va_A [(h0, .inr (3, [.ref lg, .ref fs, .ref ps, .long fa, .long fb, .int mt, .int re])), (lg, .inr (0, [.ref lc, .ref lt, .int (nI k)])), (lc, .inl (cI, 36, .inl cs)), (lt, .inl (cI, 36, .inl ts))] s.heap.size = A at hD ⊢
  have hA : ∀ q : Nat, s.heap.size ≤ q → A q := fun q h => by rw [← hAe]; exact Or.inr h
  have hS : va_S A s.heap s.heap [] := va_S.rf
  have hinX6 : ∀ w ∈ wsX60, w ∈ wsX6_undo := by decide +kernel
  have hfl12 : (Cond.fieldLink RX6 12 "Twistquad" "log" "LTwistquad$MoveLog;").before ([.ref h0] : List Value).toArray s = true := hts _ (by decide +kernel)
  have hfl72 : (Cond.fieldLink RX6 72 "Twistquad" "mustTurn" "Z").before ([.ref h0] : List Value).toArray s = true := hts _ (by decide +kernel)
  have hfl31 : (Cond.fieldLink RX6 31 "Twistquad" "result" "I").before ([.ref h0] : List Value).toArray s = true := hts _ (by decide +kernel)
  have hl := lv_entry ([.ref h0]) (n := 5) (Nat.le_of_ble_eq_true rfl)
  rw [lg_entry_eq]
  generalize (lg_sl ([.ref h0]) ++ List.replicate (5 - (lg_sl ([.ref h0])).length) Slot.unset).toArray = ls at hl ⊢
  have hl : lv_has ls 5 [(0, .ref h0)] := hl
  refine lv_aload_n hx hb dX6_undo_0 rfl (lv_at hl 0 rfl) ?_
  refine va_get (D := D) (ci := 3) (v := .ref lg) (C := RX6) (T := TX6) (N := 7) hx hb hts hinX6 hown hK hP 0 rfl rfl 0 (by decide) hfl12 (fun _ h9 => h9) rfl dX6_undo_1 ?_
  refine vp_callSi (W.runV (As := []) (rest := []) ⟨hx, hb, hml, hown, hts⟩ (c_X2_count l D cI cJ lg lc lt cs ts k (by omega) ) (cwV 0 hts gX6_undo_X2_count rfl rfl rfl (by decide +kernel) ⟨Nat.le_of_ble_eq_true rfl, Nat.le_of_ble_eq_true rfl⟩) ⟨px_blindW, va_recv hK hP (ci := 0) (q0 := 1) rfl rfl, fun U hU hW => ⟨rfl, by rw [hU]; exact hP.sub (ws' := [(lg, .inr (0, [.ref lc, .ref lt, .int (nI k)])), (lc, .inl (cI, 36, .inl cs)), (lt, .inl (cI, 36, .inl ts))]) [1, 2, 3] rfl, va_K.moved hW.alike hK⟩⟩ rfl rfl hl.1 rfl (lv_room (Nat.le_of_ble_eq_true rfl)) dX6_undo_4 ⟨(Nat.le_of_ble_eq_true rfl), (Nat.le_of_ble_eq_true rfl)⟩) (fun r4 er4 => ?_)
  obtain rfl := er4.symm
  refine lv_if_ne (tgt := 20) hx hb dX6_undo_7 (by decide) (fun c7 => ?_) (fun c7 => ?_)
  · have c7 : ¬ k = 0 := _root_.mt (nq_eq (a := k) (b := 0) (by omega) (by omega)).mpr c7
    refine lv_aload_n hx hb dX6_undo_20 rfl (lv_at hl 0 rfl) ?_
    refine va_get (D := D) (ci := 3) (v := .ref lg) (C := RX6) (T := TX6) (N := 7) hx hb hts hinX6 hown hK hP 0 rfl rfl 0 (by decide) hfl12 (fun _ h9 => h9) rfl dX6_undo_21 ?_
    refine vp_callSi (W.runV (As := []) (rest := []) ⟨hx, hb, hml, hown, hts⟩ (c_X2_count l D cI cJ lg lc lt cs ts k (by omega) ) (cwV 0 hts gX6_undo_X2_count rfl rfl rfl (by decide +kernel) ⟨Nat.le_of_ble_eq_true rfl, Nat.le_of_ble_eq_true rfl⟩) ⟨px_blindW, va_recv hK hP (ci := 0) (q0 := 1) rfl rfl, fun U hU hW => ⟨rfl, by rw [hU]; exact hP.sub (ws' := [(lg, .inr (0, [.ref lc, .ref lt, .int (nI k)])), (lc, .inl (cI, 36, .inl cs)), (lt, .inl (cI, 36, .inl ts))]) [1, 2, 3] rfl, va_K.moved hW.alike hK⟩⟩ rfl rfl hl.1 rfl (lv_room (Nat.le_of_ble_eq_true rfl)) dX6_undo_24 ⟨(Nat.le_of_ble_eq_true rfl), (Nat.le_of_ble_eq_true rfl)⟩) (fun r24 er24 => ?_)
    obtain rfl := er24.symm
    refine lv_iconst (v := 1) hx hb dX6_undo_27 (by decide) ?_
    refine lv_isub hx hb dX6_undo_28 ?_
    refine pk_ti (y := nI (k - 1)) (pk_sub (a := k) (b := 1) (by omega)) ?_
    refine lv_istore_n (lv' := [(1, .int (nI (k - 1))), (0, .ref h0)]) hx hb dX6_undo_29 rfl hl (by decide) rfl (fun ls hl => ?_)
    refine lv_aload_n hx hb dX6_undo_30 rfl (lv_at hl 1 rfl) ?_
    refine va_get (D := D) (ci := 3) (v := .ref lg) (C := RX6) (T := TX6) (N := 7) hx hb hts hinX6 hown hK hP 0 rfl rfl 0 (by decide) hfl12 (fun _ h9 => h9) rfl dX6_undo_31 ?_
    refine lv_iload_n hx hb dX6_undo_34 rfl (lv_at hl 0 rfl) ?_
    refine vp_callSi (W.runV (As := [.int (nI (k - 1))]) (rest := []) ⟨hx, hb, hml, hown, hts⟩ (c_X2_hasTurn l D cI cJ lg lc lt cs ts k (by omega) (k - 1) (by omega)) (cwV 1 hts gX6_undo_X2_hasTurn rfl rfl rfl (by decide +kernel) ⟨Nat.le_of_ble_eq_true rfl, Nat.le_of_ble_eq_true rfl⟩) ⟨px_blindW, va_recv hK hP (ci := 0) (q0 := 1) rfl rfl, fun U hU hW => ⟨rfl, by rw [hU]; exact hP.sub (ws' := [(lg, .inr (0, [.ref lc, .ref lt, .int (nI k)])), (lc, .inl (cI, 36, .inl cs)), (lt, .inl (cI, 36, .inl ts))]) [1, 2, 3] rfl, va_K.moved hW.alike hK⟩⟩ rfl rfl hl.1 rfl (lv_room (Nat.le_of_ble_eq_true rfl)) dX6_undo_35 ⟨(Nat.le_of_ble_eq_true rfl), (Nat.le_of_ble_eq_true rfl)⟩) (fun r35 er35 => ?_)
    obtain rfl := er35.symm
    refine pk_b (P := ¬ ts (k - 1) = (-1)) (fun b35 => ?_) (fun b35 => ?_)
    · refine lv_istore_n (lv' := [(2, .int 1), (1, .int (nI (k - 1))), (0, .ref h0)]) hx hb dX6_undo_38 rfl hl (by decide) rfl (fun ls hl => ?_)
      refine lv_iload_n hx hb dX6_undo_39 rfl (lv_at hl 0 rfl) ?_
      refine lv_if_eq (tgt := 68) hx hb dX6_undo_40 (by decide) (fun c40 => ?_) (fun c40 => ?_)
      · exact absurd c40 (by decide)
      · refine lv_aload_n hx hb dX6_undo_43 rfl (lv_at hl 2 rfl) ?_
        refine lv_aload_n hx hb dX6_undo_44 rfl (lv_at hl 2 rfl) ?_
        refine va_get (D := D) (ci := 3) (v := .ref lg) (C := RX6) (T := TX6) (N := 7) hx hb hts hinX6 hown hK hP 0 rfl rfl 0 (by decide) hfl12 (fun _ h9 => h9) rfl dX6_undo_45 ?_
        refine lv_iload_n hx hb dX6_undo_48 rfl (lv_at hl 1 rfl) ?_
        refine vp_callSi (W.runV (As := [.int (nI (k - 1))]) (rest := [.ref h0]) ⟨hx, hb, hml, hown, hts⟩ (c_X2_turnOf l D cI cJ lg lc lt cs ts k (by omega) (k - 1) (by omega)) (cwV 1 hts gX6_undo_X2_turnOf rfl rfl rfl (by decide +kernel) ⟨Nat.le_of_ble_eq_true rfl, Nat.le_of_ble_eq_true rfl⟩) ⟨px_blindW, va_recv hK hP (ci := 0) (q0 := 1) rfl rfl, fun U hU hW => ⟨rfl, by rw [hU]; exact hP.sub (ws' := [(lg, .inr (0, [.ref lc, .ref lt, .int (nI k)])), (lc, .inl (cI, 36, .inl cs)), (lt, .inl (cI, 36, .inl ts))]) [1, 2, 3] rfl, va_K.moved hW.alike hK⟩⟩ rfl rfl hl.1 rfl (lv_room (Nat.le_of_ble_eq_true rfl)) dX6_undo_49 ⟨(Nat.le_of_ble_eq_true rfl), (Nat.le_of_ble_eq_true rfl)⟩) (fun r49 er49 => ?_)
        obtain rfl := er49.symm
        refine pk_ti (y := (nI tn)) (ht9) ?_
        refine vp_callSi (W.runS (As := [.int (nI tn)]) (rest := [.ref h0]) ⟨hx, hb, hml, hown, hts⟩ (c_X4_opposite l tn (by omega)) (va_cwS 1 hts gX6_undo_X4_opposite rfl rfl rfl (by decide +kernel) ⟨Nat.le_of_ble_eq_true rfl, Nat.le_of_ble_eq_true rfl⟩) ⟨(px_blindE px_blind0), fun U hU hW => ⟨rfl, hEN.warm hW, trivial⟩⟩ rfl rfl hl.1 rfl (lv_room (Nat.le_of_ble_eq_true rfl)) dX6_undo_52 ⟨(Nat.le_of_ble_eq_true rfl), (Nat.le_of_ble_eq_true rfl)⟩) (fun r52 er52 => ?_)
        obtain rfl := er52.symm
        have hPc := hP.sub (ws' := [(h0, .inr (3, [.ref lg, .ref fs, .ref ps, .long fa, .long fb, .int mt, .int re]))]) [0] rfl
        have hDc := hD.sub (ws' := [(h0, .inr (3, [.ref lg, .ref fs, .ref ps, .long fa, .long fb, .int mt, .int re]))]) [0] (by decide) rfl
        have hFc := va_free (wc := [(h0, .inr (3, [.ref lg, .ref fs, .ref ps, .long fa, .long fb, .int mt, .int re]))]) hD hS hA [0] rfl
        refine va_callv (va_runV (As := [.int (nI (2 * (tn / 2) + (1 - tn % 2)))]) (rest := []) ⟨hx, hb, hml, hown, hts⟩ (c_X6_turnBoard l D cI cJ s.heap.size  h0 lg fs ps fa fb mt re (2 * (tn / 2) + (1 - tn % 2)) (by omega)) (cwV 1 hts gX6_undo_X6_turnBoard rfl rfl rfl (by decide +kernel) ⟨Nat.le_of_ble_eq_true rfl, Nat.le_of_ble_eq_true rfl⟩) ⟨pv_blind, va_recv hK hPc (ci := 3) (q0 := 0) rfl rfl, fun U hU hW => ⟨rfl, by rw [hU], by rw [hU]; exact hPc, va_K.moved hW.alike hK, hDc.weaken (fun _ _ _ _ => trivial)⟩⟩ rfl rfl hl.1 rfl (lv_room (Nat.le_of_ble_eq_true rfl)) dX6_undo_55 ⟨(Nat.le_of_ble_eq_true rfl), (Nat.le_of_ble_eq_true rfl)⟩) hS (fun q _ h => hFc q h) hFc (fun u t9 H1 locs hth hvm hw55 hB hz1 hk1 hS => ?_)
        try dsimp only at hw55
        obtain ⟨hP1, hK1, hD1⟩ := hB
        rw [hth] at hP1
        obtain ⟨hP, hD⟩ := va_join (wr := [(lg, .inr (0, [.ref lc, .ref lt, .int (nI k)])), (lc, .inl (cI, 36, .inl cs)), (lt, .inl (cI, 36, .inl ts))]) (w1 := [(h0, .inr (3, [.ref lg, .ref fs, .ref ps, .long (cturned fa (2 * (tn / 2) + (1 - tn % 2))), .long (cturned fb (2 * (tn / 2) + (1 - tn % 2))), .int mt, .int re]))]) hP hD [0] [1, 2, 3] rfl rfl (by decide) (by decide) hk1 hFc hP1 hD1
        generalize H1 = H at hP hS ⊢
        have hP : va_P D vwCl [(h0, .inr (3, [.ref lg, .ref fs, .ref ps, .long (cturned fa (2 * (tn / 2) + (1 - tn % 2))), .long (cturned fb (2 * (tn / 2) + (1 - tn % 2))), .int mt, .int re])), (lg, .inr (0, [.ref lc, .ref lt, .int (nI k)])), (lc, .inl (cI, 36, .inl cs)), (lt, .inl (cI, 36, .inl ts))] H := hP.sub (ws' := [(h0, .inr (3, [.ref lg, .ref fs, .ref ps, .long (cturned fa (2 * (tn / 2) + (1 - tn % 2))), .long (cturned fb (2 * (tn / 2) + (1 - tn % 2))), .int mt, .int re])), (lg, .inr (0, [.ref lc, .ref lt, .int (nI k)])), (lc, .inl (cI, 36, .inl cs)), (lt, .inl (cI, 36, .inl ts))]) [3, 0, 1, 2] rfl
        have hD : va_D A [(h0, .inr (3, [.ref lg, .ref fs, .ref ps, .long (cturned fa (2 * (tn / 2) + (1 - tn % 2))), .long (cturned fb (2 * (tn / 2) + (1 - tn % 2))), .int mt, .int re])), (lg, .inr (0, [.ref lc, .ref lt, .int (nI k)])), (lc, .inl (cI, 36, .inl cs)), (lt, .inl (cI, 36, .inl ts))] := hD.sub (ws' := [(h0, .inr (3, [.ref lg, .ref fs, .ref ps, .long (cturned fa (2 * (tn / 2) + (1 - tn % 2))), .long (cturned fb (2 * (tn / 2) + (1 - tn % 2))), .int mt, .int re])), (lg, .inr (0, [.ref lc, .ref lt, .int (nI k)])), (lc, .inl (cI, 36, .inl cs)), (lt, .inl (cI, 36, .inl ts))]) [3, 0, 1, 2] (by decide) rfl
        refine lv_aload_n hx hb dX6_undo_58 rfl (lv_at hl 2 rfl) ?_
        refine va_get (D := D) (ci := 3) (v := .ref lg) (C := RX6) (T := TX6) (N := 7) hx hb hts hinX6 hown hK hP 0 rfl rfl 0 (by decide) hfl12 (fun _ h9 => h9) rfl dX6_undo_59 ?_
        have hPc := hP.sub (ws' := [(lg, .inr (0, [.ref lc, .ref lt, .int (nI k)])), (lc, .inl (cI, 36, .inl cs)), (lt, .inl (cI, 36, .inl ts))]) [1, 2, 3] rfl
        have hDc := hD.sub (ws' := [(lg, .inr (0, [.ref lc, .ref lt, .int (nI k)])), (lc, .inl (cI, 36, .inl cs)), (lt, .inl (cI, 36, .inl ts))]) [1, 2, 3] (by decide) rfl
        have hFc := va_free (wc := [(lg, .inr (0, [.ref lc, .ref lt, .int (nI k)])), (lc, .inl (cI, 36, .inl cs)), (lt, .inl (cI, 36, .inl ts))]) hD hS hA [1, 2, 3] rfl
        refine va_callv (va_runV (As := []) (rest := []) ⟨hx, hb, hml, hown, hts⟩ (c_X2_dropTurn l D cI cJ H.size  lg lc lt cs ts k (by omega) (by omega)) (cwV 0 hts gX6_undo_X2_dropTurn rfl rfl rfl (by decide +kernel) ⟨Nat.le_of_ble_eq_true rfl, Nat.le_of_ble_eq_true rfl⟩) ⟨pv_blind, va_recv hK hPc (ci := 0) (q0 := 0) rfl rfl, fun U hU hW => ⟨rfl, by rw [hU], by rw [hU]; exact hPc, va_K.moved hW.alike hK, hDc.weaken (fun _ _ _ _ => trivial)⟩⟩ rfl rfl hl.1 rfl (lv_room (Nat.le_of_ble_eq_true rfl)) dX6_undo_62 ⟨(Nat.le_of_ble_eq_true rfl), (Nat.le_of_ble_eq_true rfl)⟩) hS (fun q _ h => hFc q h) hFc (fun u t9 H1 locs hth hvm hw62 hB hz1 hk1 hS => ?_)
        try dsimp only at hw62
        obtain ⟨hP1, hK1, hD1⟩ := hB
        rw [hth] at hP1
        obtain ⟨hP, hD⟩ := va_join (wr := [(h0, .inr (3, [.ref lg, .ref fs, .ref ps, .long (cturned fa (2 * (tn / 2) + (1 - tn % 2))), .long (cturned fb (2 * (tn / 2) + (1 - tn % 2))), .int mt, .int re]))]) (w1 := [(lg, .inr (0, [.ref lc, .ref lt, .int (nI k)])), (lc, .inl (cI, 36, .inl cs)), (lt, .inl (cI, 36, .inl (upd ts (k - 1) (-1))))]) hP hD [1, 2, 3] [0] rfl rfl (by decide) (by decide) hk1 hFc hP1 hD1
        generalize H1 = H at hP hS ⊢
        have hP : va_P D vwCl [(h0, .inr (3, [.ref lg, .ref fs, .ref ps, .long (cturned fa (2 * (tn / 2) + (1 - tn % 2))), .long (cturned fb (2 * (tn / 2) + (1 - tn % 2))), .int mt, .int re])), (lg, .inr (0, [.ref lc, .ref lt, .int (nI k)])), (lc, .inl (cI, 36, .inl cs)), (lt, .inl (cI, 36, .inl (upd ts (k - 1) (-1))))] H := hP.sub (ws' := [(h0, .inr (3, [.ref lg, .ref fs, .ref ps, .long (cturned fa (2 * (tn / 2) + (1 - tn % 2))), .long (cturned fb (2 * (tn / 2) + (1 - tn % 2))), .int mt, .int re])), (lg, .inr (0, [.ref lc, .ref lt, .int (nI k)])), (lc, .inl (cI, 36, .inl cs)), (lt, .inl (cI, 36, .inl (upd ts (k - 1) (-1))))]) [0, 1, 2, 3] rfl
        have hD : va_D A [(h0, .inr (3, [.ref lg, .ref fs, .ref ps, .long (cturned fa (2 * (tn / 2) + (1 - tn % 2))), .long (cturned fb (2 * (tn / 2) + (1 - tn % 2))), .int mt, .int re])), (lg, .inr (0, [.ref lc, .ref lt, .int (nI k)])), (lc, .inl (cI, 36, .inl cs)), (lt, .inl (cI, 36, .inl (upd ts (k - 1) (-1))))] := hD.sub (ws' := [(h0, .inr (3, [.ref lg, .ref fs, .ref ps, .long (cturned fa (2 * (tn / 2) + (1 - tn % 2))), .long (cturned fb (2 * (tn / 2) + (1 - tn % 2))), .int mt, .int re])), (lg, .inr (0, [.ref lc, .ref lt, .int (nI k)])), (lc, .inl (cI, 36, .inl cs)), (lt, .inl (cI, 36, .inl (upd ts (k - 1) (-1))))]) [0, 1, 2, 3] (by decide) rfl
        refine lv_goto (tgt := 111) hx hb dX6_undo_65 (by decide) ?_
        refine lv_aload_n hx hb dX6_undo_111 rfl (lv_at hl 2 rfl) ?_
        refine lv_iload_n hx hb dX6_undo_112 rfl (lv_at hl 0 rfl) ?_
        refine va_put (D := D) (ci := 3) (v := .int 1) (ty := .boolean) (C := RX6) (T := TX6) (N := 7) hx hb hts hinX6 tyX6 tyX6_ok nmX6 hown hK hP hD hS 0 rfl rfl 5 (by decide) hfl72 (fun _ h9 => h9) rfl (by decide +kernel) rfl rfl (Nat.le_of_ble_eq_true rfl) dX6_undo_113 (fun H locs hP hD hS => ?_)
        have hP : va_P D vwCl [(h0, .inr (3, [.ref lg, .ref fs, .ref ps, .long (cturned fa (2 * (tn / 2) + (1 - tn % 2))), .long (cturned fb (2 * (tn / 2) + (1 - tn % 2))), .int 1, .int re])), (lg, .inr (0, [.ref lc, .ref lt, .int (nI k)])), (lc, .inl (cI, 36, .inl cs)), (lt, .inl (cI, 36, .inl (upd ts (k - 1) (-1))))] H := hP
        have hD : va_D A [(h0, .inr (3, [.ref lg, .ref fs, .ref ps, .long (cturned fa (2 * (tn / 2) + (1 - tn % 2))), .long (cturned fb (2 * (tn / 2) + (1 - tn % 2))), .int 1, .int re])), (lg, .inr (0, [.ref lc, .ref lt, .int (nI k)])), (lc, .inl (cI, 36, .inl cs)), (lt, .inl (cI, 36, .inl (upd ts (k - 1) (-1))))] := hD
        refine lv_aload_n hx hb dX6_undo_116 rfl (lv_at hl 2 rfl) ?_
        refine lv_iconst (v := 0) hx hb dX6_undo_117 (by decide) ?_
        refine va_put (D := D) (ci := 3) (v := .int 0) (ty := .int) (C := RX6) (T := TX6) (N := 7) hx hb hts hinX6 tyX6 tyX6_ok nmX6 hown hK hP hD hS 0 rfl rfl 6 (by decide) hfl31 (fun _ h9 => h9) rfl (by decide +kernel) rfl rfl (Nat.le_of_ble_eq_true rfl) dX6_undo_118 (fun H locs hP hD hS => ?_)
        have hP : va_P D vwCl [(h0, .inr (3, [.ref lg, .ref fs, .ref ps, .long (cturned fa (2 * (tn / 2) + (1 - tn % 2))), .long (cturned fb (2 * (tn / 2) + (1 - tn % 2))), .int 1, .int 0])), (lg, .inr (0, [.ref lc, .ref lt, .int (nI k)])), (lc, .inl (cI, 36, .inl cs)), (lt, .inl (cI, 36, .inl (upd ts (k - 1) (-1))))] H := hP
        have hD : va_D A [(h0, .inr (3, [.ref lg, .ref fs, .ref ps, .long (cturned fa (2 * (tn / 2) + (1 - tn % 2))), .long (cturned fb (2 * (tn / 2) + (1 - tn % 2))), .int 1, .int 0])), (lg, .inr (0, [.ref lc, .ref lt, .int (nI k)])), (lc, .inl (cI, 36, .inl cs)), (lt, .inl (cI, 36, .inl (upd ts (k - 1) (-1))))] := hD
        refine lv_iload_n hx hb dX6_undo_121 rfl (lv_at hl 0 rfl) ?_
        refine W.zret (v := 1) hx hb hr (rfl) (fun tt ht hW => ⟨⟨1, (), rfl, ?_, by rw [ht]; exact hP, va_K.moved hW.alike hK, hD⟩, hS.F ht⟩) hS.2.2 dX6_undo_122
        exact rfl
    · exact absurd (fun h => nI_ne_m1 (by omega) (ht9.symm.trans h)) b35
  · have c7 : k = 0 := (nq_eq (a := k) (b := 0) (by omega) (by omega)).mp c7
    omega

set_option maxHeartbeats 400000 in
set_option maxRecDepth 100000 in
theorem c_X6_undo_marble (l : Launch) (D : va_G) (cI cJ : ClassId) (sz : Nat) (h0 lg lc lt fs ps : Nat) (fa fb : Int64) (mt re : Int32) (cs ts : Nat → Int32) (k : Nat) (hk : k ≤ 36) (j : Nat) (hj : j < 36) (hk0 : 0 < k) (ht9 : ts (k - 1) = (-1)) (hc9 : cs (k - 1) = nI j) : Met l yX6_undo wsX6_undo ({ frames := 3, cells := 0, slots := 0, locals := 74 } : Room) (va_Pc [.ref h0] (px_E (pv_C D cI cJ [(h0, .inr (3, [.ref lg, .ref fs, .ref ps, .long fa, .long fb, .int mt, .int re])), (lg, .inr (0, [.ref lc, .ref lt, .int (nI k)])), (lc, .inl (cI, 36, .inl cs)), (lt, .inl (cI, 36, .inl ts))] sz))) (va_Qi (fun (r : Int32) (u : Unit) => r = 0) (fun (u : Unit) => pv_B D cI cJ (va_A [(h0, .inr (3, [.ref lg, .ref fs, .ref ps, .long fa, .long fb, .int mt, .int re])), (lg, .inr (0, [.ref lc, .ref lt, .int (nI k)])), (lc, .inl (cI, 36, .inl cs)), (lt, .inl (cI, 36, .inl ts))] sz) [(h0, .inr (3, [.ref lg, .ref fs, .ref ps, .long (fa &&& (jshl 1 (nI j) ^^^ (-1))), .long (fb &&& (jshl 1 (nI j) ^^^ (-1))), .int 0, .int 0])), (lg, .inr (0, [.ref lc, .ref lt, .int (nI (k - 1))])), (lc, .inl (cI, 36, .inl cs)), (lt, .inl (cI, 36, .inl ts))]) (va_A [(h0, .inr (3, [.ref lg, .ref fs, .ref ps, .long fa, .long fb, .int mt, .int re])), (lg, .inr (0, [.ref lc, .ref lt, .int (nI k)])), (lc, .inl (cI, 36, .inl cs)), (lt, .inl (cI, 36, .inl ts))] sz)) 0 0 (va_A [(h0, .inr (3, [.ref lg, .ref fs, .ref ps, .long fa, .long fb, .int mt, .int re])), (lg, .inr (0, [.ref lc, .ref lt, .int (nI k)])), (lc, .inl (cI, 36, .inl cs)), (lt, .inl (cI, 36, .inl ts))] sz) := by
  refine Met.ofW (cc := cX6_undo) (maxL := 5) (ret := (some .boolean)) (by decide) rfl ?_
  intro p e s m args below meth c s₁ B hml hv
  obtain ⟨rfl, hEN, rfl, hP, hK, hD0⟩ := hv
  have hx := B.exec
  have hb := B.bytes
  have hr := B.returns
  have hts := atoms_spec (ws := wsX6_undo) B.pre
  have hown : s.vm.findClass RX6 = some m.cls := findClass_of_methodNamed B.named
  have hlocks := B.notSynchronized
  have hD := hD0.self (sz := s.heap.size)
  generalize hAe : va_A [(h0, .inr (3, [.ref lg, .ref fs, .ref ps, .long fa, .long fb, .int mt, .int re])), (lg, .inr (0, [.ref lc, .ref lt, .int (nI k)])), (lc, .inl (cI, 36, .inl cs)), (lt, .inl (cI, 36, .inl ts))] s.heap.size = A at hD ⊢
  have hA : ∀ q : Nat, s.heap.size ≤ q → A q := fun q h => by rw [← hAe]; exact Or.inr h
  have hS : va_S A s.heap s.heap [] := va_S.rf
  have hinX6 : ∀ w ∈ wsX60, w ∈ wsX6_undo := by decide +kernel
  have hfl12 : (Cond.fieldLink RX6 12 "Twistquad" "log" "LTwistquad$MoveLog;").before ([.ref h0] : List Value).toArray s = true := hts _ (by decide +kernel)
  have hfl49 : (Cond.fieldLink RX6 49 "Twistquad" "first" "J").before ([.ref h0] : List Value).toArray s = true := hts _ (by decide +kernel)
  have hfl57 : (Cond.fieldLink RX6 57 "Twistquad" "second" "J").before ([.ref h0] : List Value).toArray s = true := hts _ (by decide +kernel)
  have hfl72 : (Cond.fieldLink RX6 72 "Twistquad" "mustTurn" "Z").before ([.ref h0] : List Value).toArray s = true := hts _ (by decide +kernel)
  have hfl31 : (Cond.fieldLink RX6 31 "Twistquad" "result" "I").before ([.ref h0] : List Value).toArray s = true := hts _ (by decide +kernel)
  have hl := lv_entry ([.ref h0]) (n := 5) (Nat.le_of_ble_eq_true rfl)
  rw [lg_entry_eq]
  generalize (lg_sl ([.ref h0]) ++ List.replicate (5 - (lg_sl ([.ref h0])).length) Slot.unset).toArray = ls at hl ⊢
  have hl : lv_has ls 5 [(0, .ref h0)] := hl
  refine lv_aload_n hx hb dX6_undo_0 rfl (lv_at hl 0 rfl) ?_
  refine va_get (D := D) (ci := 3) (v := .ref lg) (C := RX6) (T := TX6) (N := 7) hx hb hts hinX6 hown hK hP 0 rfl rfl 0 (by decide) hfl12 (fun _ h9 => h9) rfl dX6_undo_1 ?_
  refine vp_callSi (W.runV (As := []) (rest := []) ⟨hx, hb, hml, hown, hts⟩ (c_X2_count l D cI cJ lg lc lt cs ts k (by omega) ) (cwV 0 hts gX6_undo_X2_count rfl rfl rfl (by decide +kernel) ⟨Nat.le_of_ble_eq_true rfl, Nat.le_of_ble_eq_true rfl⟩) ⟨px_blindW, va_recv hK hP (ci := 0) (q0 := 1) rfl rfl, fun U hU hW => ⟨rfl, by rw [hU]; exact hP.sub (ws' := [(lg, .inr (0, [.ref lc, .ref lt, .int (nI k)])), (lc, .inl (cI, 36, .inl cs)), (lt, .inl (cI, 36, .inl ts))]) [1, 2, 3] rfl, va_K.moved hW.alike hK⟩⟩ rfl rfl hl.1 rfl (lv_room (Nat.le_of_ble_eq_true rfl)) dX6_undo_4 ⟨(Nat.le_of_ble_eq_true rfl), (Nat.le_of_ble_eq_true rfl)⟩) (fun r4 er4 => ?_)
  obtain rfl := er4.symm
  refine lv_if_ne (tgt := 20) hx hb dX6_undo_7 (by decide) (fun c7 => ?_) (fun c7 => ?_)
  · have c7 : ¬ k = 0 := _root_.mt (nq_eq (a := k) (b := 0) (by omega) (by omega)).mpr c7
    refine lv_aload_n hx hb dX6_undo_20 rfl (lv_at hl 0 rfl) ?_
    refine va_get (D := D) (ci := 3) (v := .ref lg) (C := RX6) (T := TX6) (N := 7) hx hb hts hinX6 hown hK hP 0 rfl rfl 0 (by decide) hfl12 (fun _ h9 => h9) rfl dX6_undo_21 ?_
    refine vp_callSi (W.runV (As := []) (rest := []) ⟨hx, hb, hml, hown, hts⟩ (c_X2_count l D cI cJ lg lc lt cs ts k (by omega) ) (cwV 0 hts gX6_undo_X2_count rfl rfl rfl (by decide +kernel) ⟨Nat.le_of_ble_eq_true rfl, Nat.le_of_ble_eq_true rfl⟩) ⟨px_blindW, va_recv hK hP (ci := 0) (q0 := 1) rfl rfl, fun U hU hW => ⟨rfl, by rw [hU]; exact hP.sub (ws' := [(lg, .inr (0, [.ref lc, .ref lt, .int (nI k)])), (lc, .inl (cI, 36, .inl cs)), (lt, .inl (cI, 36, .inl ts))]) [1, 2, 3] rfl, va_K.moved hW.alike hK⟩⟩ rfl rfl hl.1 rfl (lv_room (Nat.le_of_ble_eq_true rfl)) dX6_undo_24 ⟨(Nat.le_of_ble_eq_true rfl), (Nat.le_of_ble_eq_true rfl)⟩) (fun r24 er24 => ?_)
    obtain rfl := er24.symm
    refine lv_iconst (v := 1) hx hb dX6_undo_27 (by decide) ?_
    refine lv_isub hx hb dX6_undo_28 ?_
    refine pk_ti (y := nI (k - 1)) (pk_sub (a := k) (b := 1) (by omega)) ?_
    refine lv_istore_n (lv' := [(1, .int (nI (k - 1))), (0, .ref h0)]) hx hb dX6_undo_29 rfl hl (by decide) rfl (fun ls hl => ?_)
    refine lv_aload_n hx hb dX6_undo_30 rfl (lv_at hl 1 rfl) ?_
    refine va_get (D := D) (ci := 3) (v := .ref lg) (C := RX6) (T := TX6) (N := 7) hx hb hts hinX6 hown hK hP 0 rfl rfl 0 (by decide) hfl12 (fun _ h9 => h9) rfl dX6_undo_31 ?_
    refine lv_iload_n hx hb dX6_undo_34 rfl (lv_at hl 0 rfl) ?_
    refine vp_callSi (W.runV (As := [.int (nI (k - 1))]) (rest := []) ⟨hx, hb, hml, hown, hts⟩ (c_X2_hasTurn l D cI cJ lg lc lt cs ts k (by omega) (k - 1) (by omega)) (cwV 1 hts gX6_undo_X2_hasTurn rfl rfl rfl (by decide +kernel) ⟨Nat.le_of_ble_eq_true rfl, Nat.le_of_ble_eq_true rfl⟩) ⟨px_blindW, va_recv hK hP (ci := 0) (q0 := 1) rfl rfl, fun U hU hW => ⟨rfl, by rw [hU]; exact hP.sub (ws' := [(lg, .inr (0, [.ref lc, .ref lt, .int (nI k)])), (lc, .inl (cI, 36, .inl cs)), (lt, .inl (cI, 36, .inl ts))]) [1, 2, 3] rfl, va_K.moved hW.alike hK⟩⟩ rfl rfl hl.1 rfl (lv_room (Nat.le_of_ble_eq_true rfl)) dX6_undo_35 ⟨(Nat.le_of_ble_eq_true rfl), (Nat.le_of_ble_eq_true rfl)⟩) (fun r35 er35 => ?_)
    obtain rfl := er35.symm
    refine pk_b (P := ¬ ts (k - 1) = (-1)) (fun b35 => ?_) (fun b35 => ?_)
    · exact absurd ht9 b35
    · refine lv_istore_n (lv' := [(2, .int 0), (1, .int (nI (k - 1))), (0, .ref h0)]) hx hb dX6_undo_38 rfl hl (by decide) rfl (fun ls hl => ?_)
      refine lv_iload_n hx hb dX6_undo_39 rfl (lv_at hl 0 rfl) ?_
      refine lv_if_eq (tgt := 68) hx hb dX6_undo_40 (by decide) (fun c40 => ?_) (fun c40 => ?_)
      · refine lv_aload_n hx hb dX6_undo_68 rfl (lv_at hl 2 rfl) ?_
        refine va_get (D := D) (ci := 3) (v := .ref lg) (C := RX6) (T := TX6) (N := 7) hx hb hts hinX6 hown hK hP 0 rfl rfl 0 (by decide) hfl12 (fun _ h9 => h9) rfl dX6_undo_69 ?_
        refine lv_iload_n hx hb dX6_undo_72 rfl (lv_at hl 1 rfl) ?_
        refine vp_callSi (W.runV (As := [.int (nI (k - 1))]) (rest := []) ⟨hx, hb, hml, hown, hts⟩ (c_X2_cellOf l D cI cJ lg lc lt cs ts k (by omega) (k - 1) (by omega)) (cwV 1 hts gX6_undo_X2_cellOf rfl rfl rfl (by decide +kernel) ⟨Nat.le_of_ble_eq_true rfl, Nat.le_of_ble_eq_true rfl⟩) ⟨px_blindW, va_recv hK hP (ci := 0) (q0 := 1) rfl rfl, fun U hU hW => ⟨rfl, by rw [hU]; exact hP.sub (ws' := [(lg, .inr (0, [.ref lc, .ref lt, .int (nI k)])), (lc, .inl (cI, 36, .inl cs)), (lt, .inl (cI, 36, .inl ts))]) [1, 2, 3] rfl, va_K.moved hW.alike hK⟩⟩ rfl rfl hl.1 rfl (lv_room (Nat.le_of_ble_eq_true rfl)) dX6_undo_73 ⟨(Nat.le_of_ble_eq_true rfl), (Nat.le_of_ble_eq_true rfl)⟩) (fun r73 er73 => ?_)
        obtain rfl := er73.symm
        refine pk_ti (y := (nI j)) (hc9) ?_
        refine vp_callSl (W.runS (As := [.int (nI j)]) (rest := []) ⟨hx, hb, hml, hown, hts⟩ (c_X6_bitOf l (nI j)) (va_cwS 1 hts gX6_undo_X6_bitOf rfl rfl rfl (by decide +kernel) ⟨Nat.le_of_ble_eq_true rfl, Nat.le_of_ble_eq_true rfl⟩) ⟨px_blind0, fun U hU hW => ⟨rfl, trivial⟩⟩ rfl rfl hl.1 rfl (lv_room (Nat.le_of_ble_eq_true rfl)) dX6_undo_76 ⟨(Nat.le_of_ble_eq_true rfl), (Nat.le_of_ble_eq_true rfl)⟩) (fun r76 er76 => ?_)
        obtain rfl := er76.symm
        refine lv_ldc2 (v := (-1)) hx hb hown (hts (.constantLong RX6 126 (-1)) (by decide +kernel)) dX6_undo_79 ?_
        refine lv_lxor hx hb dX6_undo_82 ?_
        refine lv_topl (fun x82 ex82 => ?_)
        refine lv_lstore_n (lv' := [(3, .long x82), (2, .int 0), (1, .int (nI (k - 1))), (0, .ref h0)]) hx hb dX6_undo_83 rfl hl (by decide) rfl (fun ls hl => ?_)
        refine lv_aload_n hx hb dX6_undo_84 rfl (lv_at hl 3 rfl) ?_
        refine lv_dup hx hb dX6_undo_85 rfl ?_
        refine va_get (D := D) (ci := 3) (v := .long fa) (C := RX6) (T := TX6) (N := 7) hx hb hts hinX6 hown hK hP 0 rfl rfl 3 (by decide) hfl49 (fun _ h9 => h9) rfl dX6_undo_86 ?_
        refine lv_lload_n hx hb dX6_undo_89 rfl (lv_at hl 0 rfl) ?_
        refine lv_land hx hb dX6_undo_90 ?_
        refine lv_topl (fun x90 ex90 => ?_)
        refine va_put (D := D) (ci := 3) (v := .long x90) (ty := .long) (C := RX6) (T := TX6) (N := 7) hx hb hts hinX6 tyX6 tyX6_ok nmX6 hown hK hP hD hS 0 rfl rfl 3 (by decide) hfl49 (fun _ h9 => h9) rfl (by decide +kernel) rfl rfl (Nat.le_of_ble_eq_true rfl) dX6_undo_91 (fun H locs hP hD hS => ?_)
        have hP : va_P D vwCl [(h0, .inr (3, [.ref lg, .ref fs, .ref ps, .long x90, .long fb, .int mt, .int re])), (lg, .inr (0, [.ref lc, .ref lt, .int (nI k)])), (lc, .inl (cI, 36, .inl cs)), (lt, .inl (cI, 36, .inl ts))] H := hP
        have hD : va_D A [(h0, .inr (3, [.ref lg, .ref fs, .ref ps, .long x90, .long fb, .int mt, .int re])), (lg, .inr (0, [.ref lc, .ref lt, .int (nI k)])), (lc, .inl (cI, 36, .inl cs)), (lt, .inl (cI, 36, .inl ts))] := hD
        refine lv_aload_n hx hb dX6_undo_94 rfl (lv_at hl 3 rfl) ?_
        refine lv_dup hx hb dX6_undo_95 rfl ?_
        refine va_get (D := D) (ci := 3) (v := .long fb) (C := RX6) (T := TX6) (N := 7) hx hb hts hinX6 hown hK hP 0 rfl rfl 4 (by decide) hfl57 (fun _ h9 => h9) rfl dX6_undo_96 ?_
        refine lv_lload_n hx hb dX6_undo_99 rfl (lv_at hl 0 rfl) ?_
        refine lv_land hx hb dX6_undo_100 ?_
        refine lv_topl (fun x100 ex100 => ?_)
        refine va_put (D := D) (ci := 3) (v := .long x100) (ty := .long) (C := RX6) (T := TX6) (N := 7) hx hb hts hinX6 tyX6 tyX6_ok nmX6 hown hK hP hD hS 0 rfl rfl 4 (by decide) hfl57 (fun _ h9 => h9) rfl (by decide +kernel) rfl rfl (Nat.le_of_ble_eq_true rfl) dX6_undo_101 (fun H locs hP hD hS => ?_)
        have hP : va_P D vwCl [(h0, .inr (3, [.ref lg, .ref fs, .ref ps, .long x90, .long x100, .int mt, .int re])), (lg, .inr (0, [.ref lc, .ref lt, .int (nI k)])), (lc, .inl (cI, 36, .inl cs)), (lt, .inl (cI, 36, .inl ts))] H := hP
        have hD : va_D A [(h0, .inr (3, [.ref lg, .ref fs, .ref ps, .long x90, .long x100, .int mt, .int re])), (lg, .inr (0, [.ref lc, .ref lt, .int (nI k)])), (lc, .inl (cI, 36, .inl cs)), (lt, .inl (cI, 36, .inl ts))] := hD
        refine lv_aload_n hx hb dX6_undo_104 rfl (lv_at hl 3 rfl) ?_
        refine va_get (D := D) (ci := 3) (v := .ref lg) (C := RX6) (T := TX6) (N := 7) hx hb hts hinX6 hown hK hP 0 rfl rfl 0 (by decide) hfl12 (fun _ h9 => h9) rfl dX6_undo_105 ?_
        have hPc := hP.sub (ws' := [(lg, .inr (0, [.ref lc, .ref lt, .int (nI k)])), (lc, .inl (cI, 36, .inl cs)), (lt, .inl (cI, 36, .inl ts))]) [1, 2, 3] rfl
        have hDc := hD.sub (ws' := [(lg, .inr (0, [.ref lc, .ref lt, .int (nI k)])), (lc, .inl (cI, 36, .inl cs)), (lt, .inl (cI, 36, .inl ts))]) [1, 2, 3] (by decide) rfl
        have hFc := va_free (wc := [(lg, .inr (0, [.ref lc, .ref lt, .int (nI k)])), (lc, .inl (cI, 36, .inl cs)), (lt, .inl (cI, 36, .inl ts))]) hD hS hA [1, 2, 3] rfl
        refine va_callv (va_runV (As := []) (rest := []) ⟨hx, hb, hml, hown, hts⟩ (c_X2_dropMarble l D cI cJ H.size  lg lc lt cs ts k (by omega) (by omega)) (cwV 0 hts gX6_undo_X2_dropMarble rfl rfl rfl (by decide +kernel) ⟨Nat.le_of_ble_eq_true rfl, Nat.le_of_ble_eq_true rfl⟩) ⟨pv_blind, va_recv hK hPc (ci := 0) (q0 := 0) rfl rfl, fun U hU hW => ⟨rfl, by rw [hU], by rw [hU]; exact hPc, va_K.moved hW.alike hK, hDc.weaken (fun _ _ _ _ => trivial)⟩⟩ rfl rfl hl.1 rfl (lv_room (Nat.le_of_ble_eq_true rfl)) dX6_undo_108 ⟨(Nat.le_of_ble_eq_true rfl), (Nat.le_of_ble_eq_true rfl)⟩) hS (fun q _ h => hFc q h) hFc (fun u t9 H1 locs hth hvm hw108 hB hz1 hk1 hS => ?_)
        try dsimp only at hw108
        obtain ⟨hP1, hK1, hD1⟩ := hB
        rw [hth] at hP1
        obtain ⟨hP, hD⟩ := va_join (wr := [(h0, .inr (3, [.ref lg, .ref fs, .ref ps, .long x90, .long x100, .int mt, .int re]))]) (w1 := [(lg, .inr (0, [.ref lc, .ref lt, .int (nI (k - 1))])), (lc, .inl (cI, 36, .inl cs)), (lt, .inl (cI, 36, .inl ts))]) hP hD [1, 2, 3] [0] rfl rfl (by decide) (by decide) hk1 hFc hP1 hD1
        generalize H1 = H at hP hS ⊢
        have hP : va_P D vwCl [(h0, .inr (3, [.ref lg, .ref fs, .ref ps, .long x90, .long x100, .int mt, .int re])), (lg, .inr (0, [.ref lc, .ref lt, .int (nI (k - 1))])), (lc, .inl (cI, 36, .inl cs)), (lt, .inl (cI, 36, .inl ts))] H := hP.sub (ws' := [(h0, .inr (3, [.ref lg, .ref fs, .ref ps, .long x90, .long x100, .int mt, .int re])), (lg, .inr (0, [.ref lc, .ref lt, .int (nI (k - 1))])), (lc, .inl (cI, 36, .inl cs)), (lt, .inl (cI, 36, .inl ts))]) [0, 1, 2, 3] rfl
        have hD : va_D A [(h0, .inr (3, [.ref lg, .ref fs, .ref ps, .long x90, .long x100, .int mt, .int re])), (lg, .inr (0, [.ref lc, .ref lt, .int (nI (k - 1))])), (lc, .inl (cI, 36, .inl cs)), (lt, .inl (cI, 36, .inl ts))] := hD.sub (ws' := [(h0, .inr (3, [.ref lg, .ref fs, .ref ps, .long x90, .long x100, .int mt, .int re])), (lg, .inr (0, [.ref lc, .ref lt, .int (nI (k - 1))])), (lc, .inl (cI, 36, .inl cs)), (lt, .inl (cI, 36, .inl ts))]) [0, 1, 2, 3] (by decide) rfl
        refine lv_aload_n hx hb dX6_undo_111 rfl (lv_at hl 3 rfl) ?_
        refine lv_iload_n hx hb dX6_undo_112 rfl (lv_at hl 1 rfl) ?_
        refine va_put (D := D) (ci := 3) (v := .int 0) (ty := .boolean) (C := RX6) (T := TX6) (N := 7) hx hb hts hinX6 tyX6 tyX6_ok nmX6 hown hK hP hD hS 0 rfl rfl 5 (by decide) hfl72 (fun _ h9 => h9) rfl (by decide +kernel) rfl rfl (Nat.le_of_ble_eq_true rfl) dX6_undo_113 (fun H locs hP hD hS => ?_)
        have hP : va_P D vwCl [(h0, .inr (3, [.ref lg, .ref fs, .ref ps, .long x90, .long x100, .int 0, .int re])), (lg, .inr (0, [.ref lc, .ref lt, .int (nI (k - 1))])), (lc, .inl (cI, 36, .inl cs)), (lt, .inl (cI, 36, .inl ts))] H := hP
        have hD : va_D A [(h0, .inr (3, [.ref lg, .ref fs, .ref ps, .long x90, .long x100, .int 0, .int re])), (lg, .inr (0, [.ref lc, .ref lt, .int (nI (k - 1))])), (lc, .inl (cI, 36, .inl cs)), (lt, .inl (cI, 36, .inl ts))] := hD
        refine lv_aload_n hx hb dX6_undo_116 rfl (lv_at hl 3 rfl) ?_
        refine lv_iconst (v := 0) hx hb dX6_undo_117 (by decide) ?_
        refine va_put (D := D) (ci := 3) (v := .int 0) (ty := .int) (C := RX6) (T := TX6) (N := 7) hx hb hts hinX6 tyX6 tyX6_ok nmX6 hown hK hP hD hS 0 rfl rfl 6 (by decide) hfl31 (fun _ h9 => h9) rfl (by decide +kernel) rfl rfl (Nat.le_of_ble_eq_true rfl) dX6_undo_118 (fun H locs hP hD hS => ?_)
        have hP : va_P D vwCl [(h0, .inr (3, [.ref lg, .ref fs, .ref ps, .long x90, .long x100, .int 0, .int 0])), (lg, .inr (0, [.ref lc, .ref lt, .int (nI (k - 1))])), (lc, .inl (cI, 36, .inl cs)), (lt, .inl (cI, 36, .inl ts))] H := hP
        have hD : va_D A [(h0, .inr (3, [.ref lg, .ref fs, .ref ps, .long x90, .long x100, .int 0, .int 0])), (lg, .inr (0, [.ref lc, .ref lt, .int (nI (k - 1))])), (lc, .inl (cI, 36, .inl cs)), (lt, .inl (cI, 36, .inl ts))] := hD
        refine lv_iload_n hx hb dX6_undo_121 rfl (lv_at hl 1 rfl) ?_
        obtain rfl := ex82.symm; obtain rfl := ex90.symm; obtain rfl := ex100.symm
        refine W.zret (v := 0) hx hb hr (rfl) (fun tt ht hW => ⟨⟨0, (), rfl, ?_, by rw [ht]; exact hP, va_K.moved hW.alike hK, hD⟩, hS.F ht⟩) hS.2.2 dX6_undo_122
        exact rfl
      · exact absurd c40 (by decide)
  · have c7 : k = 0 := (nq_eq (a := k) (b := 0) (by omega) (by omega)).mp c7
    omega

set_option maxHeartbeats 400000 in
set_option maxRecDepth 100000 in
theorem c_X6_undo_bad (l : Launch) (hltr : l.stackTraces = false) (D : va_G) (cI cJ : ClassId) (sz : Nat) (h0 lg lc lt fs ps : Nat) (fa fb : Int64) (mt re : Int32) (cs ts : Nat → Int32)  : vx_Met l yX6_undo wsX6_undo ({ frames := 6, cells := 1, slots := 6, locals := 90 } : Room) (va_Pc [.ref h0] (px_X (va_A [(h0, .inr (3, [.ref lg, .ref fs, .ref ps, .long fa, .long fb, .int mt, .int re])), (lg, .inr (0, [.ref lc, .ref lt, .int 0])), (lc, .inl (cI, 36, .inl cs)), (lt, .inl (cI, 36, .inl ts))] sz) (pv_C D cI cJ [(h0, .inr (3, [.ref lg, .ref fs, .ref ps, .long fa, .long fb, .int mt, .int re])), (lg, .inr (0, [.ref lc, .ref lt, .int 0])), (lc, .inl (cI, 36, .inl cs)), (lt, .inl (cI, 36, .inl ts))] sz))) (va_Qi (fun (r : Int32) (u : Unit) => False) (fun (u : Unit) => pv_B D cI cJ (va_A [(h0, .inr (3, [.ref lg, .ref fs, .ref ps, .long fa, .long fb, .int mt, .int re])), (lg, .inr (0, [.ref lc, .ref lt, .int 0])), (lc, .inl (cI, 36, .inl cs)), (lt, .inl (cI, 36, .inl ts))] sz) [(h0, .inr (3, [.ref lg, .ref fs, .ref ps, .long fa, .long fb, .int mt, .int re])), (lg, .inr (0, [.ref lc, .ref lt, .int 0])), (lc, .inl (cI, 36, .inl cs)), (lt, .inl (cI, 36, .inl ts))]) (va_A [(h0, .inr (3, [.ref lg, .ref fs, .ref ps, .long fa, .long fb, .int mt, .int re])), (lg, .inr (0, [.ref lc, .ref lt, .int 0])), (lc, .inl (cI, 36, .inl cs)), (lt, .inl (cI, 36, .inl ts))] sz)) (vx_X (fun (_ : Unit) => True) (fun (E : String) (_ : Unit) (tt : State) => (E = nISE) ∧ pv_B D cI cJ (va_A [(h0, .inr (3, [.ref lg, .ref fs, .ref ps, .long fa, .long fb, .int mt, .int re])), (lg, .inr (0, [.ref lc, .ref lt, .int 0])), (lc, .inl (cI, 36, .inl cs)), (lt, .inl (cI, 36, .inl ts))] sz) [(h0, .inr (3, [.ref lg, .ref fs, .ref ps, .long fa, .long fb, .int mt, .int re])), (lg, .inr (0, [.ref lc, .ref lt, .int 0])), (lc, .inl (cI, 36, .inl cs)), (lt, .inl (cI, 36, .inl ts))] tt) (va_A [(h0, .inr (3, [.ref lg, .ref fs, .ref ps, .long fa, .long fb, .int mt, .int re])), (lg, .inr (0, [.ref lc, .ref lt, .int 0])), (lc, .inl (cI, 36, .inl cs)), (lt, .inl (cI, 36, .inl ts))] sz)) 1 6 (va_A [(h0, .inr (3, [.ref lg, .ref fs, .ref ps, .long fa, .long fb, .int mt, .int re])), (lg, .inr (0, [.ref lc, .ref lt, .int 0])), (lc, .inl (cI, 36, .inl cs)), (lt, .inl (cI, 36, .inl ts))] sz) := by
  refine vx_ofW (cc := cX6_undo) (maxL := 5) (ret := (some .boolean)) (by decide) rfl ?_
  intro p e s m args below meth c s₁ B hml htab hv
  obtain ⟨rfl, hEX, hZ, rfl, hP, hK, hD0⟩ := hv
  have hx := B.exec
  have hb := B.bytes
  have hr := B.returns
  have hts := atoms_spec (ws := wsX6_undo) B.pre
  have hown : s.vm.findClass RX6 = some m.cls := findClass_of_methodNamed B.named
  have hlocks := B.notSynchronized
  have hD := hD0.self (sz := s.heap.size)
  generalize hAe : va_A [(h0, .inr (3, [.ref lg, .ref fs, .ref ps, .long fa, .long fb, .int mt, .int re])), (lg, .inr (0, [.ref lc, .ref lt, .int 0])), (lc, .inl (cI, 36, .inl cs)), (lt, .inl (cI, 36, .inl ts))] s.heap.size = A at hD hZ ⊢
  have hA : ∀ q : Nat, s.heap.size ≤ q → A q := fun q h => by rw [← hAe]; exact Or.inr h
  have hS : va_S A s.heap s.heap [] := va_S.rf
  have hinX6 : ∀ w ∈ wsX60, w ∈ wsX6_undo := by decide +kernel
  have hfl12 : (Cond.fieldLink RX6 12 "Twistquad" "log" "LTwistquad$MoveLog;").before ([.ref h0] : List Value).toArray s = true := hts _ (by decide +kernel)
  have hl := lv_entry ([.ref h0]) (n := 5) (Nat.le_of_ble_eq_true rfl)
  rw [lg_entry_eq]
  generalize (lg_sl ([.ref h0]) ++ List.replicate (5 - (lg_sl ([.ref h0])).length) Slot.unset).toArray = ls at hl ⊢
  have hl : lv_has ls 5 [(0, .ref h0)] := hl
  refine lv_aload_n hx hb dX6_undo_0 rfl (lv_at hl 0 rfl) ?_
  refine va_get (D := D) (ci := 3) (v := .ref lg) (C := RX6) (T := TX6) (N := 7) hx hb hts hinX6 hown hK hP 0 rfl rfl 0 (by decide) hfl12 (fun _ h9 => h9) rfl dX6_undo_1 ?_
  refine vp_callSi (W.runV (As := []) (rest := []) ⟨hx, hb, hml, hown, hts⟩ (c_X2_count l D cI cJ lg lc lt cs ts 0 (by omega) ) (cwV 0 hts gX6_undo_X2_count rfl rfl rfl (by decide +kernel) ⟨Nat.le_of_ble_eq_true rfl, Nat.le_of_ble_eq_true rfl⟩) ⟨px_blindW, va_recv hK hP (ci := 0) (q0 := 1) rfl rfl, fun U hU hW => ⟨rfl, by rw [hU]; exact hP.sub (ws' := [(lg, .inr (0, [.ref lc, .ref lt, .int 0])), (lc, .inl (cI, 36, .inl cs)), (lt, .inl (cI, 36, .inl ts))]) [1, 2, 3] rfl, va_K.moved hW.alike hK⟩⟩ rfl rfl hl.1 rfl (lv_room (Nat.le_of_ble_eq_true rfl)) dX6_undo_4 ⟨(Nat.le_of_ble_eq_true rfl), (Nat.le_of_ble_eq_true rfl)⟩) (fun r4 er4 => ?_)
  obtain rfl := er4.symm
  refine lv_if_ne (tgt := 20) hx hb dX6_undo_7 (by decide) (fun c7 => ?_) (fun c7 => ?_)
  · have c7 : ¬ 0 = 0 := _root_.mt (nq_eq (a := 0) (b := 0) (by omega) (by omega)).mpr c7
    omega
  · have c7 : 0 = 0 := (nq_eq (a := 0) (b := 0) (by omega) (by omega)).mp c7
    obtain ⟨sa, hstr⟩ := hEX.1 (105, "nothing was done") (by unfold xstrs; simp)
    have hmem9 : ∀ w ∈ (vx_atS RX6 86 nISE ["java/lang/RuntimeException", "java/lang/Exception"]).filter goodWord, w ∈ wsX6_undo := fun w h => by first | exact List.mem_cons_of_mem _ (List.mem_append_right _ h) | exact List.mem_cons_of_mem _ (List.mem_append_left _ (List.mem_append_right _ h)) | exact List.mem_cons_of_mem _ (List.mem_append_left _ (List.mem_append_left _ (List.mem_append_right _ h)))
    refine vx_throwS (own := RX6) (cls := nISE) (text := "nothing was done") (names := ["java/lang/RuntimeException", "java/lang/Exception"]) (ik := 82) (is := 105) (ic := 86) hx hb hltr hown (by decide +kernel) (by decide +kernel) (hts _ (by decide +kernel)) (hts _ (by decide +kernel)) hstr (vx_hat (fun w h => hts w (hmem9 w h)) vx_nong_ISE (vx_c (va_Nw.use rfl hEX.2.2.1) (vx_c (va_Nw.use rfl hEX.2.2.2.2.1) (vx_c (va_Nw.use rfl hEX.2.2.2.2.2.1) (vx_c (va_Nw.use rfl hEX.2.2.2.2.2.2) vx_n))))) vx_ot_ISE hZ.1 hZ.2 hS (hl.1.trans hml.symm) dX6_undo_10 dX6_undo_13 dX6_undo_14 dX6_undo_16 dX6_undo_19 (fun x h => (htab x h).elim) (by decide) (Nat.le_of_ble_eq_true rfl) (Nat.le_of_ble_eq_true rfl) (Nat.le_of_ble_eq_true rfl) hlocks (fun tt hvm hz hk => ⟨(), trivial, ⟨rfl, px_P hP hk, va_K.moved hvm hK, hD⟩, px_F hS hz hk⟩) hS.2.2 (Nat.le_of_ble_eq_true rfl) (Nat.le_of_ble_eq_true rfl)

set_option maxHeartbeats 400000 in
set_option maxRecDepth 100000 in
theorem c_X6_lay (l : Launch) (hltr : l.stackTraces = false) (D : va_G) (cI cJ : ClassId) (sz : Nat) (h0 lg lc lt fs ps : Nat) (fa fb : Int64) (mt re : Int32) (cs ts : Nat → Int32) (k : Nat) (hk : k ≤ 36) (f9 g9 : Int64) : vx_Met l yX6_lay wsX6_lay ({ frames := 7, cells := 1, slots := 6, locals := 114 } : Room) (va_Pc [.ref h0, .long f9, .long g9] (px_X (va_A [(h0, .inr (3, [.ref lg, .ref fs, .ref ps, .long fa, .long fb, .int mt, .int re])), (lg, .inr (0, [.ref lc, .ref lt, .int (nI k)])), (lc, .inl (cI, 36, .inl cs)), (lt, .inl (cI, 36, .inl ts))] sz) (pv_C D cI cJ [(h0, .inr (3, [.ref lg, .ref fs, .ref ps, .long fa, .long fb, .int mt, .int re])), (lg, .inr (0, [.ref lc, .ref lt, .int (nI k)])), (lc, .inl (cI, 36, .inl cs)), (lt, .inl (cI, 36, .inl ts))] sz))) (va_Qi (fun (r : Int32) (u : Unit) => iboard f9 g9 ∧ r = cjudge f9 g9) (fun (u : Unit) => pv_B D cI cJ (va_A [(h0, .inr (3, [.ref lg, .ref fs, .ref ps, .long fa, .long fb, .int mt, .int re])), (lg, .inr (0, [.ref lc, .ref lt, .int (nI k)])), (lc, .inl (cI, 36, .inl cs)), (lt, .inl (cI, 36, .inl ts))] sz) [(h0, .inr (3, [.ref lg, .ref fs, .ref ps, .long f9, .long g9, .int 0, .int (cjudge f9 g9)])), (lg, .inr (0, [.ref lc, .ref lt, .int 0])), (lc, .inl (cI, 36, .inl cs)), (lt, .inl (cI, 36, .inl ts))]) (va_A [(h0, .inr (3, [.ref lg, .ref fs, .ref ps, .long fa, .long fb, .int mt, .int re])), (lg, .inr (0, [.ref lc, .ref lt, .int (nI k)])), (lc, .inl (cI, 36, .inl cs)), (lt, .inl (cI, 36, .inl ts))] sz)) (vx_X (fun (_ : Unit) => True) (fun (E : String) (_ : Unit) (tt : State) => (E = nIAE ∧ ¬ iboard f9 g9) ∧ pv_B D cI cJ (va_A [(h0, .inr (3, [.ref lg, .ref fs, .ref ps, .long fa, .long fb, .int mt, .int re])), (lg, .inr (0, [.ref lc, .ref lt, .int (nI k)])), (lc, .inl (cI, 36, .inl cs)), (lt, .inl (cI, 36, .inl ts))] sz) [(h0, .inr (3, [.ref lg, .ref fs, .ref ps, .long fa, .long fb, .int mt, .int re])), (lg, .inr (0, [.ref lc, .ref lt, .int (nI k)])), (lc, .inl (cI, 36, .inl cs)), (lt, .inl (cI, 36, .inl ts))] tt) (va_A [(h0, .inr (3, [.ref lg, .ref fs, .ref ps, .long fa, .long fb, .int mt, .int re])), (lg, .inr (0, [.ref lc, .ref lt, .int (nI k)])), (lc, .inl (cI, 36, .inl cs)), (lt, .inl (cI, 36, .inl ts))] sz)) 1 6 (va_A [(h0, .inr (3, [.ref lg, .ref fs, .ref ps, .long fa, .long fb, .int mt, .int re])), (lg, .inr (0, [.ref lc, .ref lt, .int (nI k)])), (lc, .inl (cI, 36, .inl cs)), (lt, .inl (cI, 36, .inl ts))] sz) := by
  refine vx_ofW (cc := cX6_lay) (maxL := 5) (ret := (some .int)) (by decide) rfl ?_
  intro p e s m args below meth c s₁ B hml htab hv
  obtain ⟨rfl, hEX, hZ, rfl, hP, hK, hD0⟩ := hv
  have hx := B.exec
  have hb := B.bytes
  have hr := B.returns
  have hts := atoms_spec (ws := wsX6_lay) B.pre
  have hown : s.vm.findClass RX6 = some m.cls := findClass_of_methodNamed B.named
  have hlocks := B.notSynchronized
  have hD := hD0.self (sz := s.heap.size)
  generalize hAe : va_A [(h0, .inr (3, [.ref lg, .ref fs, .ref ps, .long fa, .long fb, .int mt, .int re])), (lg, .inr (0, [.ref lc, .ref lt, .int (nI k)])), (lc, .inl (cI, 36, .inl cs)), (lt, .inl (cI, 36, .inl ts))] s.heap.size = A at hD hZ ⊢
  have hA : ∀ q : Nat, s.heap.size ≤ q → A q := fun q h => by rw [← hAe]; exact Or.inr h
  have hS : va_S A s.heap s.heap [] := va_S.rf
  have hinX6 : ∀ w ∈ wsX60, w ∈ wsX6_lay := by decide +kernel
  have hfl49 : (Cond.fieldLink RX6 49 "Twistquad" "first" "J").before ([.ref h0, .long f9, .long g9] : List Value).toArray s = true := hts _ (by decide +kernel)
  have hfl57 : (Cond.fieldLink RX6 57 "Twistquad" "second" "J").before ([.ref h0, .long f9, .long g9] : List Value).toArray s = true := hts _ (by decide +kernel)
  have hfl12 : (Cond.fieldLink RX6 12 "Twistquad" "log" "LTwistquad$MoveLog;").before ([.ref h0, .long f9, .long g9] : List Value).toArray s = true := hts _ (by decide +kernel)
  have hfl72 : (Cond.fieldLink RX6 72 "Twistquad" "mustTurn" "Z").before ([.ref h0, .long f9, .long g9] : List Value).toArray s = true := hts _ (by decide +kernel)
  have hfl31 : (Cond.fieldLink RX6 31 "Twistquad" "result" "I").before ([.ref h0, .long f9, .long g9] : List Value).toArray s = true := hts _ (by decide +kernel)
  have hl := lv_entry ([.ref h0, .long f9, .long g9]) (n := 5) (Nat.le_of_ble_eq_true rfl)
  rw [lg_entry_eq]
  generalize (lg_sl ([.ref h0, .long f9, .long g9]) ++ List.replicate (5 - (lg_sl ([.ref h0, .long f9, .long g9])).length) Slot.unset).toArray = ls at hl ⊢
  have hl : lv_has ls 5 [(0, .ref h0), (1, .long f9), (3, .long g9)] := hl
  refine lv_lload_n hx hb dX6_lay_0 rfl (lv_at hl 1 rfl) ?_
  refine lv_lload_n hx hb dX6_lay_1 rfl (lv_at hl 2 rfl) ?_
  have hPc : va_P D vwCl [] s.heap := hP.sub (ws' := []) [] rfl
  have hDc : va_D A [] := hD.sub (ws' := []) [] (by decide) rfl
  have hFc := va_free (wc := []) hD hS hA [] rfl
  refine vx_callv (vx_runS (As := [.long f9, .long g9]) (rest := []) ⟨hx, hb, hml, hown, hts⟩ (c_X6_requireBoard l hltr D cI cJ s.heap.size f9 g9) (va_cwS 2 hts gX6_lay_X6_requireBoard rfl rfl rfl (by decide +kernel) ⟨Nat.le_of_ble_eq_true rfl, Nat.le_of_ble_eq_true rfl⟩) ⟨(px_blindX pv_blind), fun U hU hW => ⟨rfl, hEX.warm hW, by rw [hU]; exact hZ.to hS hW.alike hFc, by rw [hU], by rw [hU]; exact hPc, va_K.moved hW.alike hK, hDc.weaken (fun _ _ _ _ => trivial)⟩⟩ rfl rfl hl.1 rfl (lv_room (Nat.le_of_ble_eq_true rfl)) dX6_lay_2 ⟨(Nat.le_of_ble_eq_true rfl), (Nat.le_of_ble_eq_true rfl)⟩) hS (fun q _ h => hFc q h) hFc (fun q _ h => hFc q h) (fun E ce q9 u9 t9 H1 locs hth hvm hpx hB9 hz1 hk1 hS hce hcv hcl => ?_) (fun u t9 H1 locs hth hvm hw2 hB9 hz1 hk1 hS => ?_)
  · obtain ⟨hb9, hP1, hK1, hD1⟩ := hB9
    rw [hth] at hP1
    obtain ⟨hP, hD⟩ := va_join (wr := [(h0, .inr (3, [.ref lg, .ref fs, .ref ps, .long fa, .long fb, .int mt, .int re])), (lg, .inr (0, [.ref lc, .ref lt, .int (nI k)])), (lc, .inl (cI, 36, .inl cs)), (lt, .inl (cI, 36, .inl ts))]) (w1 := []) hP hD [] [0, 1, 2, 3] rfl rfl (by decide) (by decide) hk1 hFc hP1 hD1
    have hP : va_P D vwCl [(h0, .inr (3, [.ref lg, .ref fs, .ref ps, .long fa, .long fb, .int mt, .int re])), (lg, .inr (0, [.ref lc, .ref lt, .int (nI k)])), (lc, .inl (cI, 36, .inl cs)), (lt, .inl (cI, 36, .inl ts))] H1 := hP.sub (ws' := [(h0, .inr (3, [.ref lg, .ref fs, .ref ps, .long fa, .long fb, .int mt, .int re])), (lg, .inr (0, [.ref lc, .ref lt, .int (nI k)])), (lc, .inl (cI, 36, .inl cs)), (lt, .inl (cI, 36, .inl ts))]) [0, 1, 2, 3] rfl
    have hD : va_D A [(h0, .inr (3, [.ref lg, .ref fs, .ref ps, .long fa, .long fb, .int mt, .int re])), (lg, .inr (0, [.ref lc, .ref lt, .int (nI k)])), (lc, .inl (cI, 36, .inl cs)), (lt, .inl (cI, 36, .inl ts))] := hD.sub (ws' := [(h0, .inr (3, [.ref lg, .ref fs, .ref ps, .long fa, .long fb, .int mt, .int re])), (lg, .inr (0, [.ref lc, .ref lt, .int (nI k)])), (lc, .inl (cI, 36, .inl cs)), (lt, .inl (cI, 36, .inl ts))]) [0, 1, 2, 3] (by decide) rfl
    exact vx_out (fun x h => (htab x h).elim) hlocks hce hcv hcl (fun tt htt hvt => ⟨(), trivial, ⟨hb9, by rw [htt]; exact hP, va_K.moved hvt hK, hD⟩, hS.F htt⟩) hS.2.2 (Nat.le_of_ble_eq_true rfl) (Nat.le_of_ble_eq_true rfl)
  · try dsimp only at hw2
    obtain ⟨hP1, hK1, hD1⟩ := hB9
    rw [hth] at hP1
    obtain ⟨hP, hD⟩ := va_join (wr := [(h0, .inr (3, [.ref lg, .ref fs, .ref ps, .long fa, .long fb, .int mt, .int re])), (lg, .inr (0, [.ref lc, .ref lt, .int (nI k)])), (lc, .inl (cI, 36, .inl cs)), (lt, .inl (cI, 36, .inl ts))]) (w1 := []) hP hD [] [0, 1, 2, 3] rfl rfl (by decide) (by decide) hk1 hFc hP1 hD1
    generalize H1 = H at hP hS ⊢
    have hP : va_P D vwCl [(h0, .inr (3, [.ref lg, .ref fs, .ref ps, .long fa, .long fb, .int mt, .int re])), (lg, .inr (0, [.ref lc, .ref lt, .int (nI k)])), (lc, .inl (cI, 36, .inl cs)), (lt, .inl (cI, 36, .inl ts))] H := hP.sub (ws' := [(h0, .inr (3, [.ref lg, .ref fs, .ref ps, .long fa, .long fb, .int mt, .int re])), (lg, .inr (0, [.ref lc, .ref lt, .int (nI k)])), (lc, .inl (cI, 36, .inl cs)), (lt, .inl (cI, 36, .inl ts))]) [0, 1, 2, 3] rfl
    have hD : va_D A [(h0, .inr (3, [.ref lg, .ref fs, .ref ps, .long fa, .long fb, .int mt, .int re])), (lg, .inr (0, [.ref lc, .ref lt, .int (nI k)])), (lc, .inl (cI, 36, .inl cs)), (lt, .inl (cI, 36, .inl ts))] := hD.sub (ws' := [(h0, .inr (3, [.ref lg, .ref fs, .ref ps, .long fa, .long fb, .int mt, .int re])), (lg, .inr (0, [.ref lc, .ref lt, .int (nI k)])), (lc, .inl (cI, 36, .inl cs)), (lt, .inl (cI, 36, .inl ts))]) [0, 1, 2, 3] (by decide) rfl
    refine lv_aload_n hx hb dX6_lay_5 rfl (lv_at hl 0 rfl) ?_
    refine lv_lload_n hx hb dX6_lay_6 rfl (lv_at hl 1 rfl) ?_
    refine va_put (D := D) (ci := 3) (v := .long f9) (ty := .long) (C := RX6) (T := TX6) (N := 7) hx hb hts hinX6 tyX6 tyX6_ok nmX6 hown hK hP hD hS 0 rfl rfl 3 (by decide) hfl49 (fun _ h9 => h9) rfl (by decide +kernel) rfl rfl (Nat.le_of_ble_eq_true rfl) dX6_lay_7 (fun H locs hP hD hS => ?_)
    have hP : va_P D vwCl [(h0, .inr (3, [.ref lg, .ref fs, .ref ps, .long f9, .long fb, .int mt, .int re])), (lg, .inr (0, [.ref lc, .ref lt, .int (nI k)])), (lc, .inl (cI, 36, .inl cs)), (lt, .inl (cI, 36, .inl ts))] H := hP
    have hD : va_D A [(h0, .inr (3, [.ref lg, .ref fs, .ref ps, .long f9, .long fb, .int mt, .int re])), (lg, .inr (0, [.ref lc, .ref lt, .int (nI k)])), (lc, .inl (cI, 36, .inl cs)), (lt, .inl (cI, 36, .inl ts))] := hD
    refine lv_aload_n hx hb dX6_lay_10 rfl (lv_at hl 0 rfl) ?_
    refine lv_lload_n hx hb dX6_lay_11 rfl (lv_at hl 2 rfl) ?_
    refine va_put (D := D) (ci := 3) (v := .long g9) (ty := .long) (C := RX6) (T := TX6) (N := 7) hx hb hts hinX6 tyX6 tyX6_ok nmX6 hown hK hP hD hS 0 rfl rfl 4 (by decide) hfl57 (fun _ h9 => h9) rfl (by decide +kernel) rfl rfl (Nat.le_of_ble_eq_true rfl) dX6_lay_12 (fun H locs hP hD hS => ?_)
    have hP : va_P D vwCl [(h0, .inr (3, [.ref lg, .ref fs, .ref ps, .long f9, .long g9, .int mt, .int re])), (lg, .inr (0, [.ref lc, .ref lt, .int (nI k)])), (lc, .inl (cI, 36, .inl cs)), (lt, .inl (cI, 36, .inl ts))] H := hP
    have hD : va_D A [(h0, .inr (3, [.ref lg, .ref fs, .ref ps, .long f9, .long g9, .int mt, .int re])), (lg, .inr (0, [.ref lc, .ref lt, .int (nI k)])), (lc, .inl (cI, 36, .inl cs)), (lt, .inl (cI, 36, .inl ts))] := hD
    refine lv_aload_n hx hb dX6_lay_15 rfl (lv_at hl 0 rfl) ?_
    refine va_get (D := D) (ci := 3) (v := .ref lg) (C := RX6) (T := TX6) (N := 7) hx hb hts hinX6 hown hK hP 0 rfl rfl 0 (by decide) hfl12 (fun _ h9 => h9) rfl dX6_lay_16 ?_
    have hPc := hP.sub (ws' := [(lg, .inr (0, [.ref lc, .ref lt, .int (nI k)])), (lc, .inl (cI, 36, .inl cs)), (lt, .inl (cI, 36, .inl ts))]) [1, 2, 3] rfl
    have hDc := hD.sub (ws' := [(lg, .inr (0, [.ref lc, .ref lt, .int (nI k)])), (lc, .inl (cI, 36, .inl cs)), (lt, .inl (cI, 36, .inl ts))]) [1, 2, 3] (by decide) rfl
    have hFc := va_free (wc := [(lg, .inr (0, [.ref lc, .ref lt, .int (nI k)])), (lc, .inl (cI, 36, .inl cs)), (lt, .inl (cI, 36, .inl ts))]) hD hS hA [1, 2, 3] rfl
    refine va_callv (va_runV (As := []) (rest := []) ⟨hx, hb, hml, hown, hts⟩ (c_X2_clear l D cI cJ H.size  lg lc lt cs ts k (by omega) ) (cwV 0 hts gX6_lay_X2_clear rfl rfl rfl (by decide +kernel) ⟨Nat.le_of_ble_eq_true rfl, Nat.le_of_ble_eq_true rfl⟩) ⟨pv_blind, va_recv hK hPc (ci := 0) (q0 := 0) rfl rfl, fun U hU hW => ⟨rfl, by rw [hU], by rw [hU]; exact hPc, va_K.moved hW.alike hK, hDc.weaken (fun _ _ _ _ => trivial)⟩⟩ rfl rfl hl.1 rfl (lv_room (Nat.le_of_ble_eq_true rfl)) dX6_lay_19 ⟨(Nat.le_of_ble_eq_true rfl), (Nat.le_of_ble_eq_true rfl)⟩) hS (fun q _ h => hFc q h) hFc (fun u t9 H1 locs hth hvm hw19 hB hz1 hk1 hS => ?_)
    try dsimp only at hw19
    obtain ⟨hP1, hK1, hD1⟩ := hB
    rw [hth] at hP1
    obtain ⟨hP, hD⟩ := va_join (wr := [(h0, .inr (3, [.ref lg, .ref fs, .ref ps, .long f9, .long g9, .int mt, .int re]))]) (w1 := [(lg, .inr (0, [.ref lc, .ref lt, .int 0])), (lc, .inl (cI, 36, .inl cs)), (lt, .inl (cI, 36, .inl ts))]) hP hD [1, 2, 3] [0] rfl rfl (by decide) (by decide) hk1 hFc hP1 hD1
    generalize H1 = H at hP hS ⊢
    have hP : va_P D vwCl [(h0, .inr (3, [.ref lg, .ref fs, .ref ps, .long f9, .long g9, .int mt, .int re])), (lg, .inr (0, [.ref lc, .ref lt, .int 0])), (lc, .inl (cI, 36, .inl cs)), (lt, .inl (cI, 36, .inl ts))] H := hP.sub (ws' := [(h0, .inr (3, [.ref lg, .ref fs, .ref ps, .long f9, .long g9, .int mt, .int re])), (lg, .inr (0, [.ref lc, .ref lt, .int 0])), (lc, .inl (cI, 36, .inl cs)), (lt, .inl (cI, 36, .inl ts))]) [0, 1, 2, 3] rfl
    have hD : va_D A [(h0, .inr (3, [.ref lg, .ref fs, .ref ps, .long f9, .long g9, .int mt, .int re])), (lg, .inr (0, [.ref lc, .ref lt, .int 0])), (lc, .inl (cI, 36, .inl cs)), (lt, .inl (cI, 36, .inl ts))] := hD.sub (ws' := [(h0, .inr (3, [.ref lg, .ref fs, .ref ps, .long f9, .long g9, .int mt, .int re])), (lg, .inr (0, [.ref lc, .ref lt, .int 0])), (lc, .inl (cI, 36, .inl cs)), (lt, .inl (cI, 36, .inl ts))]) [0, 1, 2, 3] (by decide) rfl
    refine lv_aload_n hx hb dX6_lay_22 rfl (lv_at hl 0 rfl) ?_
    refine lv_iconst (v := 0) hx hb dX6_lay_23 (by decide) ?_
    refine va_put (D := D) (ci := 3) (v := .int 0) (ty := .boolean) (C := RX6) (T := TX6) (N := 7) hx hb hts hinX6 tyX6 tyX6_ok nmX6 hown hK hP hD hS 0 rfl rfl 5 (by decide) hfl72 (fun _ h9 => h9) rfl (by decide +kernel) rfl rfl (Nat.le_of_ble_eq_true rfl) dX6_lay_24 (fun H locs hP hD hS => ?_)
    have hP : va_P D vwCl [(h0, .inr (3, [.ref lg, .ref fs, .ref ps, .long f9, .long g9, .int 0, .int re])), (lg, .inr (0, [.ref lc, .ref lt, .int 0])), (lc, .inl (cI, 36, .inl cs)), (lt, .inl (cI, 36, .inl ts))] H := hP
    have hD : va_D A [(h0, .inr (3, [.ref lg, .ref fs, .ref ps, .long f9, .long g9, .int 0, .int re])), (lg, .inr (0, [.ref lc, .ref lt, .int 0])), (lc, .inl (cI, 36, .inl cs)), (lt, .inl (cI, 36, .inl ts))] := hD
    refine lv_aload_n hx hb dX6_lay_27 rfl (lv_at hl 0 rfl) ?_
    refine lv_aload_n hx hb dX6_lay_28 rfl (lv_at hl 0 rfl) ?_
    refine vp_callSi (W.runV (As := []) (rest := [.ref h0]) ⟨hx, hb, hml, hown, hts⟩ (c_X6_resultBehindTurn l D cI cJ h0 lg fs ps f9 g9 0 re ) (cwV 0 hts gX6_lay_X6_resultBehindTurn rfl rfl rfl (by decide +kernel) ⟨Nat.le_of_ble_eq_true rfl, Nat.le_of_ble_eq_true rfl⟩) ⟨px_blindW, va_recv hK hP (ci := 3) (q0 := 0) rfl rfl, fun U hU hW => ⟨rfl, by rw [hU]; exact hP.sub (ws' := [(h0, .inr (3, [.ref lg, .ref fs, .ref ps, .long f9, .long g9, .int 0, .int re]))]) [0] rfl, va_K.moved hW.alike hK⟩⟩ rfl rfl hl.1 rfl (lv_room (Nat.le_of_ble_eq_true rfl)) dX6_lay_29 ⟨(Nat.le_of_ble_eq_true rfl), (Nat.le_of_ble_eq_true rfl)⟩) (fun r29 er29 => ?_)
    obtain rfl := er29.symm
    refine va_put (D := D) (ci := 3) (v := .int (cjudge f9 g9)) (ty := .int) (C := RX6) (T := TX6) (N := 7) hx hb hts hinX6 tyX6 tyX6_ok nmX6 hown hK hP hD hS 0 rfl rfl 6 (by decide) hfl31 (fun _ h9 => h9) rfl (by decide +kernel) rfl rfl (Nat.le_of_ble_eq_true rfl) dX6_lay_32 (fun H locs hP hD hS => ?_)
    have hP : va_P D vwCl [(h0, .inr (3, [.ref lg, .ref fs, .ref ps, .long f9, .long g9, .int 0, .int (cjudge f9 g9)])), (lg, .inr (0, [.ref lc, .ref lt, .int 0])), (lc, .inl (cI, 36, .inl cs)), (lt, .inl (cI, 36, .inl ts))] H := hP
    have hD : va_D A [(h0, .inr (3, [.ref lg, .ref fs, .ref ps, .long f9, .long g9, .int 0, .int (cjudge f9 g9)])), (lg, .inr (0, [.ref lc, .ref lt, .int 0])), (lc, .inl (cI, 36, .inl cs)), (lt, .inl (cI, 36, .inl ts))] := hD
    refine lv_aload_n hx hb dX6_lay_35 rfl (lv_at hl 0 rfl) ?_
    refine va_get (D := D) (ci := 3) (v := .int (cjudge f9 g9)) (C := RX6) (T := TX6) (N := 7) hx hb hts hinX6 hown hK hP 0 rfl rfl 6 (by decide) hfl31 (fun _ h9 => h9) rfl dX6_lay_36 ?_
    refine vx_ret ?_
    refine W.widen (k := 1) (n := 6) (Nat.le_of_ble_eq_true rfl) (Nat.le_of_ble_eq_true rfl) ?_
    refine W.iret (v := (cjudge f9 g9)) hx hb hr (fun tt ht hW => ⟨⟨(cjudge f9 g9), (), rfl, ?_, by rw [ht]; exact hP, va_K.moved hW.alike hK, hD⟩, hS.F ht⟩) hS.2.2 dX6_lay_39
    exact ⟨hw2, rfl⟩
