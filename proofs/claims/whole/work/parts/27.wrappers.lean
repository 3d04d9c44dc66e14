set_option maxHeartbeats 400000 in
theorem c_X6_bestMove_0 (l : Launch) (hltr : l.stackTraces = false) (D : va_G) (cI cJ : ClassId) (sz : Nat) (h0 lg fs ps vt vf vv : Nat) (fa fb : Int64) (re : Int32) (fm : Nat → Int64) (vl : Nat → Int32) (hT : TI fm vl)  (hpos : re = 0 → 0 < pop (cempty fa fb)) (hB : re = 0 → BV (pop (cempty fa fb)) (cown fa fb 0) (coth fa fb 0)) : vx_Met l yX6_bestMove wsX6_bestMove ({ frames := 16, cells := 1, slots := 6, locals := 465 } : Room) (va_Pc [.ref h0] (px_E (px_X (va_A [(h0, .inr (3, [.ref lg, .ref fs, .ref ps, .long fa, .long fb, .int 0, .int re])), (fs, .inr (1, [.ref vt])), (vt, .inr (2, [.ref vf, .ref vv])), (vf, .inl (cJ, 1024, .inr (.inl fm))), (vv, .inl (cI, 1024, .inl vl))] sz) (pv_C D cI cJ [(h0, .inr (3, [.ref lg, .ref fs, .ref ps, .long fa, .long fb, .int 0, .int re])), (fs, .inr (1, [.ref vt])), (vt, .inr (2, [.ref vf, .ref vv])), (vf, .inl (cJ, 1024, .inr (.inl fm))), (vv, .inl (cI, 1024, .inl vl))] sz)))) (va_Qi (fun (r : Int32) (u : (Nat → Int64) × (Nat → Int32)) => re = 0 ∧ pop (cempty fa fb) ≤ 3 ∧ r = cbest (pop (cempty fa fb)) fa fb 0 ∧ TI u.1 u.2) (fun (u : (Nat → Int64) × (Nat → Int32)) => pv_B D cI cJ (va_A [(h0, .inr (3, [.ref lg, .ref fs, .ref ps, .long fa, .long fb, .int 0, .int re])), (fs, .inr (1, [.ref vt])), (vt, .inr (2, [.ref vf, .ref vv])), (vf, .inl (cJ, 1024, .inr (.inl fm))), (vv, .inl (cI, 1024, .inl vl))] sz) [(h0, .inr (3, [.ref lg, .ref fs, .ref ps, .long fa, .long fb, .int 0, .int re])), (fs, .inr (1, [.ref vt])), (vt, .inr (2, [.ref vf, .ref vv])), (vf, .inl (cJ, 1024, .inr (.inl u.1))), (vv, .inl (cI, 1024, .inl u.2))]) (va_A [(h0, .inr (3, [.ref lg, .ref fs, .ref ps, .long fa, .long fb, .int 0, .int re])), (fs, .inr (1, [.ref vt])), (vt, .inr (2, [.ref vf, .ref vv])), (vf, .inl (cJ, 1024, .inr (.inl fm))), (vv, .inl (cI, 1024, .inl vl))] sz)) (vx_X (fun (_ : Unit) => True) (fun (E : String) (_ : Unit) (tt : State) => (E = nISE ∧ ¬ (re = 0 ∧ pop (cempty fa fb) ≤ 3)) ∧ pv_B D cI cJ (va_A [(h0, .inr (3, [.ref lg, .ref fs, .ref ps, .long fa, .long fb, .int 0, .int re])), (fs, .inr (1, [.ref vt])), (vt, .inr (2, [.ref vf, .ref vv])), (vf, .inl (cJ, 1024, .inr (.inl fm))), (vv, .inl (cI, 1024, .inl vl))] sz) [(h0, .inr (3, [.ref lg, .ref fs, .ref ps, .long fa, .long fb, .int 0, .int re])), (fs, .inr (1, [.ref vt])), (vt, .inr (2, [.ref vf, .ref vv])), (vf, .inl (cJ, 1024, .inr (.inl fm))), (vv, .inl (cI, 1024, .inl vl))] tt) (va_A [(h0, .inr (3, [.ref lg, .ref fs, .ref ps, .long fa, .long fb, .int 0, .int re])), (fs, .inr (1, [.ref vt])), (vt, .inr (2, [.ref vf, .ref vv])), (vf, .inl (cJ, 1024, .inr (.inl fm))), (vv, .inl (cI, 1024, .inl vl))] sz)) 1 6 (va_A [(h0, .inr (3, [.ref lg, .ref fs, .ref ps, .long fa, .long fb, .int 0, .int re])), (fs, .inr (1, [.ref vt])), (vt, .inr (2, [.ref vf, .ref vv])), (vf, .inl (cJ, 1024, .inr (.inl fm))), (vv, .inl (cI, 1024, .inl vl))] sz) := by
  by_cases hre : re = 0
  · rcases Nat.lt_or_ge 3 (pop (cempty fa fb)) with h | h
    · exact c_X6_bestMove_big_0 l hltr D cI cJ sz h0 lg fs ps vt vf vv fa fb re fm vl hT (Or.inl h)
    · have hB9 := hB hre
      rcases (show pop (cempty fa fb) = 1 ∨ pop (cempty fa fb) = 2 ∨ pop (cempty fa fb) = 3 by have := hpos hre; omega) with h | h | h
      · exact c_X6_bestMove_1_0 l hltr D cI cJ sz h0 lg fs ps vt vf vv fa fb re fm vl hT h (by rw [← h]; exact hB9)
      · exact c_X6_bestMove_2_0 l hltr D cI cJ sz h0 lg fs ps vt vf vv fa fb re fm vl hT h (by rw [← h]; exact hB9)
      · exact c_X6_bestMove_3_0 l hltr D cI cJ sz h0 lg fs ps vt vf vv fa fb re fm vl hT h (by rw [← h]; exact hB9)
  · exact c_X6_bestMove_big_0 l hltr D cI cJ sz h0 lg fs ps vt vf vv fa fb re fm vl hT (Or.inr hre)

set_option maxHeartbeats 400000 in
theorem c_X6_bestMove_1 (l : Launch) (hltr : l.stackTraces = false) (D : va_G) (cI cJ : ClassId) (sz : Nat) (h0 lg fs ps vt vf vv : Nat) (fa fb : Int64) (re : Int32) (fm : Nat → Int64) (vl : Nat → Int32) (hT : TI fm vl) (hp : 0 < pop (fa ||| fb)) (hB : re = 0 → BH (pop (cempty fa fb)) (cown fa fb 1) (coth fa fb 1)) : vx_Met l yX6_bestMove wsX6_bestMove ({ frames := 16, cells := 1, slots := 6, locals := 465 } : Room) (va_Pc [.ref h0] (px_E (px_X (va_A [(h0, .inr (3, [.ref lg, .ref fs, .ref ps, .long fa, .long fb, .int 1, .int re])), (fs, .inr (1, [.ref vt])), (vt, .inr (2, [.ref vf, .ref vv])), (vf, .inl (cJ, 1024, .inr (.inl fm))), (vv, .inl (cI, 1024, .inl vl))] sz) (pv_C D cI cJ [(h0, .inr (3, [.ref lg, .ref fs, .ref ps, .long fa, .long fb, .int 1, .int re])), (fs, .inr (1, [.ref vt])), (vt, .inr (2, [.ref vf, .ref vv])), (vf, .inl (cJ, 1024, .inr (.inl fm))), (vv, .inl (cI, 1024, .inl vl))] sz)))) (va_Qi (fun (r : Int32) (u : (Nat → Int64) × (Nat → Int32)) => re = 0 ∧ pop (cempty fa fb) ≤ 3 ∧ r = cbest (pop (cempty fa fb)) fa fb 1 ∧ TI u.1 u.2) (fun (u : (Nat → Int64) × (Nat → Int32)) => pv_B D cI cJ (va_A [(h0, .inr (3, [.ref lg, .ref fs, .ref ps, .long fa, .long fb, .int 1, .int re])), (fs, .inr (1, [.ref vt])), (vt, .inr (2, [.ref vf, .ref vv])), (vf, .inl (cJ, 1024, .inr (.inl fm))), (vv, .inl (cI, 1024, .inl vl))] sz) [(h0, .inr (3, [.ref lg, .ref fs, .ref ps, .long fa, .long fb, .int 1, .int re])), (fs, .inr (1, [.ref vt])), (vt, .inr (2, [.ref vf, .ref vv])), (vf, .inl (cJ, 1024, .inr (.inl u.1))), (vv, .inl (cI, 1024, .inl u.2))]) (va_A [(h0, .inr (3, [.ref lg, .ref fs, .ref ps, .long fa, .long fb, .int 1, .int re])), (fs, .inr (1, [.ref vt])), (vt, .inr (2, [.ref vf, .ref vv])), (vf, .inl (cJ, 1024, .inr (.inl fm))), (vv, .inl (cI, 1024, .inl vl))] sz)) (vx_X (fun (_ : Unit) => True) (fun (E : String) (_ : Unit) (tt : State) => (E = nISE ∧ ¬ (re = 0 ∧ pop (cempty fa fb) ≤ 3)) ∧ pv_B D cI cJ (va_A [(h0, .inr (3, [.ref lg, .ref fs, .ref ps, .long fa, .long fb, .int 1, .int re])), (fs, .inr (1, [.ref vt])), (vt, .inr (2, [.ref vf, .ref vv])), (vf, .inl (cJ, 1024, .inr (.inl fm))), (vv, .inl (cI, 1024, .inl vl))] sz) [(h0, .inr (3, [.ref lg, .ref fs, .ref ps, .long fa, .long fb, .int 1, .int re])), (fs, .inr (1, [.ref vt])), (vt, .inr (2, [.ref vf, .ref vv])), (vf, .inl (cJ, 1024, .inr (.inl fm))), (vv, .inl (cI, 1024, .inl vl))] tt) (va_A [(h0, .inr (3, [.ref lg, .ref fs, .ref ps, .long fa, .long fb, .int 1, .int re])), (fs, .inr (1, [.ref vt])), (vt, .inr (2, [.ref vf, .ref vv])), (vf, .inl (cJ, 1024, .inr (.inl fm))), (vv, .inl (cI, 1024, .inl vl))] sz)) 1 6 (va_A [(h0, .inr (3, [.ref lg, .ref fs, .ref ps, .long fa, .long fb, .int 1, .int re])), (fs, .inr (1, [.ref vt])), (vt, .inr (2, [.ref vf, .ref vv])), (vf, .inl (cJ, 1024, .inr (.inl fm))), (vv, .inl (cI, 1024, .inl vl))] sz) := by
  by_cases hre : re = 0
  · rcases Nat.lt_or_ge 3 (pop (cempty fa fb)) with h | h
    · exact c_X6_bestMove_big_1 l hltr D cI cJ sz h0 lg fs ps vt vf vv fa fb re fm vl hT hp (Or.inl h)
    · have hB9 := hB hre
      rcases (show pop (cempty fa fb) = 0 ∨ pop (cempty fa fb) = 1 ∨ pop (cempty fa fb) = 2 ∨ pop (cempty fa fb) = 3 by omega) with h | h | h | h
      · exact c_X6_bestMove_0_1 l hltr D cI cJ sz h0 lg fs ps vt vf vv fa fb re fm vl hT hp h (by rw [← h]; exact hB9)
      · exact c_X6_bestMove_1_1 l hltr D cI cJ sz h0 lg fs ps vt vf vv fa fb re fm vl hT hp h (by rw [← h]; exact hB9)
      · exact c_X6_bestMove_2_1 l hltr D cI cJ sz h0 lg fs ps vt vf vv fa fb re fm vl hT hp h (by rw [← h]; exact hB9)
      · exact c_X6_bestMove_3_1 l hltr D cI cJ sz h0 lg fs ps vt vf vv fa fb re fm vl hT hp h (by rw [← h]; exact hB9)
  · exact c_X6_bestMove_big_1 l hltr D cI cJ sz h0 lg fs ps vt vf vv fa fb re fm vl hT hp (Or.inr hre)

def NC (U : State) : Prop := va_Nc nISE nIOB U ∧ va_Nc nIAE nIOB U ∧ va_Nc nISE nIAE U
theorem NC.moved {u U : State} (hvm : u.vm.Alike U.vm) (h : NC u) : NC U := ⟨h.1.moved hvm, h.2.1.moved hvm, h.2.2.moved hvm⟩
def px_N (P : State → Prop) (U : State) : Prop := NC U ∧ EN U ∧ P U
theorem px_blindN {P : State → Prop} {av : List Value} (h : FrameBlind (va_Pc av P)) : FrameBlind (va_Pc av (px_N P)) := fun a U g mk q => ⟨q.1, NC.moved (u := U) (U := U.calling g mk a) (Vm.Alike.refl U.vm) q.2.1, EN.same (u := U) (U := U.calling g mk a) rfl q.2.2.1, (h a U g mk ⟨q.1, q.2.2.2⟩).2⟩
set_option maxHeartbeats 400000 in
set_option maxRecDepth 100000 in
theorem c_L_put_ok (l : Launch) (hltr : l.stackTraces = false) (D : va_G) (cI cJ : ClassId) (sz : Nat) (h0 lg lc lt fs ps : Nat) (fa fb : Int64) (mt re : Int32) (cs ts : Nat → Int32) (k : Nat) (hk : k ≤ 36) (ob : Nat) (ov : Nat → Int64) (v : Int32) (hk2 : mt = 0 → re = 0 → ¬ (cempty fa fb &&& jshl 1 v) = 0 → k < 36) (hok : icell v ∧ re = 0 ∧ mt = 0 ∧ ¬ (cempty fa fb &&& jshl 1 v) = 0) : Met l yL_put wsL_put ({ frames := 8, cells := 3, slots := 18, locals := 133 } : Room) (va_Pc [.ref h0, .int v, .ref ob] (px_N (px_X (va_A [(h0, .inr (3, [.ref lg, .ref fs, .ref ps, .long fa, .long fb, .int mt, .int re])), (lg, .inr (0, [.ref lc, .ref lt, .int (nI k)])), (lc, .inl (cI, 36, .inl cs)), (lt, .inl (cI, 36, .inl ts)), (ob, .inl (cJ, 1, .inr (.inl ov)))] sz) (pv_C D cI cJ [(h0, .inr (3, [.ref lg, .ref fs, .ref ps, .long fa, .long fb, .int mt, .int re])), (lg, .inr (0, [.ref lc, .ref lt, .int (nI k)])), (lc, .inl (cI, 36, .inl cs)), (lt, .inl (cI, 36, .inl ts)), (ob, .inl (cJ, 1, .inr (.inl ov)))] sz)))) (va_Qi (fun (r : Int32) (u : (Int64) × (Int64) × (Int32) × (Int32) × (Int32)) => r = 0 ∧ (icell v ∧ re = 0 ∧ mt = 0 ∧ (¬ (cempty fa fb &&& jshl 1 v) = 0) ∧ (u.2.2.2.2) = u.2.2.2.1 ∧ ((u.1 = (fa ||| jshl 1 v) ∧ u.2.1 = fb ∧ cside (pop (fa ||| fb)) mt = 1 ∧ (if cline (fa ||| jshl 1 v) = true then u.2.2.1 = 0 ∧ u.2.2.2.1 = 1 else u.2.2.1 = 1 ∧ u.2.2.2.1 = 0)) ∨ (u.1 = fa ∧ u.2.1 = (fb ||| jshl 1 v) ∧ ¬ cside (pop (fa ||| fb)) mt = 1 ∧ (if cline (fb ||| jshl 1 v) = true then u.2.2.1 = 0 ∧ u.2.2.2.1 = cside (pop (fa ||| fb)) mt else u.2.2.1 = 1 ∧ u.2.2.2.1 = 0))))) (fun (u : (Int64) × (Int64) × (Int32) × (Int32) × (Int32)) => pv_B D cI cJ (va_A [(h0, .inr (3, [.ref lg, .ref fs, .ref ps, .long fa, .long fb, .int mt, .int re])), (lg, .inr (0, [.ref lc, .ref lt, .int (nI k)])), (lc, .inl (cI, 36, .inl cs)), (lt, .inl (cI, 36, .inl ts)), (ob, .inl (cJ, 1, .inr (.inl ov)))] sz) [(h0, .inr (3, [.ref lg, .ref fs, .ref ps, .long u.1, .long u.2.1, .int u.2.2.1, .int u.2.2.2.1])), (lg, .inr (0, [.ref lc, .ref lt, .int (nI (k + 1))])), (lc, .inl (cI, 36, .inl (upd cs k v))), (lt, .inl (cI, 36, .inl (upd ts k (-1)))), (ob, .inl (cJ, 1, .inr (.inl (vp_updL ov 0 (u.2.2.2.2).toInt64))))]) (va_A [(h0, .inr (3, [.ref lg, .ref fs, .ref ps, .long fa, .long fb, .int mt, .int re])), (lg, .inr (0, [.ref lc, .ref lt, .int (nI k)])), (lc, .inl (cI, 36, .inl cs)), (lt, .inl (cI, 36, .inl ts)), (ob, .inl (cJ, 1, .inr (.inl ov)))] sz)) 3 18 (va_A [(h0, .inr (3, [.ref lg, .ref fs, .ref ps, .long fa, .long fb, .int mt, .int re])), (lg, .inr (0, [.ref lc, .ref lt, .int (nI k)])), (lc, .inl (cI, 36, .inl cs)), (lt, .inl (cI, 36, .inl ts)), (ob, .inl (cJ, 1, .inr (.inl ov)))] sz) := by
  refine va_MetW (cc := cL_put) (maxL := 4) (ret := (some .int)) (hh := [(0, 9, 12, 13), (0, 9, 15, 15)]) (by decide) rfl ?_
  intro p e s m args below meth c s₁ B hml hv
  obtain ⟨rfl, hNC, hEN, hEX, hZ, rfl, hP, hK, hD0⟩ := hv
  have hx := B.exec
  have hb := B.bytes
  have hr := B.returns
  have hts := atoms_spec (ws := wsL_put) B.pre
  have hown : s.vm.findClass RL = some m.cls := findClass_of_methodNamed B.named
  have hlocks := B.notSynchronized
  have htb := vx_table (x := yL_put) B (hts _ (List.mem_of_getElem? (i := 0) rfl))
  have hD := hD0.self (sz := s.heap.size)
  generalize hAe : va_A [(h0, .inr (3, [.ref lg, .ref fs, .ref ps, .long fa, .long fb, .int mt, .int re])), (lg, .inr (0, [.ref lc, .ref lt, .int (nI k)])), (lc, .inl (cI, 36, .inl cs)), (lt, .inl (cI, 36, .inl ts)), (ob, .inl (cJ, 1, .inr (.inl ov)))] s.heap.size = A at hD hZ ⊢
  have hA : ∀ q : Nat, s.heap.size ≤ q → A q := fun q h => by rw [← hAe]; exact Or.inr h
  have hS : va_S A s.heap s.heap [] := va_S.rf
  have hl := lv_entry ([.ref h0, .int v, .ref ob]) (n := 4) (Nat.le_of_ble_eq_true rfl)
  rw [lg_entry_eq]
  generalize (lg_sl ([.ref h0, .int v, .ref ob]) ++ List.replicate (4 - (lg_sl ([.ref h0, .int v, .ref ob])).length) Slot.unset).toArray = ls at hl ⊢
  have hl : lv_has ls 4 [(0, .ref h0), (1, .int v), (2, .ref ob)] := hl
  refine lv_aload_n hx hb dL_put_0 rfl (lv_at hl 2 rfl) ?_
  refine lv_iconst (v := 0) hx hb dL_put_1 (by decide) ?_
  refine lv_aload_n hx hb dL_put_2 rfl (lv_at hl 0 rfl) ?_
  refine lv_iload_n hx hb dL_put_3 rfl (lv_at hl 1 rfl) ?_
  have hPc : va_P D vwCl [(h0, .inr (3, [.ref lg, .ref fs, .ref ps, .long fa, .long fb, .int mt, .int re])), (lg, .inr (0, [.ref lc, .ref lt, .int (nI k)])), (lc, .inl (cI, 36, .inl cs)), (lt, .inl (cI, 36, .inl ts))] s.heap := hP.sub (ws' := [(h0, .inr (3, [.ref lg, .ref fs, .ref ps, .long fa, .long fb, .int mt, .int re])), (lg, .inr (0, [.ref lc, .ref lt, .int (nI k)])), (lc, .inl (cI, 36, .inl cs)), (lt, .inl (cI, 36, .inl ts))]) [0, 1, 2, 3] rfl
  have hDc : va_D A [(h0, .inr (3, [.ref lg, .ref fs, .ref ps, .long fa, .long fb, .int mt, .int re])), (lg, .inr (0, [.ref lc, .ref lt, .int (nI k)])), (lc, .inl (cI, 36, .inl cs)), (lt, .inl (cI, 36, .inl ts))] := hD.sub (ws' := [(h0, .inr (3, [.ref lg, .ref fs, .ref ps, .long fa, .long fb, .int mt, .int re])), (lg, .inr (0, [.ref lc, .ref lt, .int (nI k)])), (lc, .inl (cI, 36, .inl cs)), (lt, .inl (cI, 36, .inl ts))]) [0, 1, 2, 3] (by decide) rfl
  have hFc := va_free (wc := [(h0, .inr (3, [.ref lg, .ref fs, .ref ps, .long fa, .long fb, .int mt, .int re])), (lg, .inr (0, [.ref lc, .ref lt, .int (nI k)])), (lc, .inl (cI, 36, .inl cs)), (lt, .inl (cI, 36, .inl ts))]) hD hS hA [0, 1, 2, 3] rfl
  refine vx_calli (vx_runV (As := [.int v]) (rest := [.int 0, .ref ob]) ⟨hx, hb, hml, hown, hts⟩ (c_X6_put l hltr D cI cJ s.heap.size  h0 lg lc lt fs ps fa fb mt re cs ts k (by omega) v hk2) (cwV 1 hts gL_put_X6_put rfl rfl rfl (by decide +kernel) ⟨Nat.le_of_ble_eq_true rfl, Nat.le_of_ble_eq_true rfl⟩) ⟨(px_blindX pv_blind), va_recv hK hPc (ci := 3) (q0 := 0) rfl rfl, fun U hU hW => ⟨rfl, hEX.warm hW, by rw [hU]; exact hZ.to hS hW.alike hFc, by rw [hU], by rw [hU]; exact hPc, va_K.moved hW.alike hK, hDc.weaken (fun _ _ _ _ => trivial)⟩⟩ rfl rfl hl.1 rfl (lv_room (Nat.le_of_ble_eq_true rfl)) dL_put_4 ⟨(Nat.le_of_ble_eq_true rfl), (Nat.le_of_ble_eq_true rfl)⟩) hS (fun q _ h => hFc q h) hFc (fun q _ h => hFc q h) (fun E ce q9 u9 t9 H1 locs hth hvm hpx hB9 hz1 hk1 hS hce hcv hcl => ?_) (fun r4 u t9 H1 locs hth hvm hw4 hB9 hz1 hk1 hS => ?_)
  · obtain ⟨hb9, hP1, hK1, hD1⟩ := hB9
    rw [hth] at hP1
    obtain ⟨hP, hD⟩ := va_join (wr := [(ob, .inl (cJ, 1, .inr (.inl ov)))]) (w1 := [(h0, .inr (3, [.ref lg, .ref fs, .ref ps, .long fa, .long fb, .int mt, .int re])), (lg, .inr (0, [.ref lc, .ref lt, .int (nI k)])), (lc, .inl (cI, 36, .inl cs)), (lt, .inl (cI, 36, .inl ts))]) hP hD [0, 1, 2, 3] [4] rfl rfl (by decide) (by decide) hk1 hFc hP1 hD1
    have hP : va_P D vwCl [(h0, .inr (3, [.ref lg, .ref fs, .ref ps, .long fa, .long fb, .int mt, .int re])), (lg, .inr (0, [.ref lc, .ref lt, .int (nI k)])), (lc, .inl (cI, 36, .inl cs)), (lt, .inl (cI, 36, .inl ts)), (ob, .inl (cJ, 1, .inr (.inl ov)))] H1 := hP.sub (ws' := [(h0, .inr (3, [.ref lg, .ref fs, .ref ps, .long fa, .long fb, .int mt, .int re])), (lg, .inr (0, [.ref lc, .ref lt, .int (nI k)])), (lc, .inl (cI, 36, .inl cs)), (lt, .inl (cI, 36, .inl ts)), (ob, .inl (cJ, 1, .inr (.inl ov)))]) [1, 2, 3, 4, 0] rfl
    have hD : va_D A [(h0, .inr (3, [.ref lg, .ref fs, .ref ps, .long fa, .long fb, .int mt, .int re])), (lg, .inr (0, [.ref lc, .ref lt, .int (nI k)])), (lc, .inl (cI, 36, .inl cs)), (lt, .inl (cI, 36, .inl ts)), (ob, .inl (cJ, 1, .inr (.inl ov)))] := hD.sub (ws' := [(h0, .inr (3, [.ref lg, .ref fs, .ref ps, .long fa, .long fb, .int mt, .int re])), (lg, .inr (0, [.ref lc, .ref lt, .int (nI k)])), (lc, .inl (cI, 36, .inl cs)), (lt, .inl (cI, 36, .inl ts)), (ob, .inl (cJ, 1, .inr (.inl ov)))]) [1, 2, 3, 4, 0] (by decide) rfl
    exact hb9.elim (fun h => absurd hok.1 h.2) (fun h => absurd hok.2 h.2.2)
  · try dsimp only at hw4
    obtain ⟨fq4, gq4, mq4, rq4⟩ := u
    obtain ⟨hP1, hK1, hD1⟩ := hB9
    rw [hth] at hP1
    obtain ⟨hP, hD⟩ := va_join (wr := [(ob, .inl (cJ, 1, .inr (.inl ov)))]) (w1 := [(h0, .inr (3, [.ref lg, .ref fs, .ref ps, .long fq4, .long gq4, .int mq4, .int rq4])), (lg, .inr (0, [.ref lc, .ref lt, .int (nI (k + 1))])), (lc, .inl (cI, 36, .inl (upd cs k v))), (lt, .inl (cI, 36, .inl (upd ts k (-1))))]) hP hD [0, 1, 2, 3] [4] rfl rfl (by decide) (by decide) hk1 hFc hP1 hD1
    generalize H1 = H at hP hS ⊢
    have hP : va_P D vwCl [(h0, .inr (3, [.ref lg, .ref fs, .ref ps, .long fq4, .long gq4, .int mq4, .int rq4])), (lg, .inr (0, [.ref lc, .ref lt, .int (nI (k + 1))])), (lc, .inl (cI, 36, .inl (upd cs k v))), (lt, .inl (cI, 36, .inl (upd ts k (-1)))), (ob, .inl (cJ, 1, .inr (.inl ov)))] H := hP.sub (ws' := [(h0, .inr (3, [.ref lg, .ref fs, .ref ps, .long fq4, .long gq4, .int mq4, .int rq4])), (lg, .inr (0, [.ref lc, .ref lt, .int (nI (k + 1))])), (lc, .inl (cI, 36, .inl (upd cs k v))), (lt, .inl (cI, 36, .inl (upd ts k (-1)))), (ob, .inl (cJ, 1, .inr (.inl ov)))]) [1, 2, 3, 4, 0] rfl
    have hD : va_D A [(h0, .inr (3, [.ref lg, .ref fs, .ref ps, .long fq4, .long gq4, .int mq4, .int rq4])), (lg, .inr (0, [.ref lc, .ref lt, .int (nI (k + 1))])), (lc, .inl (cI, 36, .inl (upd cs k v))), (lt, .inl (cI, 36, .inl (upd ts k (-1)))), (ob, .inl (cJ, 1, .inr (.inl ov)))] := hD.sub (ws' := [(h0, .inr (3, [.ref lg, .ref fs, .ref ps, .long fq4, .long gq4, .int mq4, .int rq4])), (lg, .inr (0, [.ref lc, .ref lt, .int (nI (k + 1))])), (lc, .inl (cI, 36, .inl (upd cs k v))), (lt, .inl (cI, 36, .inl (upd ts k (-1)))), (ob, .inl (cJ, 1, .inr (.inl ov)))]) [1, 2, 3, 4, 0] (by decide) rfl
    refine lv_i2l (v := (r4 : Int32).toInt64) hx hb dL_put_7 rfl ?_
    refine lv_topl (fun x7 ex7 => ?_)
    refine va_last hx hb hK hP hD hS 4 1 rfl rfl (vp_in_nI (n := 0) (N := 1) (by omega) (by decide)) dL_put_8 (fun H locs hP hD hS => ?_)
    have hu8 : (0 : Int32).toNatClampNeg = 0 := pk_cl 0
    rw [hu8] at hP hD
    have hP : va_P D vwCl [(h0, .inr (3, [.ref lg, .ref fs, .ref ps, .long fq4, .long gq4, .int mq4, .int rq4])), (lg, .inr (0, [.ref lc, .ref lt, .int (nI (k + 1))])), (lc, .inl (cI, 36, .inl (upd cs k v))), (lt, .inl (cI, 36, .inl (upd ts k (-1)))), (ob, .inl (cJ, 1, .inr (.inl (vp_updL ov 0 x7))))] H := hP
    have hD : va_D A [(h0, .inr (3, [.ref lg, .ref fs, .ref ps, .long fq4, .long gq4, .int mq4, .int rq4])), (lg, .inr (0, [.ref lc, .ref lt, .int (nI (k + 1))])), (lc, .inl (cI, 36, .inl (upd cs k v))), (lt, .inl (cI, 36, .inl (upd ts k (-1)))), (ob, .inl (cJ, 1, .inr (.inl (vp_updL ov 0 x7))))] := hD
    refine lv_goto (tgt := 18) hx hb dL_put_9 (by decide) ?_
    refine lv_iconst (v := 0) hx hb dL_put_18 (by decide) ?_
    obtain rfl := ex7.symm
    refine W.widen (k := 3) (n := 18) (Nat.le_of_ble_eq_true rfl) (Nat.le_of_ble_eq_true rfl) ?_
    refine W.iret (v := 0) hx hb hr (fun tt ht hW => ⟨⟨0, (fq4, gq4, mq4, rq4, r4), rfl, ?_, by rw [ht]; exact hP, va_K.moved hW.alike hK, hD⟩, hS.F ht⟩) hS.2.2 dL_put_19
    exact ⟨rfl, hw4⟩

set_option maxHeartbeats 400000 in
set_option maxRecDepth 100000 in
theorem c_L_put_bad1 (l : Launch) (hltr : l.stackTraces = false) (D : va_G) (cI cJ : ClassId) (sz : Nat) (h0 lg lc lt fs ps : Nat) (fa fb : Int64) (mt re : Int32) (cs ts : Nat → Int32) (k : Nat) (hk : k ≤ 36) (ob : Nat) (ov : Nat → Int64) (v : Int32) (hk2 : mt = 0 → re = 0 → ¬ (cempty fa fb &&& jshl 1 v) = 0 → k < 36) (hbad : ¬ icell v) : Met l yL_put wsL_put ({ frames := 8, cells := 3, slots := 18, locals := 133 } : Room) (va_Pc [.ref h0, .int v, .ref ob] (px_N (px_X (va_A [(h0, .inr (3, [.ref lg, .ref fs, .ref ps, .long fa, .long fb, .int mt, .int re])), (lg, .inr (0, [.ref lc, .ref lt, .int (nI k)])), (lc, .inl (cI, 36, .inl cs)), (lt, .inl (cI, 36, .inl ts)), (ob, .inl (cJ, 1, .inr (.inl ov)))] sz) (pv_C D cI cJ [(h0, .inr (3, [.ref lg, .ref fs, .ref ps, .long fa, .long fb, .int mt, .int re])), (lg, .inr (0, [.ref lc, .ref lt, .int (nI k)])), (lc, .inl (cI, 36, .inl cs)), (lt, .inl (cI, 36, .inl ts)), (ob, .inl (cJ, 1, .inr (.inl ov)))] sz)))) (va_Qi (fun (r : Int32) (u : Unit) => r = 1) (fun (u : Unit) => pv_B D cI cJ (va_A [(h0, .inr (3, [.ref lg, .ref fs, .ref ps, .long fa, .long fb, .int mt, .int re])), (lg, .inr (0, [.ref lc, .ref lt, .int (nI k)])), (lc, .inl (cI, 36, .inl cs)), (lt, .inl (cI, 36, .inl ts)), (ob, .inl (cJ, 1, .inr (.inl ov)))] sz) [(h0, .inr (3, [.ref lg, .ref fs, .ref ps, .long fa, .long fb, .int mt, .int re])), (lg, .inr (0, [.ref lc, .ref lt, .int (nI k)])), (lc, .inl (cI, 36, .inl cs)), (lt, .inl (cI, 36, .inl ts)), (ob, .inl (cJ, 1, .inr (.inl ov)))]) (va_A [(h0, .inr (3, [.ref lg, .ref fs, .ref ps, .long fa, .long fb, .int mt, .int re])), (lg, .inr (0, [.ref lc, .ref lt, .int (nI k)])), (lc, .inl (cI, 36, .inl cs)), (lt, .inl (cI, 36, .inl ts)), (ob, .inl (cJ, 1, .inr (.inl ov)))] sz)) 3 18 (va_A [(h0, .inr (3, [.ref lg, .ref fs, .ref ps, .long fa, .long fb, .int mt, .int re])), (lg, .inr (0, [.ref lc, .ref lt, .int (nI k)])), (lc, .inl (cI, 36, .inl cs)), (lt, .inl (cI, 36, .inl ts)), (ob, .inl (cJ, 1, .inr (.inl ov)))] sz) := by
  refine va_MetW (cc := cL_put) (maxL := 4) (ret := (some .int)) (hh := [(0, 9, 12, 13), (0, 9, 15, 15)]) (by decide) rfl ?_
  intro p e s m args below meth c s₁ B hml hv
  obtain ⟨rfl, hNC, hEN, hEX, hZ, rfl, hP, hK, hD0⟩ := hv
  have hx := B.exec
  have hb := B.bytes
  have hr := B.returns
  have hts := atoms_spec (ws := wsL_put) B.pre
  have hown : s.vm.findClass RL = some m.cls := findClass_of_methodNamed B.named
  have hlocks := B.notSynchronized
  have htb := vx_table (x := yL_put) B (hts _ (List.mem_of_getElem? (i := 0) rfl))
  have hD := hD0.self (sz := s.heap.size)
  generalize hAe : va_A [(h0, .inr (3, [.ref lg, .ref fs, .ref ps, .long fa, .long fb, .int mt, .int re])), (lg, .inr (0, [.ref lc, .ref lt, .int (nI k)])), (lc, .inl (cI, 36, .inl cs)), (lt, .inl (cI, 36, .inl ts)), (ob, .inl (cJ, 1, .inr (.inl ov)))] s.heap.size = A at hD hZ ⊢
  have hA : ∀ q : Nat, s.heap.size ≤ q → A q := fun q h => by rw [← hAe]; exact Or.inr h
  have hS : va_S A s.heap s.heap [] := va_S.rf
  have hl := lv_entry ([.ref h0, .int v, .ref ob]) (n := 4) (Nat.le_of_ble_eq_true rfl)
  rw [lg_entry_eq]
  generalize (lg_sl ([.ref h0, .int v, .ref ob]) ++ List.replicate (4 - (lg_sl ([.ref h0, .int v, .ref ob])).length) Slot.unset).toArray = ls at hl ⊢
  have hl : lv_has ls 4 [(0, .ref h0), (1, .int v), (2, .ref ob)] := hl
  refine lv_aload_n hx hb dL_put_0 rfl (lv_at hl 2 rfl) ?_
  refine lv_iconst (v := 0) hx hb dL_put_1 (by decide) ?_
  refine lv_aload_n hx hb dL_put_2 rfl (lv_at hl 0 rfl) ?_
  refine lv_iload_n hx hb dL_put_3 rfl (lv_at hl 1 rfl) ?_
  have hPc : va_P D vwCl [(h0, .inr (3, [.ref lg, .ref fs, .ref ps, .long fa, .long fb, .int mt, .int re])), (lg, .inr (0, [.ref lc, .ref lt, .int (nI k)])), (lc, .inl (cI, 36, .inl cs)), (lt, .inl (cI, 36, .inl ts))] s.heap := hP.sub (ws' := [(h0, .inr (3, [.ref lg, .ref fs, .ref ps, .long fa, .long fb, .int mt, .int re])), (lg, .inr (0, [.ref lc, .ref lt, .int (nI k)])), (lc, .inl (cI, 36, .inl cs)), (lt, .inl (cI, 36, .inl ts))]) [0, 1, 2, 3] rfl
  have hDc : va_D A [(h0, .inr (3, [.ref lg, .ref fs, .ref ps, .long fa, .long fb, .int mt, .int re])), (lg, .inr (0, [.ref lc, .ref lt, .int (nI k)])), (lc, .inl (cI, 36, .inl cs)), (lt, .inl (cI, 36, .inl ts))] := hD.sub (ws' := [(h0, .inr (3, [.ref lg, .ref fs, .ref ps, .long fa, .long fb, .int mt, .int re])), (lg, .inr (0, [.ref lc, .ref lt, .int (nI k)])), (lc, .inl (cI, 36, .inl cs)), (lt, .inl (cI, 36, .inl ts))]) [0, 1, 2, 3] (by decide) rfl
  have hFc := va_free (wc := [(h0, .inr (3, [.ref lg, .ref fs, .ref ps, .long fa, .long fb, .int mt, .int re])), (lg, .inr (0, [.ref lc, .ref lt, .int (nI k)])), (lc, .inl (cI, 36, .inl cs)), (lt, .inl (cI, 36, .inl ts))]) hD hS hA [0, 1, 2, 3] rfl
  refine vx_calli (vx_runV (As := [.int v]) (rest := [.int 0, .ref ob]) ⟨hx, hb, hml, hown, hts⟩ (c_X6_put l hltr D cI cJ s.heap.size  h0 lg lc lt fs ps fa fb mt re cs ts k (by omega) v hk2) (cwV 1 hts gL_put_X6_put rfl rfl rfl (by decide +kernel) ⟨Nat.le_of_ble_eq_true rfl, Nat.le_of_ble_eq_true rfl⟩) ⟨(px_blindX pv_blind), va_recv hK hPc (ci := 3) (q0 := 0) rfl rfl, fun U hU hW => ⟨rfl, hEX.warm hW, by rw [hU]; exact hZ.to hS hW.alike hFc, by rw [hU], by rw [hU]; exact hPc, va_K.moved hW.alike hK, hDc.weaken (fun _ _ _ _ => trivial)⟩⟩ rfl rfl hl.1 rfl (lv_room (Nat.le_of_ble_eq_true rfl)) dL_put_4 ⟨(Nat.le_of_ble_eq_true rfl), (Nat.le_of_ble_eq_true rfl)⟩) hS (fun q _ h => hFc q h) hFc (fun q _ h => hFc q h) (fun E ce q9 u9 t9 H1 locs hth hvm hpx hB9 hz1 hk1 hS hce hcv hcl => ?_) (fun r4 u t9 H1 locs hth hvm hw4 hB9 hz1 hk1 hS => ?_)
  · obtain ⟨hb9, hP1, hK1, hD1⟩ := hB9
    rw [hth] at hP1
    obtain ⟨hP, hD⟩ := va_join (wr := [(ob, .inl (cJ, 1, .inr (.inl ov)))]) (w1 := [(h0, .inr (3, [.ref lg, .ref fs, .ref ps, .long fa, .long fb, .int mt, .int re])), (lg, .inr (0, [.ref lc, .ref lt, .int (nI k)])), (lc, .inl (cI, 36, .inl cs)), (lt, .inl (cI, 36, .inl ts))]) hP hD [0, 1, 2, 3] [4] rfl rfl (by decide) (by decide) hk1 hFc hP1 hD1
    have hP : va_P D vwCl [(h0, .inr (3, [.ref lg, .ref fs, .ref ps, .long fa, .long fb, .int mt, .int re])), (lg, .inr (0, [.ref lc, .ref lt, .int (nI k)])), (lc, .inl (cI, 36, .inl cs)), (lt, .inl (cI, 36, .inl ts)), (ob, .inl (cJ, 1, .inr (.inl ov)))] H1 := hP.sub (ws' := [(h0, .inr (3, [.ref lg, .ref fs, .ref ps, .long fa, .long fb, .int mt, .int re])), (lg, .inr (0, [.ref lc, .ref lt, .int (nI k)])), (lc, .inl (cI, 36, .inl cs)), (lt, .inl (cI, 36, .inl ts)), (ob, .inl (cJ, 1, .inr (.inl ov)))]) [1, 2, 3, 4, 0] rfl
    have hD : va_D A [(h0, .inr (3, [.ref lg, .ref fs, .ref ps, .long fa, .long fb, .int mt, .int re])), (lg, .inr (0, [.ref lc, .ref lt, .int (nI k)])), (lc, .inl (cI, 36, .inl cs)), (lt, .inl (cI, 36, .inl ts)), (ob, .inl (cJ, 1, .inr (.inl ov)))] := hD.sub (ws' := [(h0, .inr (3, [.ref lg, .ref fs, .ref ps, .long fa, .long fb, .int mt, .int re])), (lg, .inr (0, [.ref lc, .ref lt, .int (nI k)])), (lc, .inl (cI, 36, .inl cs)), (lt, .inl (cI, 36, .inl ts)), (ob, .inl (cJ, 1, .inr (.inl ov)))]) [1, 2, 3, 4, 0] (by decide) rfl
    obtain rfl : E = nIOB := hb9.elim (fun h => h.1) (fun h => absurd h.2.1 hbad)
    refine vx_catch (own := RL) (name := nIOB) hown [] ⟨0, 9, 12, 13⟩ [⟨0, 9, 15, 15⟩] (htb.trans rfl) (fun z hz => nomatch hz) (by decide) (by decide) (hts (.classLink RL 13 nIOB) (by decide +kernel)) (va_Nw.use rfl hEX.2.1) hce hcv hcl ?_
    refine lv_astore_n (lv' := [(3, .ref q9), (0, .ref h0), (1, .int v), (2, .ref ob)]) hx hb dL_put_12 rfl hl (by decide) rfl (fun ls hl => ?_)
    refine lv_iconst (v := 1) hx hb dL_put_13 (by decide) ?_
    refine W.widen (k := 3) (n := 18) (Nat.le_of_ble_eq_true rfl) (Nat.le_of_ble_eq_true rfl) ?_
    refine W.iret (v := 1) hx hb hr (fun tt ht hW => ⟨⟨1, (), rfl, ?_, by rw [ht]; exact hP, va_K.moved hW.alike hK, hD⟩, hS.F ht⟩) hS.2.2 dL_put_14
    exact rfl
  · try dsimp only at hw4
    exact absurd hw4.1 hbad

set_option maxHeartbeats 400000 in
set_option maxRecDepth 100000 in
theorem c_L_put_bad2 (l : Launch) (hltr : l.stackTraces = false) (D : va_G) (cI cJ : ClassId) (sz : Nat) (h0 lg lc lt fs ps : Nat) (fa fb : Int64) (mt re : Int32) (cs ts : Nat → Int32) (k : Nat) (hk : k ≤ 36) (ob : Nat) (ov : Nat → Int64) (v : Int32) (hk2 : mt = 0 → re = 0 → ¬ (cempty fa fb &&& jshl 1 v) = 0 → k < 36) (hc : icell v) (hbad : ¬ (re = 0 ∧ mt = 0 ∧ ¬ (cempty fa fb &&& jshl 1 v) = 0)) : Met l yL_put wsL_put ({ frames := 8, cells := 3, slots := 18, locals := 133 } : Room) (va_Pc [.ref h0, .int v, .ref ob] (px_N (px_X (va_A [(h0, .inr (3, [.ref lg, .ref fs, .ref ps, .long fa, .long fb, .int mt, .int re])), (lg, .inr (0, [.ref lc, .ref lt, .int (nI k)])), (lc, .inl (cI, 36, .inl cs)), (lt, .inl (cI, 36, .inl ts)), (ob, .inl (cJ, 1, .inr (.inl ov)))] sz) (pv_C D cI cJ [(h0, .inr (3, [.ref lg, .ref fs, .ref ps, .long fa, .long fb, .int mt, .int re])), (lg, .inr (0, [.ref lc, .ref lt, .int (nI k)])), (lc, .inl (cI, 36, .inl cs)), (lt, .inl (cI, 36, .inl ts)), (ob, .inl (cJ, 1, .inr (.inl ov)))] sz)))) (va_Qi (fun (r : Int32) (u : Unit) => r = 2) (fun (u : Unit) => pv_B D cI cJ (va_A [(h0, .inr (3, [.ref lg, .ref fs, .ref ps, .long fa, .long fb, .int mt, .int re])), (lg, .inr (0, [.ref lc, .ref lt, .int (nI k)])), (lc, .inl (cI, 36, .inl cs)), (lt, .inl (cI, 36, .inl ts)), (ob, .inl (cJ, 1, .inr (.inl ov)))] sz) [(h0, .inr (3, [.ref lg, .ref fs, .ref ps, .long fa, .long fb, .int mt, .int re])), (lg, .inr (0, [.ref lc, .ref lt, .int (nI k)])), (lc, .inl (cI, 36, .inl cs)), (lt, .inl (cI, 36, .inl ts)), (ob, .inl (cJ, 1, .inr (.inl ov)))]) (va_A [(h0, .inr (3, [.ref lg, .ref fs, .ref ps, .long fa, .long fb, .int mt, .int re])), (lg, .inr (0, [.ref lc, .ref lt, .int (nI k)])), (lc, .inl (cI, 36, .inl cs)), (lt, .inl (cI, 36, .inl ts)), (ob, .inl (cJ, 1, .inr (.inl ov)))] sz)) 3 18 (va_A [(h0, .inr (3, [.ref lg, .ref fs, .ref ps, .long fa, .long fb, .int mt, .int re])), (lg, .inr (0, [.ref lc, .ref lt, .int (nI k)])), (lc, .inl (cI, 36, .inl cs)), (lt, .inl (cI, 36, .inl ts)), (ob, .inl (cJ, 1, .inr (.inl ov)))] sz) := by
  refine va_MetW (cc := cL_put) (maxL := 4) (ret := (some .int)) (hh := [(0, 9, 12, 13), (0, 9, 15, 15)]) (by decide) rfl ?_
  intro p e s m args below meth c s₁ B hml hv
  obtain ⟨rfl, hNC, hEN, hEX, hZ, rfl, hP, hK, hD0⟩ := hv
  have hx := B.exec
  have hb := B.bytes
  have hr := B.returns
  have hts := atoms_spec (ws := wsL_put) B.pre
  have hown : s.vm.findClass RL = some m.cls := findClass_of_methodNamed B.named
  have hlocks := B.notSynchronized
  have htb := vx_table (x := yL_put) B (hts _ (List.mem_of_getElem? (i := 0) rfl))
  have hD := hD0.self (sz := s.heap.size)
  generalize hAe : va_A [(h0, .inr (3, [.ref lg, .ref fs, .ref ps, .long fa, .long fb, .int mt, .int re])), (lg, .inr (0, [.ref lc, .ref lt, .int (nI k)])), (lc, .inl (cI, 36, .inl cs)), (lt, .inl (cI, 36, .inl ts)), (ob, .inl (cJ, 1, .inr (.inl ov)))] s.heap.size = A at hD hZ ⊢
  have hA : ∀ q : Nat, s.heap.size ≤ q → A q := fun q h => by rw [← hAe]; exact Or.inr h
  have hS : va_S A s.heap s.heap [] := va_S.rf
  have hl := lv_entry ([.ref h0, .int v, .ref ob]) (n := 4) (Nat.le_of_ble_eq_true rfl)
  rw [lg_entry_eq]
  generalize (lg_sl ([.ref h0, .int v, .ref ob]) ++ List.replicate (4 - (lg_sl ([.ref h0, .int v, .ref ob])).length) Slot.unset).toArray = ls at hl ⊢
  have hl : lv_has ls 4 [(0, .ref h0), (1, .int v), (2, .ref ob)] := hl
  refine lv_aload_n hx hb dL_put_0 rfl (lv_at hl 2 rfl) ?_
  refine lv_iconst (v := 0) hx hb dL_put_1 (by decide) ?_
  refine lv_aload_n hx hb dL_put_2 rfl (lv_at hl 0 rfl) ?_
  refine lv_iload_n hx hb dL_put_3 rfl (lv_at hl 1 rfl) ?_
  have hPc : va_P D vwCl [(h0, .inr (3, [.ref lg, .ref fs, .ref ps, .long fa, .long fb, .int mt, .int re])), (lg, .inr (0, [.ref lc, .ref lt, .int (nI k)])), (lc, .inl (cI, 36, .inl cs)), (lt, .inl (cI, 36, .inl ts))] s.heap := hP.sub (ws' := [(h0, .inr (3, [.ref lg, .ref fs, .ref ps, .long fa, .long fb, .int mt, .int re])), (lg, .inr (0, [.ref lc, .ref lt, .int (nI k)])), (lc, .inl (cI, 36, .inl cs)), (lt, .inl (cI, 36, .inl ts))]) [0, 1, 2, 3] rfl
  have hDc : va_D A [(h0, .inr (3, [.ref lg, .ref fs, .ref ps, .long fa, .long fb, .int mt, .int re])), (lg, .inr (0, [.ref lc, .ref lt, .int (nI k)])), (lc, .inl (cI, 36, .inl cs)), (lt, .inl (cI, 36, .inl ts))] := hD.sub (ws' := [(h0, .inr (3, [.ref lg, .ref fs, .ref ps, .long fa, .long fb, .int mt, .int re])), (lg, .inr (0, [.ref lc, .ref lt, .int (nI k)])), (lc, .inl (cI, 36, .inl cs)), (lt, .inl (cI, 36, .inl ts))]) [0, 1, 2, 3] (by decide) rfl
  have hFc := va_free (wc := [(h0, .inr (3, [.ref lg, .ref fs, .ref ps, .long fa, .long fb, .int mt, .int re])), (lg, .inr (0, [.ref lc, .ref lt, .int (nI k)])), (lc, .inl (cI, 36, .inl cs)), (lt, .inl (cI, 36, .inl ts))]) hD hS hA [0, 1, 2, 3] rfl
  refine vx_calli (vx_runV (As := [.int v]) (rest := [.int 0, .ref ob]) ⟨hx, hb, hml, hown, hts⟩ (c_X6_put l hltr D cI cJ s.heap.size  h0 lg lc lt fs ps fa fb mt re cs ts k (by omega) v hk2) (cwV 1 hts gL_put_X6_put rfl rfl rfl (by decide +kernel) ⟨Nat.le_of_ble_eq_true rfl, Nat.le_of_ble_eq_true rfl⟩) ⟨(px_blindX pv_blind), va_recv hK hPc (ci := 3) (q0 := 0) rfl rfl, fun U hU hW => ⟨rfl, hEX.warm hW, by rw [hU]; exact hZ.to hS hW.alike hFc, by rw [hU], by rw [hU]; exact hPc, va_K.moved hW.alike hK, hDc.weaken (fun _ _ _ _ => trivial)⟩⟩ rfl rfl hl.1 rfl (lv_room (Nat.le_of_ble_eq_true rfl)) dL_put_4 ⟨(Nat.le_of_ble_eq_true rfl), (Nat.le_of_ble_eq_true rfl)⟩) hS (fun q _ h => hFc q h) hFc (fun q _ h => hFc q h) (fun E ce q9 u9 t9 H1 locs hth hvm hpx hB9 hz1 hk1 hS hce hcv hcl => ?_) (fun r4 u t9 H1 locs hth hvm hw4 hB9 hz1 hk1 hS => ?_)
  · obtain ⟨hb9, hP1, hK1, hD1⟩ := hB9
    rw [hth] at hP1
    obtain ⟨hP, hD⟩ := va_join (wr := [(ob, .inl (cJ, 1, .inr (.inl ov)))]) (w1 := [(h0, .inr (3, [.ref lg, .ref fs, .ref ps, .long fa, .long fb, .int mt, .int re])), (lg, .inr (0, [.ref lc, .ref lt, .int (nI k)])), (lc, .inl (cI, 36, .inl cs)), (lt, .inl (cI, 36, .inl ts))]) hP hD [0, 1, 2, 3] [4] rfl rfl (by decide) (by decide) hk1 hFc hP1 hD1
    have hP : va_P D vwCl [(h0, .inr (3, [.ref lg, .ref fs, .ref ps, .long fa, .long fb, .int mt, .int re])), (lg, .inr (0, [.ref lc, .ref lt, .int (nI k)])), (lc, .inl (cI, 36, .inl cs)), (lt, .inl (cI, 36, .inl ts)), (ob, .inl (cJ, 1, .inr (.inl ov)))] H1 := hP.sub (ws' := [(h0, .inr (3, [.ref lg, .ref fs, .ref ps, .long fa, .long fb, .int mt, .int re])), (lg, .inr (0, [.ref lc, .ref lt, .int (nI k)])), (lc, .inl (cI, 36, .inl cs)), (lt, .inl (cI, 36, .inl ts)), (ob, .inl (cJ, 1, .inr (.inl ov)))]) [1, 2, 3, 4, 0] rfl
    have hD : va_D A [(h0, .inr (3, [.ref lg, .ref fs, .ref ps, .long fa, .long fb, .int mt, .int re])), (lg, .inr (0, [.ref lc, .ref lt, .int (nI k)])), (lc, .inl (cI, 36, .inl cs)), (lt, .inl (cI, 36, .inl ts)), (ob, .inl (cJ, 1, .inr (.inl ov)))] := hD.sub (ws' := [(h0, .inr (3, [.ref lg, .ref fs, .ref ps, .long fa, .long fb, .int mt, .int re])), (lg, .inr (0, [.ref lc, .ref lt, .int (nI k)])), (lc, .inl (cI, 36, .inl cs)), (lt, .inl (cI, 36, .inl ts)), (ob, .inl (cJ, 1, .inr (.inl ov)))]) [1, 2, 3, 4, 0] (by decide) rfl
    obtain rfl : E = nISE := hb9.elim (fun h => absurd hc h.2) (fun h => h.1)
    refine vx_catch (own := RL) (name := nISE) hown [⟨0, 9, 12, 13⟩] ⟨0, 9, 15, 15⟩ [] (htb.trans rfl) (fun z hz => by { obtain rfl := List.mem_singleton.mp hz; exact Or.inr ⟨by decide, nIOB, hts (.classLink RL 13 nIOB) (by decide +kernel), hNC.1⟩ }) (by decide) (by decide) (hts (.classLink RL 15 nISE) (by decide +kernel)) (va_Nw.use rfl hEX.2.2.1) hce hcv hcl ?_
    refine lv_astore_n (lv' := [(3, .ref q9), (0, .ref h0), (1, .int v), (2, .ref ob)]) hx hb dL_put_15 rfl hl (by decide) rfl (fun ls hl => ?_)
    refine lv_iconst (v := 2) hx hb dL_put_16 (by decide) ?_
    refine W.widen (k := 3) (n := 18) (Nat.le_of_ble_eq_true rfl) (Nat.le_of_ble_eq_true rfl) ?_
    refine W.iret (v := 2) hx hb hr (fun tt ht hW => ⟨⟨2, (), rfl, ?_, by rw [ht]; exact hP, va_K.moved hW.alike hK, hD⟩, hS.F ht⟩) hS.2.2 dL_put_17
    exact rfl
  · try dsimp only at hw4
    exact absurd ⟨hw4.2.1, hw4.2.2.1, hw4.2.2.2.1⟩ hbad

set_option maxHeartbeats 400000 in
set_option maxRecDepth 100000 in
theorem c_L_turn_ok (l : Launch) (hltr : l.stackTraces = false) (D : va_G) (cI cJ : ClassId) (sz : Nat) (h0 lg lc lt fs ps : Nat) (fa fb : Int64) (mt re : Int32) (cs ts : Nat → Int32) (k : Nat) (hk : k ≤ 36) (ob : Nat) (ov : Nat → Int64) (q y : Int32) (hm : mt = 0 ∨ 0 < k) (hok : iq q ∧ iw y ∧ (re = 0 ∧ ¬ mt = 0)) : Met l yL_turn wsL_turn ({ frames := 8, cells := 3, slots := 18, locals := 133 } : Room) (va_Pc [.ref h0, .int q, .int y, .ref ob] (px_N (px_X (va_A [(h0, .inr (3, [.ref lg, .ref fs, .ref ps, .long fa, .long fb, .int mt, .int re])), (lg, .inr (0, [.ref lc, .ref lt, .int (nI k)])), (lc, .inl (cI, 36, .inl cs)), (lt, .inl (cI, 36, .inl ts)), (ob, .inl (cJ, 1, .inr (.inl ov)))] sz) (pv_C D cI cJ [(h0, .inr (3, [.ref lg, .ref fs, .ref ps, .long fa, .long fb, .int mt, .int re])), (lg, .inr (0, [.ref lc, .ref lt, .int (nI k)])), (lc, .inl (cI, 36, .inl cs)), (lt, .inl (cI, 36, .inl ts)), (ob, .inl (cJ, 1, .inr (.inl ov)))] sz)))) (va_Qi (fun (r : Int32) (u : (Nat) × (Int32)) => r = 0 ∧ (∃ q9 y9, q9 < 4 ∧ y9 < 2 ∧ q = nI q9 ∧ y = nI y9 ∧ u.1 = 2 * q9 + y9 ∧ re = 0 ∧ (¬ mt = 0) ∧ (u.2) = cjudge (cturned fa u.1) (cturned fb u.1))) (fun (u : (Nat) × (Int32)) => pv_B D cI cJ (va_A [(h0, .inr (3, [.ref lg, .ref fs, .ref ps, .long fa, .long fb, .int mt, .int re])), (lg, .inr (0, [.ref lc, .ref lt, .int (nI k)])), (lc, .inl (cI, 36, .inl cs)), (lt, .inl (cI, 36, .inl ts)), (ob, .inl (cJ, 1, .inr (.inl ov)))] sz) [(h0, .inr (3, [.ref lg, .ref fs, .ref ps, .long (cturned fa u.1), .long (cturned fb u.1), .int 0, .int (cjudge (cturned fa u.1) (cturned fb u.1))])), (lg, .inr (0, [.ref lc, .ref lt, .int (nI k)])), (lc, .inl (cI, 36, .inl cs)), (lt, .inl (cI, 36, .inl (upd ts (k - 1) (nI u.1)))), (ob, .inl (cJ, 1, .inr (.inl (vp_updL ov 0 (u.2).toInt64))))]) (va_A [(h0, .inr (3, [.ref lg, .ref fs, .ref ps, .long fa, .long fb, .int mt, .int re])), (lg, .inr (0, [.ref lc, .ref lt, .int (nI k)])), (lc, .inl (cI, 36, .inl cs)), (lt, .inl (cI, 36, .inl ts)), (ob, .inl (cJ, 1, .inr (.inl ov)))] sz)) 3 18 (va_A [(h0, .inr (3, [.ref lg, .ref fs, .ref ps, .long fa, .long fb, .int mt, .int re])), (lg, .inr (0, [.ref lc, .ref lt, .int (nI k)])), (lc, .inl (cI, 36, .inl cs)), (lt, .inl (cI, 36, .inl ts)), (ob, .inl (cJ, 1, .inr (.inl ov)))] sz) := by
  refine va_MetW (cc := cL_turn) (maxL := 5) (ret := (some .int)) (hh := [(0, 10, 13, 13), (0, 10, 17, 21), (0, 10, 21, 15)]) (by decide) rfl ?_
  intro p e s m args below meth c s₁ B hml hv
  obtain ⟨rfl, hNC, hEN, hEX, hZ, rfl, hP, hK, hD0⟩ := hv
  have hx := B.exec
  have hb := B.bytes
  have hr := B.returns
  have hts := atoms_spec (ws := wsL_turn) B.pre
  have hown : s.vm.findClass RL = some m.cls := findClass_of_methodNamed B.named
  have hlocks := B.notSynchronized
  have htb := vx_table (x := yL_turn) B (hts _ (List.mem_of_getElem? (i := 0) rfl))
  have hD := hD0.self (sz := s.heap.size)
  generalize hAe : va_A [(h0, .inr (3, [.ref lg, .ref fs, .ref ps, .long fa, .long fb, .int mt, .int re])), (lg, .inr (0, [.ref lc, .ref lt, .int (nI k)])), (lc, .inl (cI, 36, .inl cs)), (lt, .inl (cI, 36, .inl ts)), (ob, .inl (cJ, 1, .inr (.inl ov)))] s.heap.size = A at hD hZ ⊢
  have hA : ∀ q : Nat, s.heap.size ≤ q → A q := fun q h => by rw [← hAe]; exact Or.inr h
  have hS : va_S A s.heap s.heap [] := va_S.rf
  have hl := lv_entry ([.ref h0, .int q, .int y, .ref ob]) (n := 5) (Nat.le_of_ble_eq_true rfl)
  rw [lg_entry_eq]
  generalize (lg_sl ([.ref h0, .int q, .int y, .ref ob]) ++ List.replicate (5 - (lg_sl ([.ref h0, .int q, .int y, .ref ob])).length) Slot.unset).toArray = ls at hl ⊢
  have hl : lv_has ls 5 [(0, .ref h0), (1, .int q), (2, .int y), (3, .ref ob)] := hl
  refine lv_aload_n hx hb dL_turn_0 rfl (lv_at hl 3 rfl) ?_
  refine lv_iconst (v := 0) hx hb dL_turn_1 (by decide) ?_
  refine lv_aload_n hx hb dL_turn_2 rfl (lv_at hl 0 rfl) ?_
  refine lv_iload_n hx hb dL_turn_3 rfl (lv_at hl 1 rfl) ?_
  refine lv_iload_n hx hb dL_turn_4 rfl (lv_at hl 2 rfl) ?_
  have hPc : va_P D vwCl [(h0, .inr (3, [.ref lg, .ref fs, .ref ps, .long fa, .long fb, .int mt, .int re])), (lg, .inr (0, [.ref lc, .ref lt, .int (nI k)])), (lc, .inl (cI, 36, .inl cs)), (lt, .inl (cI, 36, .inl ts))] s.heap := hP.sub (ws' := [(h0, .inr (3, [.ref lg, .ref fs, .ref ps, .long fa, .long fb, .int mt, .int re])), (lg, .inr (0, [.ref lc, .ref lt, .int (nI k)])), (lc, .inl (cI, 36, .inl cs)), (lt, .inl (cI, 36, .inl ts))]) [0, 1, 2, 3] rfl
  have hDc : va_D A [(h0, .inr (3, [.ref lg, .ref fs, .ref ps, .long fa, .long fb, .int mt, .int re])), (lg, .inr (0, [.ref lc, .ref lt, .int (nI k)])), (lc, .inl (cI, 36, .inl cs)), (lt, .inl (cI, 36, .inl ts))] := hD.sub (ws' := [(h0, .inr (3, [.ref lg, .ref fs, .ref ps, .long fa, .long fb, .int mt, .int re])), (lg, .inr (0, [.ref lc, .ref lt, .int (nI k)])), (lc, .inl (cI, 36, .inl cs)), (lt, .inl (cI, 36, .inl ts))]) [0, 1, 2, 3] (by decide) rfl
  have hFc := va_free (wc := [(h0, .inr (3, [.ref lg, .ref fs, .ref ps, .long fa, .long fb, .int mt, .int re])), (lg, .inr (0, [.ref lc, .ref lt, .int (nI k)])), (lc, .inl (cI, 36, .inl cs)), (lt, .inl (cI, 36, .inl ts))]) hD hS hA [0, 1, 2, 3] rfl
  refine vx_calli (vx_runV (As := [.int q, .int y]) (rest := [.int 0, .ref ob]) ⟨hx, hb, hml, hown, hts⟩ (c_X6_turn l hltr D cI cJ s.heap.size  h0 lg lc lt fs ps fa fb mt re cs ts k (by omega) q y hm) (cwV 2 hts gL_turn_X6_turn rfl rfl rfl (by decide +kernel) ⟨Nat.le_of_ble_eq_true rfl, Nat.le_of_ble_eq_true rfl⟩) ⟨(px_blindX pv_blind), va_recv hK hPc (ci := 3) (q0 := 0) rfl rfl, fun U hU hW => ⟨rfl, hEX.warm hW, by rw [hU]; exact hZ.to hS hW.alike hFc, by rw [hU], by rw [hU]; exact hPc, va_K.moved hW.alike hK, hDc.weaken (fun _ _ _ _ => trivial)⟩⟩ rfl rfl hl.1 rfl (lv_room (Nat.le_of_ble_eq_true rfl)) dL_turn_5 ⟨(Nat.le_of_ble_eq_true rfl), (Nat.le_of_ble_eq_true rfl)⟩) hS (fun q _ h => hFc q h) hFc (fun q _ h => hFc q h) (fun E ce q9 u9 t9 H1 locs hth hvm hpx hB9 hz1 hk1 hS hce hcv hcl => ?_) (fun r5 u t9 H1 locs hth hvm hw5 hB9 hz1 hk1 hS => ?_)
  · obtain ⟨hb9, hP1, hK1, hD1⟩ := hB9
    rw [hth] at hP1
    obtain ⟨hP, hD⟩ := va_join (wr := [(ob, .inl (cJ, 1, .inr (.inl ov)))]) (w1 := [(h0, .inr (3, [.ref lg, .ref fs, .ref ps, .long fa, .long fb, .int mt, .int re])), (lg, .inr (0, [.ref lc, .ref lt, .int (nI k)])), (lc, .inl (cI, 36, .inl cs)), (lt, .inl (cI, 36, .inl ts))]) hP hD [0, 1, 2, 3] [4] rfl rfl (by decide) (by decide) hk1 hFc hP1 hD1
    have hP : va_P D vwCl [(h0, .inr (3, [.ref lg, .ref fs, .ref ps, .long fa, .long fb, .int mt, .int re])), (lg, .inr (0, [.ref lc, .ref lt, .int (nI k)])), (lc, .inl (cI, 36, .inl cs)), (lt, .inl (cI, 36, .inl ts)), (ob, .inl (cJ, 1, .inr (.inl ov)))] H1 := hP.sub (ws' := [(h0, .inr (3, [.ref lg, .ref fs, .ref ps, .long fa, .long fb, .int mt, .int re])), (lg, .inr (0, [.ref lc, .ref lt, .int (nI k)])), (lc, .inl (cI, 36, .inl cs)), (lt, .inl (cI, 36, .inl ts)), (ob, .inl (cJ, 1, .inr (.inl ov)))]) [1, 2, 3, 4, 0] rfl
    have hD : va_D A [(h0, .inr (3, [.ref lg, .ref fs, .ref ps, .long fa, .long fb, .int mt, .int re])), (lg, .inr (0, [.ref lc, .ref lt, .int (nI k)])), (lc, .inl (cI, 36, .inl cs)), (lt, .inl (cI, 36, .inl ts)), (ob, .inl (cJ, 1, .inr (.inl ov)))] := hD.sub (ws' := [(h0, .inr (3, [.ref lg, .ref fs, .ref ps, .long fa, .long fb, .int mt, .int re])), (lg, .inr (0, [.ref lc, .ref lt, .int (nI k)])), (lc, .inl (cI, 36, .inl cs)), (lt, .inl (cI, 36, .inl ts)), (ob, .inl (cJ, 1, .inr (.inl ov)))]) [1, 2, 3, 4, 0] (by decide) rfl
    rcases hb9 with h | h | h; { exact absurd hok.1 h.2 }; { exact absurd hok.2.1 h.2.2 }; exact absurd hok.2.2 h.2.2.2
  · try dsimp only at hw5
    obtain ⟨tq5, rfl⟩ : ∃ z, z = u := ⟨_, rfl⟩
    obtain ⟨hP1, hK1, hD1⟩ := hB9
    rw [hth] at hP1
    obtain ⟨hP, hD⟩ := va_join (wr := [(ob, .inl (cJ, 1, .inr (.inl ov)))]) (w1 := [(h0, .inr (3, [.ref lg, .ref fs, .ref ps, .long (cturned fa tq5), .long (cturned fb tq5), .int 0, .int (cjudge (cturned fa tq5) (cturned fb tq5))])), (lg, .inr (0, [.ref lc, .ref lt, .int (nI k)])), (lc, .inl (cI, 36, .inl cs)), (lt, .inl (cI, 36, .inl (upd ts (k - 1) (nI tq5))))]) hP hD [0, 1, 2, 3] [4] rfl rfl (by decide) (by decide) hk1 hFc hP1 hD1
    generalize H1 = H at hP hS ⊢
    have hP : va_P D vwCl [(h0, .inr (3, [.ref lg, .ref fs, .ref ps, .long (cturned fa tq5), .long (cturned fb tq5), .int 0, .int (cjudge (cturned fa tq5) (cturned fb tq5))])), (lg, .inr (0, [.ref lc, .ref lt, .int (nI k)])), (lc, .inl (cI, 36, .inl cs)), (lt, .inl (cI, 36, .inl (upd ts (k - 1) (nI tq5)))), (ob, .inl (cJ, 1, .inr (.inl ov)))] H := hP.sub (ws' := [(h0, .inr (3, [.ref lg, .ref fs, .ref ps, .long (cturned fa tq5), .long (cturned fb tq5), .int 0, .int (cjudge (cturned fa tq5) (cturned fb tq5))])), (lg, .inr (0, [.ref lc, .ref lt, .int (nI k)])), (lc, .inl (cI, 36, .inl cs)), (lt, .inl (cI, 36, .inl (upd ts (k - 1) (nI tq5)))), (ob, .inl (cJ, 1, .inr (.inl ov)))]) [1, 2, 3, 4, 0] rfl
    have hD : va_D A [(h0, .inr (3, [.ref lg, .ref fs, .ref ps, .long (cturned fa tq5), .long (cturned fb tq5), .int 0, .int (cjudge (cturned fa tq5) (cturned fb tq5))])), (lg, .inr (0, [.ref lc, .ref lt, .int (nI k)])), (lc, .inl (cI, 36, .inl cs)), (lt, .inl (cI, 36, .inl (upd ts (k - 1) (nI tq5)))), (ob, .inl (cJ, 1, .inr (.inl ov)))] := hD.sub (ws' := [(h0, .inr (3, [.ref lg, .ref fs, .ref ps, .long (cturned fa tq5), .long (cturned fb tq5), .int 0, .int (cjudge (cturned fa tq5) (cturned fb tq5))])), (lg, .inr (0, [.ref lc, .ref lt, .int (nI k)])), (lc, .inl (cI, 36, .inl cs)), (lt, .inl (cI, 36, .inl (upd ts (k - 1) (nI tq5)))), (ob, .inl (cJ, 1, .inr (.inl ov)))]) [1, 2, 3, 4, 0] (by decide) rfl
    refine lv_i2l (v := (r5 : Int32).toInt64) hx hb dL_turn_8 rfl ?_
    refine lv_topl (fun x8 ex8 => ?_)
    refine va_last hx hb hK hP hD hS 4 1 rfl rfl (vp_in_nI (n := 0) (N := 1) (by omega) (by decide)) dL_turn_9 (fun H locs hP hD hS => ?_)
    have hu9 : (0 : Int32).toNatClampNeg = 0 := pk_cl 0
    rw [hu9] at hP hD
    have hP : va_P D vwCl [(h0, .inr (3, [.ref lg, .ref fs, .ref ps, .long (cturned fa tq5), .long (cturned fb tq5), .int 0, .int (cjudge (cturned fa tq5) (cturned fb tq5))])), (lg, .inr (0, [.ref lc, .ref lt, .int (nI k)])), (lc, .inl (cI, 36, .inl cs)), (lt, .inl (cI, 36, .inl (upd ts (k - 1) (nI tq5)))), (ob, .inl (cJ, 1, .inr (.inl (vp_updL ov 0 x8))))] H := hP
    have hD : va_D A [(h0, .inr (3, [.ref lg, .ref fs, .ref ps, .long (cturned fa tq5), .long (cturned fb tq5), .int 0, .int (cjudge (cturned fa tq5) (cturned fb tq5))])), (lg, .inr (0, [.ref lc, .ref lt, .int (nI k)])), (lc, .inl (cI, 36, .inl cs)), (lt, .inl (cI, 36, .inl (upd ts (k - 1) (nI tq5)))), (ob, .inl (cJ, 1, .inr (.inl (vp_updL ov 0 x8))))] := hD
    refine lv_goto (tgt := 25) hx hb dL_turn_10 (by decide) ?_
    refine lv_iconst (v := 0) hx hb dL_turn_25 (by decide) ?_
    obtain rfl := ex8.symm
    refine W.widen (k := 3) (n := 18) (Nat.le_of_ble_eq_true rfl) (Nat.le_of_ble_eq_true rfl) ?_
    refine W.iret (v := 0) hx hb hr (fun tt ht hW => ⟨⟨0, (tq5, r5), rfl, ?_, by rw [ht]; exact hP, va_K.moved hW.alike hK, hD⟩, hS.F ht⟩) hS.2.2 dL_turn_26
    exact ⟨rfl, hw5⟩

set_option maxHeartbeats 400000 in
set_option maxRecDepth 100000 in
theorem c_L_turn_bad1 (l : Launch) (hltr : l.stackTraces = false) (D : va_G) (cI cJ : ClassId) (sz : Nat) (h0 lg lc lt fs ps : Nat) (fa fb : Int64) (mt re : Int32) (cs ts : Nat → Int32) (k : Nat) (hk : k ≤ 36) (ob : Nat) (ov : Nat → Int64) (q y : Int32) (hm : mt = 0 ∨ 0 < k) (hbad : ¬ iq q) : Met l yL_turn wsL_turn ({ frames := 8, cells := 3, slots := 18, locals := 133 } : Room) (va_Pc [.ref h0, .int q, .int y, .ref ob] (px_N (px_X (va_A [(h0, .inr (3, [.ref lg, .ref fs, .ref ps, .long fa, .long fb, .int mt, .int re])), (lg, .inr (0, [.ref lc, .ref lt, .int (nI k)])), (lc, .inl (cI, 36, .inl cs)), (lt, .inl (cI, 36, .inl ts)), (ob, .inl (cJ, 1, .inr (.inl ov)))] sz) (pv_C D cI cJ [(h0, .inr (3, [.ref lg, .ref fs, .ref ps, .long fa, .long fb, .int mt, .int re])), (lg, .inr (0, [.ref lc, .ref lt, .int (nI k)])), (lc, .inl (cI, 36, .inl cs)), (lt, .inl (cI, 36, .inl ts)), (ob, .inl (cJ, 1, .inr (.inl ov)))] sz)))) (va_Qi (fun (r : Int32) (u : Unit) => r = 1) (fun (u : Unit) => pv_B D cI cJ (va_A [(h0, .inr (3, [.ref lg, .ref fs, .ref ps, .long fa, .long fb, .int mt, .int re])), (lg, .inr (0, [.ref lc, .ref lt, .int (nI k)])), (lc, .inl (cI, 36, .inl cs)), (lt, .inl (cI, 36, .inl ts)), (ob, .inl (cJ, 1, .inr (.inl ov)))] sz) [(h0, .inr (3, [.ref lg, .ref fs, .ref ps, .long fa, .long fb, .int mt, .int re])), (lg, .inr (0, [.ref lc, .ref lt, .int (nI k)])), (lc, .inl (cI, 36, .inl cs)), (lt, .inl (cI, 36, .inl ts)), (ob, .inl (cJ, 1, .inr (.inl ov)))]) (va_A [(h0, .inr (3, [.ref lg, .ref fs, .ref ps, .long fa, .long fb, .int mt, .int re])), (lg, .inr (0, [.ref lc, .ref lt, .int (nI k)])), (lc, .inl (cI, 36, .inl cs)), (lt, .inl (cI, 36, .inl ts)), (ob, .inl (cJ, 1, .inr (.inl ov)))] sz)) 3 18 (va_A [(h0, .inr (3, [.ref lg, .ref fs, .ref ps, .long fa, .long fb, .int mt, .int re])), (lg, .inr (0, [.ref lc, .ref lt, .int (nI k)])), (lc, .inl (cI, 36, .inl cs)), (lt, .inl (cI, 36, .inl ts)), (ob, .inl (cJ, 1, .inr (.inl ov)))] sz) := by
  refine va_MetW (cc := cL_turn) (maxL := 5) (ret := (some .int)) (hh := [(0, 10, 13, 13), (0, 10, 17, 21), (0, 10, 21, 15)]) (by decide) rfl ?_
  intro p e s m args below meth c s₁ B hml hv
  obtain ⟨rfl, hNC, hEN, hEX, hZ, rfl, hP, hK, hD0⟩ := hv
  have hx := B.exec
  have hb := B.bytes
  have hr := B.returns
  have hts := atoms_spec (ws := wsL_turn) B.pre
  have hown : s.vm.findClass RL = some m.cls := findClass_of_methodNamed B.named
  have hlocks := B.notSynchronized
  have htb := vx_table (x := yL_turn) B (hts _ (List.mem_of_getElem? (i := 0) rfl))
  have hD := hD0.self (sz := s.heap.size)
  generalize hAe : va_A [(h0, .inr (3, [.ref lg, .ref fs, .ref ps, .long fa, .long fb, .int mt, .int re])), (lg, .inr (0, [.ref lc, .ref lt, .int (nI k)])), (lc, .inl (cI, 36, .inl cs)), (lt, .inl (cI, 36, .inl ts)), (ob, .inl (cJ, 1, .inr (.inl ov)))] s.heap.size = A at hD hZ ⊢
  have hA : ∀ q : Nat, s.heap.size ≤ q → A q := fun q h => by rw [← hAe]; exact Or.inr h
  have hS : va_S A s.heap s.heap [] := va_S.rf
  have hl := lv_entry ([.ref h0, .int q, .int y, .ref ob]) (n := 5) (Nat.le_of_ble_eq_true rfl)
  rw [lg_entry_eq]
  generalize (lg_sl ([.ref h0, .int q, .int y, .ref ob]) ++ List.replicate (5 - (lg_sl ([.ref h0, .int q, .int y, .ref ob])).length) Slot.unset).toArray = ls at hl ⊢
  have hl : lv_has ls 5 [(0, .ref h0), (1, .int q), (2, .int y), (3, .ref ob)] := hl
  refine lv_aload_n hx hb dL_turn_0 rfl (lv_at hl 3 rfl) ?_
  refine lv_iconst (v := 0) hx hb dL_turn_1 (by decide) ?_
  refine lv_aload_n hx hb dL_turn_2 rfl (lv_at hl 0 rfl) ?_
  refine lv_iload_n hx hb dL_turn_3 rfl (lv_at hl 1 rfl) ?_
  refine lv_iload_n hx hb dL_turn_4 rfl (lv_at hl 2 rfl) ?_
  have hPc : va_P D vwCl [(h0, .inr (3, [.ref lg, .ref fs, .ref ps, .long fa, .long fb, .int mt, .int re])), (lg, .inr (0, [.ref lc, .ref lt, .int (nI k)])), (lc, .inl (cI, 36, .inl cs)), (lt, .inl (cI, 36, .inl ts))] s.heap := hP.sub (ws' := [(h0, .inr (3, [.ref lg, .ref fs, .ref ps, .long fa, .long fb, .int mt, .int re])), (lg, .inr (0, [.ref lc, .ref lt, .int (nI k)])), (lc, .inl (cI, 36, .inl cs)), (lt, .inl (cI, 36, .inl ts))]) [0, 1, 2, 3] rfl
  have hDc : va_D A [(h0, .inr (3, [.ref lg, .ref fs, .ref ps, .long fa, .long fb, .int mt, .int re])), (lg, .inr (0, [.ref lc, .ref lt, .int (nI k)])), (lc, .inl (cI, 36, .inl cs)), (lt, .inl (cI, 36, .inl ts))] := hD.sub (ws' := [(h0, .inr (3, [.ref lg, .ref fs, .ref ps, .long fa, .long fb, .int mt, .int re])), (lg, .inr (0, [.ref lc, .ref lt, .int (nI k)])), (lc, .inl (cI, 36, .inl cs)), (lt, .inl (cI, 36, .inl ts))]) [0, 1, 2, 3] (by decide) rfl
  have hFc := va_free (wc := [(h0, .inr (3, [.ref lg, .ref fs, .ref ps, .long fa, .long fb, .int mt, .int re])), (lg, .inr (0, [.ref lc, .ref lt, .int (nI k)])), (lc, .inl (cI, 36, .inl cs)), (lt, .inl (cI, 36, .inl ts))]) hD hS hA [0, 1, 2, 3] rfl
  refine vx_calli (vx_runV (As := [.int q, .int y]) (rest := [.int 0, .ref ob]) ⟨hx, hb, hml, hown, hts⟩ (c_X6_turn l hltr D cI cJ s.heap.size  h0 lg lc lt fs ps fa fb mt re cs ts k (by omega) q y hm) (cwV 2 hts gL_turn_X6_turn rfl rfl rfl (by decide +kernel) ⟨Nat.le_of_ble_eq_true rfl, Nat.le_of_ble_eq_true rfl⟩) ⟨(px_blindX pv_blind), va_recv hK hPc (ci := 3) (q0 := 0) rfl rfl, fun U hU hW => ⟨rfl, hEX.warm hW, by rw [hU]; exact hZ.to hS hW.alike hFc, by rw [hU], by rw [hU]; exact hPc, va_K.moved hW.alike hK, hDc.weaken (fun _ _ _ _ => trivial)⟩⟩ rfl rfl hl.1 rfl (lv_room (Nat.le_of_ble_eq_true rfl)) dL_turn_5 ⟨(Nat.le_of_ble_eq_true rfl), (Nat.le_of_ble_eq_true rfl)⟩) hS (fun q _ h => hFc q h) hFc (fun q _ h => hFc q h) (fun E ce q9 u9 t9 H1 locs hth hvm hpx hB9 hz1 hk1 hS hce hcv hcl => ?_) (fun r5 u t9 H1 locs hth hvm hw5 hB9 hz1 hk1 hS => ?_)
  · obtain ⟨hb9, hP1, hK1, hD1⟩ := hB9
    rw [hth] at hP1
    obtain ⟨hP, hD⟩ := va_join (wr := [(ob, .inl (cJ, 1, .inr (.inl ov)))]) (w1 := [(h0, .inr (3, [.ref lg, .ref fs, .ref ps, .long fa, .long fb, .int mt, .int re])), (lg, .inr (0, [.ref lc, .ref lt, .int (nI k)])), (lc, .inl (cI, 36, .inl cs)), (lt, .inl (cI, 36, .inl ts))]) hP hD [0, 1, 2, 3] [4] rfl rfl (by decide) (by decide) hk1 hFc hP1 hD1
    have hP : va_P D vwCl [(h0, .inr (3, [.ref lg, .ref fs, .ref ps, .long fa, .long fb, .int mt, .int re])), (lg, .inr (0, [.ref lc, .ref lt, .int (nI k)])), (lc, .inl (cI, 36, .inl cs)), (lt, .inl (cI, 36, .inl ts)), (ob, .inl (cJ, 1, .inr (.inl ov)))] H1 := hP.sub (ws' := [(h0, .inr (3, [.ref lg, .ref fs, .ref ps, .long fa, .long fb, .int mt, .int re])), (lg, .inr (0, [.ref lc, .ref lt, .int (nI k)])), (lc, .inl (cI, 36, .inl cs)), (lt, .inl (cI, 36, .inl ts)), (ob, .inl (cJ, 1, .inr (.inl ov)))]) [1, 2, 3, 4, 0] rfl
    have hD : va_D A [(h0, .inr (3, [.ref lg, .ref fs, .ref ps, .long fa, .long fb, .int mt, .int re])), (lg, .inr (0, [.ref lc, .ref lt, .int (nI k)])), (lc, .inl (cI, 36, .inl cs)), (lt, .inl (cI, 36, .inl ts)), (ob, .inl (cJ, 1, .inr (.inl ov)))] := hD.sub (ws' := [(h0, .inr (3, [.ref lg, .ref fs, .ref ps, .long fa, .long fb, .int mt, .int re])), (lg, .inr (0, [.ref lc, .ref lt, .int (nI k)])), (lc, .inl (cI, 36, .inl cs)), (lt, .inl (cI, 36, .inl ts)), (ob, .inl (cJ, 1, .inr (.inl ov)))]) [1, 2, 3, 4, 0] (by decide) rfl
    obtain rfl : E = nIOB := (by { rcases hb9 with h | h | h; { exact h.1 }; { exact absurd h.2.1 hbad }; exact absurd h.2.1 hbad })
    refine vx_catch (own := RL) (name := nIOB) hown [] ⟨0, 10, 13, 13⟩ [⟨0, 10, 17, 21⟩, ⟨0, 10, 21, 15⟩] (htb.trans rfl) (fun z hz => nomatch hz) (by decide) (by decide) (hts (.classLink RL 13 nIOB) (by decide +kernel)) (va_Nw.use rfl hEX.2.1) hce hcv hcl ?_
    refine lv_astore (lv' := [(4, .ref q9), (0, .ref h0), (1, .int q), (2, .int y), (3, .ref ob)]) hx hb dL_turn_13 hl (by decide) rfl (fun ls hl => ?_)
    refine lv_iconst (v := 1) hx hb dL_turn_15 (by decide) ?_
    refine W.widen (k := 3) (n := 18) (Nat.le_of_ble_eq_true rfl) (Nat.le_of_ble_eq_true rfl) ?_
    refine W.iret (v := 1) hx hb hr (fun tt ht hW => ⟨⟨1, (), rfl, ?_, by rw [ht]; exact hP, va_K.moved hW.alike hK, hD⟩, hS.F ht⟩) hS.2.2 dL_turn_16
    exact rfl
  · try dsimp only at hw5
    obtain ⟨q9, y9, h1, h2, h3, _⟩ := hw5; exact absurd (show iq q from by rw [h3]; exact q_ok h1) hbad

set_option maxHeartbeats 400000 in
set_option maxRecDepth 100000 in
theorem c_L_turn_bad2 (l : Launch) (hltr : l.stackTraces = false) (D : va_G) (cI cJ : ClassId) (sz : Nat) (h0 lg lc lt fs ps : Nat) (fa fb : Int64) (mt re : Int32) (cs ts : Nat → Int32) (k : Nat) (hk : k ≤ 36) (ob : Nat) (ov : Nat → Int64) (q y : Int32) (hm : mt = 0 ∨ 0 < k) (hc : iq q) (hbad : ¬ iw y) : Met l yL_turn wsL_turn ({ frames := 8, cells := 3, slots := 18, locals := 133 } : Room) (va_Pc [.ref h0, .int q, .int y, .ref ob] (px_N (px_X (va_A [(h0, .inr (3, [.ref lg, .ref fs, .ref ps, .long fa, .long fb, .int mt, .int re])), (lg, .inr (0, [.ref lc, .ref lt, .int (nI k)])), (lc, .inl (cI, 36, .inl cs)), (lt, .inl (cI, 36, .inl ts)), (ob, .inl (cJ, 1, .inr (.inl ov)))] sz) (pv_C D cI cJ [(h0, .inr (3, [.ref lg, .ref fs, .ref ps, .long fa, .long fb, .int mt, .int re])), (lg, .inr (0, [.ref lc, .ref lt, .int (nI k)])), (lc, .inl (cI, 36, .inl cs)), (lt, .inl (cI, 36, .inl ts)), (ob, .inl (cJ, 1, .inr (.inl ov)))] sz)))) (va_Qi (fun (r : Int32) (u : Unit) => r = 2) (fun (u : Unit) => pv_B D cI cJ (va_A [(h0, .inr (3, [.ref lg, .ref fs, .ref ps, .long fa, .long fb, .int mt, .int re])), (lg, .inr (0, [.ref lc, .ref lt, .int (nI k)])), (lc, .inl (cI, 36, .inl cs)), (lt, .inl (cI, 36, .inl ts)), (ob, .inl (cJ, 1, .inr (.inl ov)))] sz) [(h0, .inr (3, [.ref lg, .ref fs, .ref ps, .long fa, .long fb, .int mt, .int re])), (lg, .inr (0, [.ref lc, .ref lt, .int (nI k)])), (lc, .inl (cI, 36, .inl cs)), (lt, .inl (cI, 36, .inl ts)), (ob, .inl (cJ, 1, .inr (.inl ov)))]) (va_A [(h0, .inr (3, [.ref lg, .ref fs, .ref ps, .long fa, .long fb, .int mt, .int re])), (lg, .inr (0, [.ref lc, .ref lt, .int (nI k)])), (lc, .inl (cI, 36, .inl cs)), (lt, .inl (cI, 36, .inl ts)), (ob, .inl (cJ, 1, .inr (.inl ov)))] sz)) 3 18 (va_A [(h0, .inr (3, [.ref lg, .ref fs, .ref ps, .long fa, .long fb, .int mt, .int re])), (lg, .inr (0, [.ref lc, .ref lt, .int (nI k)])), (lc, .inl (cI, 36, .inl cs)), (lt, .inl (cI, 36, .inl ts)), (ob, .inl (cJ, 1, .inr (.inl ov)))] sz) := by
  refine va_MetW (cc := cL_turn) (maxL := 5) (ret := (some .int)) (hh := [(0, 10, 13, 13), (0, 10, 17, 21), (0, 10, 21, 15)]) (by decide) rfl ?_
  intro p e s m args below meth c s₁ B hml hv
  obtain ⟨rfl, hNC, hEN, hEX, hZ, rfl, hP, hK, hD0⟩ := hv
  have hx := B.exec
  have hb := B.bytes
  have hr := B.returns
  have hts := atoms_spec (ws := wsL_turn) B.pre
  have hown : s.vm.findClass RL = some m.cls := findClass_of_methodNamed B.named
  have hlocks := B.notSynchronized
  have htb := vx_table (x := yL_turn) B (hts _ (List.mem_of_getElem? (i := 0) rfl))
  have hD := hD0.self (sz := s.heap.size)
  generalize hAe : va_A [(h0, .inr (3, [.ref lg, .ref fs, .ref ps, .long fa, .long fb, .int mt, .int re])), (lg, .inr (0, [.ref lc, .ref lt, .int (nI k)])), (lc, .inl (cI, 36, .inl cs)), (lt, .inl (cI, 36, .inl ts)), (ob, .inl (cJ, 1, .inr (.inl ov)))] s.heap.size = A at hD hZ ⊢
  have hA : ∀ q : Nat, s.heap.size ≤ q → A q := fun q h => by rw [← hAe]; exact Or.inr h
  have hS : va_S A s.heap s.heap [] := va_S.rf
  have hl := lv_entry ([.ref h0, .int q, .int y, .ref ob]) (n := 5) (Nat.le_of_ble_eq_true rfl)
  rw [lg_entry_eq]
  generalize (lg_sl ([.ref h0, .int q, .int y, .ref ob]) ++ List.replicate (5 - (lg_sl ([.ref h0, .int q, .int y, .ref ob])).length) Slot.unset).toArray = ls at hl ⊢
  have hl : lv_has ls 5 [(0, .ref h0), (1, .int q), (2, .int y), (3, .ref ob)] := hl
  refine lv_aload_n hx hb dL_turn_0 rfl (lv_at hl 3 rfl) ?_
  refine lv_iconst (v := 0) hx hb dL_turn_1 (by decide) ?_
  refine lv_aload_n hx hb dL_turn_2 rfl (lv_at hl 0 rfl) ?_
  refine lv_iload_n hx hb dL_turn_3 rfl (lv_at hl 1 rfl) ?_
  refine lv_iload_n hx hb dL_turn_4 rfl (lv_at hl 2 rfl) ?_
  have hPc : va_P D vwCl [(h0, .inr (3, [.ref lg, .ref fs, .ref ps, .long fa, .long fb, .int mt, .int re])), (lg, .inr (0, [.ref lc, .ref lt, .int (nI k)])), (lc, .inl (cI, 36, .inl cs)), (lt, .inl (cI, 36, .inl ts))] s.heap := hP.sub (ws' := [(h0, .inr (3, [.ref lg, .ref fs, .ref ps, .long fa, .long fb, .int mt, .int re])), (lg, .inr (0, [.ref lc, .ref lt, .int (nI k)])), (lc, .inl (cI, 36, .inl cs)), (lt, .inl (cI, 36, .inl ts))]) [0, 1, 2, 3] rfl
  have hDc : va_D A [(h0, .inr (3, [.ref lg, .ref fs, .ref ps, .long fa, .long fb, .int mt, .int re])), (lg, .inr (0, [.ref lc, .ref lt, .int (nI k)])), (lc, .inl (cI, 36, .inl cs)), (lt, .inl (cI, 36, .inl ts))] := hD.sub (ws' := [(h0, .inr (3, [.ref lg, .ref fs, .ref ps, .long fa, .long fb, .int mt, .int re])), (lg, .inr (0, [.ref lc, .ref lt, .int (nI k)])), (lc, .inl (cI, 36, .inl cs)), (lt, .inl (cI, 36, .inl ts))]) [0, 1, 2, 3] (by decide) rfl
  have hFc := va_free (wc := [(h0, .inr (3, [.ref lg, .ref fs, .ref ps, .long fa, .long fb, .int mt, .int re])), (lg, .inr (0, [.ref lc, .ref lt, .int (nI k)])), (lc, .inl (cI, 36, .inl cs)), (lt, .inl (cI, 36, .inl ts))]) hD hS hA [0, 1, 2, 3] rfl
  refine vx_calli (vx_runV (As := [.int q, .int y]) (rest := [.int 0, .ref ob]) ⟨hx, hb, hml, hown, hts⟩ (c_X6_turn l hltr D cI cJ s.heap.size  h0 lg lc lt fs ps fa fb mt re cs ts k (by omega) q y hm) (cwV 2 hts gL_turn_X6_turn rfl rfl rfl (by decide +kernel) ⟨Nat.le_of_ble_eq_true rfl, Nat.le_of_ble_eq_true rfl⟩) ⟨(px_blindX pv_blind), va_recv hK hPc (ci := 3) (q0 := 0) rfl rfl, fun U hU hW => ⟨rfl, hEX.warm hW, by rw [hU]; exact hZ.to hS hW.alike hFc, by rw [hU], by rw [hU]; exact hPc, va_K.moved hW.alike hK, hDc.weaken (fun _ _ _ _ => trivial)⟩⟩ rfl rfl hl.1 rfl (lv_room (Nat.le_of_ble_eq_true rfl)) dL_turn_5 ⟨(Nat.le_of_ble_eq_true rfl), (Nat.le_of_ble_eq_true rfl)⟩) hS (fun q _ h => hFc q h) hFc (fun q _ h => hFc q h) (fun E ce q9 u9 t9 H1 locs hth hvm hpx hB9 hz1 hk1 hS hce hcv hcl => ?_) (fun r5 u t9 H1 locs hth hvm hw5 hB9 hz1 hk1 hS => ?_)
  · obtain ⟨hb9, hP1, hK1, hD1⟩ := hB9
    rw [hth] at hP1
    obtain ⟨hP, hD⟩ := va_join (wr := [(ob, .inl (cJ, 1, .inr (.inl ov)))]) (w1 := [(h0, .inr (3, [.ref lg, .ref fs, .ref ps, .long fa, .long fb, .int mt, .int re])), (lg, .inr (0, [.ref lc, .ref lt, .int (nI k)])), (lc, .inl (cI, 36, .inl cs)), (lt, .inl (cI, 36, .inl ts))]) hP hD [0, 1, 2, 3] [4] rfl rfl (by decide) (by decide) hk1 hFc hP1 hD1
    have hP : va_P D vwCl [(h0, .inr (3, [.ref lg, .ref fs, .ref ps, .long fa, .long fb, .int mt, .int re])), (lg, .inr (0, [.ref lc, .ref lt, .int (nI k)])), (lc, .inl (cI, 36, .inl cs)), (lt, .inl (cI, 36, .inl ts)), (ob, .inl (cJ, 1, .inr (.inl ov)))] H1 := hP.sub (ws' := [(h0, .inr (3, [.ref lg, .ref fs, .ref ps, .long fa, .long fb, .int mt, .int re])), (lg, .inr (0, [.ref lc, .ref lt, .int (nI k)])), (lc, .inl (cI, 36, .inl cs)), (lt, .inl (cI, 36, .inl ts)), (ob, .inl (cJ, 1, .inr (.inl ov)))]) [1, 2, 3, 4, 0] rfl
    have hD : va_D A [(h0, .inr (3, [.ref lg, .ref fs, .ref ps, .long fa, .long fb, .int mt, .int re])), (lg, .inr (0, [.ref lc, .ref lt, .int (nI k)])), (lc, .inl (cI, 36, .inl cs)), (lt, .inl (cI, 36, .inl ts)), (ob, .inl (cJ, 1, .inr (.inl ov)))] := hD.sub (ws' := [(h0, .inr (3, [.ref lg, .ref fs, .ref ps, .long fa, .long fb, .int mt, .int re])), (lg, .inr (0, [.ref lc, .ref lt, .int (nI k)])), (lc, .inl (cI, 36, .inl cs)), (lt, .inl (cI, 36, .inl ts)), (ob, .inl (cJ, 1, .inr (.inl ov)))]) [1, 2, 3, 4, 0] (by decide) rfl
    obtain rfl : E = nIAE := (by { rcases hb9 with h | h | h; { exact absurd hc h.2 }; { exact h.1 }; exact absurd h.2.2.1 hbad })
    refine vx_catch (own := RL) (name := nIAE) hown [⟨0, 10, 13, 13⟩] ⟨0, 10, 17, 21⟩ [⟨0, 10, 21, 15⟩] (htb.trans rfl) (fun z hz => by { obtain rfl := List.mem_singleton.mp hz; exact Or.inr ⟨by decide, nIOB, hts (.classLink RL 13 nIOB) (by decide +kernel), hNC.2.1⟩ }) (by decide) (by decide) (hts (.classLink RL 21 nIAE) (by decide +kernel)) (va_Nw.use rfl hEX.2.2.2.1) hce hcv hcl ?_
    refine lv_astore (lv' := [(4, .ref q9), (0, .ref h0), (1, .int q), (2, .int y), (3, .ref ob)]) hx hb dL_turn_17 hl (by decide) rfl (fun ls hl => ?_)
    refine lv_iconst (v := 2) hx hb dL_turn_19 (by decide) ?_
    refine W.widen (k := 3) (n := 18) (Nat.le_of_ble_eq_true rfl) (Nat.le_of_ble_eq_true rfl) ?_
    refine W.iret (v := 2) hx hb hr (fun tt ht hW => ⟨⟨2, (), rfl, ?_, by rw [ht]; exact hP, va_K.moved hW.alike hK, hD⟩, hS.F ht⟩) hS.2.2 dL_turn_20
    exact rfl
  · try dsimp only at hw5
    obtain ⟨q9, y9, h1, h2, h3, h4, _⟩ := hw5; exact absurd (show iw y from by rw [h4]; exact w_ok h2) hbad

set_option maxHeartbeats 400000 in
set_option maxRecDepth 100000 in
theorem c_L_turn_bad3 (l : Launch) (hltr : l.stackTraces = false) (D : va_G) (cI cJ : ClassId) (sz : Nat) (h0 lg lc lt fs ps : Nat) (fa fb : Int64) (mt re : Int32) (cs ts : Nat → Int32) (k : Nat) (hk : k ≤ 36) (ob : Nat) (ov : Nat → Int64) (q y : Int32) (hm : mt = 0 ∨ 0 < k) (hc : iq q ∧ iw y) (hbad : ¬ (re = 0 ∧ ¬ mt = 0)) : Met l yL_turn wsL_turn ({ frames := 8, cells := 3, slots := 18, locals := 133 } : Room) (va_Pc [.ref h0, .int q, .int y, .ref ob] (px_N (px_X (va_A [(h0, .inr (3, [.ref lg, .ref fs, .ref ps, .long fa, .long fb, .int mt, .int re])), (lg, .inr (0, [.ref lc, .ref lt, .int (nI k)])), (lc, .inl (cI, 36, .inl cs)), (lt, .inl (cI, 36, .inl ts)), (ob, .inl (cJ, 1, .inr (.inl ov)))] sz) (pv_C D cI cJ [(h0, .inr (3, [.ref lg, .ref fs, .ref ps, .long fa, .long fb, .int mt, .int re])), (lg, .inr (0, [.ref lc, .ref lt, .int (nI k)])), (lc, .inl (cI, 36, .inl cs)), (lt, .inl (cI, 36, .inl ts)), (ob, .inl (cJ, 1, .inr (.inl ov)))] sz)))) (va_Qi (fun (r : Int32) (u : Unit) => r = 3) (fun (u : Unit) => pv_B D cI cJ (va_A [(h0, .inr (3, [.ref lg, .ref fs, .ref ps, .long fa, .long fb, .int mt, .int re])), (lg, .inr (0, [.ref lc, .ref lt, .int (nI k)])), (lc, .inl (cI, 36, .inl cs)), (lt, .inl (cI, 36, .inl ts)), (ob, .inl (cJ, 1, .inr (.inl ov)))] sz) [(h0, .inr (3, [.ref lg, .ref fs, .ref ps, .long fa, .long fb, .int mt, .int re])), (lg, .inr (0, [.ref lc, .ref lt, .int (nI k)])), (lc, .inl (cI, 36, .inl cs)), (lt, .inl (cI, 36, .inl ts)), (ob, .inl (cJ, 1, .inr (.inl ov)))]) (va_A [(h0, .inr (3, [.ref lg, .ref fs, .ref ps, .long fa, .long fb, .int mt, .int re])), (lg, .inr (0, [.ref lc, .ref lt, .int (nI k)])), (lc, .inl (cI, 36, .inl cs)), (lt, .inl (cI, 36, .inl ts)), (ob, .inl (cJ, 1, .inr (.inl ov)))] sz)) 3 18 (va_A [(h0, .inr (3, [.ref lg, .ref fs, .ref ps, .long fa, .long fb, .int mt, .int re])), (lg, .inr (0, [.ref lc, .ref lt, .int (nI k)])), (lc, .inl (cI, 36, .inl cs)), (lt, .inl (cI, 36, .inl ts)), (ob, .inl (cJ, 1, .inr (.inl ov)))] sz) := by
  refine va_MetW (cc := cL_turn) (maxL := 5) (ret := (some .int)) (hh := [(0, 10, 13, 13), (0, 10, 17, 21), (0, 10, 21, 15)]) (by decide) rfl ?_
  intro p e s m args below meth c s₁ B hml hv
  obtain ⟨rfl, hNC, hEN, hEX, hZ, rfl, hP, hK, hD0⟩ := hv
  have hx := B.exec
  have hb := B.bytes
  have hr := B.returns
  have hts := atoms_spec (ws := wsL_turn) B.pre
  have hown : s.vm.findClass RL = some m.cls := findClass_of_methodNamed B.named
  have hlocks := B.notSynchronized
  have htb := vx_table (x := yL_turn) B (hts _ (List.mem_of_getElem? (i := 0) rfl))
  have hD := hD0.self (sz := s.heap.size)
  generalize hAe : va_A [(h0, .inr (3, [.ref lg, .ref fs, .ref ps, .long fa, .long fb, .int mt, .int re])), (lg, .inr (0, [.ref lc, .ref lt, .int (nI k)])), (lc, .inl (cI, 36, .inl cs)), (lt, .inl (cI, 36, .inl ts)), (ob, .inl (cJ, 1, .inr (.inl ov)))] s.heap.size = A at hD hZ ⊢
  have hA : ∀ q : Nat, s.heap.size ≤ q → A q := fun q h => by rw [← hAe]; exact Or.inr h
  have hS : va_S A s.heap s.heap [] := va_S.rf
  have hl := lv_entry ([.ref h0, .int q, .int y, .ref ob]) (n := 5) (Nat.le_of_ble_eq_true rfl)
  rw [lg_entry_eq]
  generalize (lg_sl ([.ref h0, .int q, .int y, .ref ob]) ++ List.replicate (5 - (lg_sl ([.ref h0, .int q, .int y, .ref ob])).length) Slot.unset).toArray = ls at hl ⊢
  have hl : lv_has ls 5 [(0, .ref h0), (1, .int q), (2, .int y), (3, .ref ob)] := hl
  refine lv_aload_n hx hb dL_turn_0 rfl (lv_at hl 3 rfl) ?_
  refine lv_iconst (v := 0) hx hb dL_turn_1 (by decide) ?_
  refine lv_aload_n hx hb dL_turn_2 rfl (lv_at hl 0 rfl) ?_
  refine lv_iload_n hx hb dL_turn_3 rfl (lv_at hl 1 rfl) ?_
  refine lv_iload_n hx hb dL_turn_4 rfl (lv_at hl 2 rfl) ?_
  have hPc : va_P D vwCl [(h0, .inr (3, [.ref lg, .ref fs, .ref ps, .long fa, .long fb, .int mt, .int re])), (lg, .inr (0, [.ref lc, .ref lt, .int (nI k)])), (lc, .inl (cI, 36, .inl cs)), (lt, .inl (cI, 36, .inl ts))] s.heap := hP.sub (ws' := [(h0, .inr (3, [.ref lg, .ref fs, .ref ps, .long fa, .long fb, .int mt, .int re])), (lg, .inr (0, [.ref lc, .ref lt, .int (nI k)])), (lc, .inl (cI, 36, .inl cs)), (lt, .inl (cI, 36, .inl ts))]) [0, 1, 2, 3] rfl
  have hDc : va_D A [(h0, .inr (3, [.ref lg, .ref fs, .ref ps, .long fa, .long fb, .int mt, .int re])), (lg, .inr (0, [.ref lc, .ref lt, .int (nI k)])), (lc, .inl (cI, 36, .inl cs)), (lt, .inl (cI, 36, .inl ts))] := hD.sub (ws' := [(h0, .inr (3, [.ref lg, .ref fs, .ref ps, .long fa, .long fb, .int mt, .int re])), (lg, .inr (0, [.ref lc, .ref lt, .int (nI k)])), (lc, .inl (cI, 36, .inl cs)), (lt, .inl (cI, 36, .inl ts))]) [0, 1, 2, 3] (by decide) rfl
  have hFc := va_free (wc := [(h0, .inr (3, [.ref lg, .ref fs, .ref ps, .long fa, .long fb, .int mt, .int re])), (lg, .inr (0, [.ref lc, .ref lt, .int (nI k)])), (lc, .inl (cI, 36, .inl cs)), (lt, .inl (cI, 36, .inl ts))]) hD hS hA [0, 1, 2, 3] rfl
  refine vx_calli (vx_runV (As := [.int q, .int y]) (rest := [.int 0, .ref ob]) ⟨hx, hb, hml, hown, hts⟩ (c_X6_turn l hltr D cI cJ s.heap.size  h0 lg lc lt fs ps fa fb mt re cs ts k (by omega) q y hm) (cwV 2 hts gL_turn_X6_turn rfl rfl rfl (by decide +kernel) ⟨Nat.le_of_ble_eq_true rfl, Nat.le_of_ble_eq_true rfl⟩) ⟨(px_blindX pv_blind), va_recv hK hPc (ci := 3) (q0 := 0) rfl rfl, fun U hU hW => ⟨rfl, hEX.warm hW, by rw [hU]; exact hZ.to hS hW.alike hFc, by rw [hU], by rw [hU]; exact hPc, va_K.moved hW.alike hK, hDc.weaken (fun _ _ _ _ => trivial)⟩⟩ rfl rfl hl.1 rfl (lv_room (Nat.le_of_ble_eq_true rfl)) dL_turn_5 ⟨(Nat.le_of_ble_eq_true rfl), (Nat.le_of_ble_eq_true rfl)⟩) hS (fun q _ h => hFc q h) hFc (fun q _ h => hFc q h) (fun E ce q9 u9 t9 H1 locs hth hvm hpx hB9 hz1 hk1 hS hce hcv hcl => ?_) (fun r5 u t9 H1 locs hth hvm hw5 hB9 hz1 hk1 hS => ?_)
  · obtain ⟨hb9, hP1, hK1, hD1⟩ := hB9
    rw [hth] at hP1
    obtain ⟨hP, hD⟩ := va_join (wr := [(ob, .inl (cJ, 1, .inr (.inl ov)))]) (w1 := [(h0, .inr (3, [.ref lg, .ref fs, .ref ps, .long fa, .long fb, .int mt, .int re])), (lg, .inr (0, [.ref lc, .ref lt, .int (nI k)])), (lc, .inl (cI, 36, .inl cs)), (lt, .inl (cI, 36, .inl ts))]) hP hD [0, 1, 2, 3] [4] rfl rfl (by decide) (by decide) hk1 hFc hP1 hD1
    have hP : va_P D vwCl [(h0, .inr (3, [.ref lg, .ref fs, .ref ps, .long fa, .long fb, .int mt, .int re])), (lg, .inr (0, [.ref lc, .ref lt, .int (nI k)])), (lc, .inl (cI, 36, .inl cs)), (lt, .inl (cI, 36, .inl ts)), (ob, .inl (cJ, 1, .inr (.inl ov)))] H1 := hP.sub (ws' := [(h0, .inr (3, [.ref lg, .ref fs, .ref ps, .long fa, .long fb, .int mt, .int re])), (lg, .inr (0, [.ref lc, .ref lt, .int (nI k)])), (lc, .inl (cI, 36, .inl cs)), (lt, .inl (cI, 36, .inl ts)), (ob, .inl (cJ, 1, .inr (.inl ov)))]) [1, 2, 3, 4, 0] rfl
    have hD : va_D A [(h0, .inr (3, [.ref lg, .ref fs, .ref ps, .long fa, .long fb, .int mt, .int re])), (lg, .inr (0, [.ref lc, .ref lt, .int (nI k)])), (lc, .inl (cI, 36, .inl cs)), (lt, .inl (cI, 36, .inl ts)), (ob, .inl (cJ, 1, .inr (.inl ov)))] := hD.sub (ws' := [(h0, .inr (3, [.ref lg, .ref fs, .ref ps, .long fa, .long fb, .int mt, .int re])), (lg, .inr (0, [.ref lc, .ref lt, .int (nI k)])), (lc, .inl (cI, 36, .inl cs)), (lt, .inl (cI, 36, .inl ts)), (ob, .inl (cJ, 1, .inr (.inl ov)))]) [1, 2, 3, 4, 0] (by decide) rfl
    obtain rfl : E = nISE := (by { rcases hb9 with h | h | h; { exact absurd hc.1 h.2 }; { exact absurd hc.2 h.2.2 }; exact h.1 })
    refine vx_catch (own := RL) (name := nISE) hown [⟨0, 10, 13, 13⟩, ⟨0, 10, 17, 21⟩] ⟨0, 10, 21, 15⟩ [] (htb.trans rfl) (fun z hz => by { rcases List.mem_cons.mp hz with rfl | hz; · { exact Or.inr ⟨by decide, nIOB, hts (.classLink RL 13 nIOB) (by decide +kernel), hNC.1⟩ }; · { obtain rfl := List.mem_singleton.mp hz; exact Or.inr ⟨by decide, nIAE, hts (.classLink RL 21 nIAE) (by decide +kernel), hNC.2.2⟩ } }) (by decide) (by decide) (hts (.classLink RL 15 nISE) (by decide +kernel)) (va_Nw.use rfl hEX.2.2.1) hce hcv hcl ?_
    refine lv_astore (lv' := [(4, .ref q9), (0, .ref h0), (1, .int q), (2, .int y), (3, .ref ob)]) hx hb dL_turn_21 hl (by decide) rfl (fun ls hl => ?_)
    refine lv_iconst (v := 3) hx hb dL_turn_23 (by decide) ?_
    refine W.widen (k := 3) (n := 18) (Nat.le_of_ble_eq_true rfl) (Nat.le_of_ble_eq_true rfl) ?_
    refine W.iret (v := 3) hx hb hr (fun tt ht hW => ⟨⟨3, (), rfl, ?_, by rw [ht]; exact hP, va_K.moved hW.alike hK, hD⟩, hS.F ht⟩) hS.2.2 dL_turn_24
    exact rfl
  · try dsimp only at hw5
    obtain ⟨q9, y9, h1, h2, h3, h4, h5, h6, h7, _⟩ := hw5; exact absurd ⟨h6, h7⟩ hbad

set_option maxHeartbeats 400000 in
set_option maxRecDepth 100000 in
theorem c_L_undo_bad (l : Launch) (hltr : l.stackTraces = false) (D : va_G) (cI cJ : ClassId) (sz : Nat) (h0 lg lc lt fs ps : Nat) (fa fb : Int64) (mt re : Int32) (cs ts : Nat → Int32) (ob : Nat) (ov : Nat → Int64)  : Met l yL_undo wsL_undo ({ frames := 7, cells := 1, slots := 6, locals := 114 } : Room) (va_Pc [.ref h0, .ref ob] (px_N (px_X (va_A [(h0, .inr (3, [.ref lg, .ref fs, .ref ps, .long fa, .long fb, .int mt, .int re])), (lg, .inr (0, [.ref lc, .ref lt, .int 0])), (lc, .inl (cI, 36, .inl cs)), (lt, .inl (cI, 36, .inl ts)), (ob, .inl (cJ, 1, .inr (.inl ov)))] sz) (pv_C D cI cJ [(h0, .inr (3, [.ref lg, .ref fs, .ref ps, .long fa, .long fb, .int mt, .int re])), (lg, .inr (0, [.ref lc, .ref lt, .int 0])), (lc, .inl (cI, 36, .inl cs)), (lt, .inl (cI, 36, .inl ts)), (ob, .inl (cJ, 1, .inr (.inl ov)))] sz)))) (va_Qi (fun (r : Int32) (u : Unit) => r = 1) (fun (u : Unit) => pv_B D cI cJ (va_A [(h0, .inr (3, [.ref lg, .ref fs, .ref ps, .long fa, .long fb, .int mt, .int re])), (lg, .inr (0, [.ref lc, .ref lt, .int 0])), (lc, .inl (cI, 36, .inl cs)), (lt, .inl (cI, 36, .inl ts)), (ob, .inl (cJ, 1, .inr (.inl ov)))] sz) [(h0, .inr (3, [.ref lg, .ref fs, .ref ps, .long fa, .long fb, .int mt, .int re])), (lg, .inr (0, [.ref lc, .ref lt, .int 0])), (lc, .inl (cI, 36, .inl cs)), (lt, .inl (cI, 36, .inl ts)), (ob, .inl (cJ, 1, .inr (.inl ov)))]) (va_A [(h0, .inr (3, [.ref lg, .ref fs, .ref ps, .long fa, .long fb, .int mt, .int re])), (lg, .inr (0, [.ref lc, .ref lt, .int 0])), (lc, .inl (cI, 36, .inl cs)), (lt, .inl (cI, 36, .inl ts)), (ob, .inl (cJ, 1, .inr (.inl ov)))] sz)) 1 6 (va_A [(h0, .inr (3, [.ref lg, .ref fs, .ref ps, .long fa, .long fb, .int mt, .int re])), (lg, .inr (0, [.ref lc, .ref lt, .int 0])), (lc, .inl (cI, 36, .inl cs)), (lt, .inl (cI, 36, .inl ts)), (ob, .inl (cJ, 1, .inr (.inl ov)))] sz) := by
  refine va_MetW (cc := cL_undo) (maxL := 3) (ret := (some .int)) (hh := [(0, 15, 18, 15)]) (by decide) rfl ?_
  intro p e s m args below meth c s₁ B hml hv
  obtain ⟨rfl, hNC, hEN, hEX, hZ, rfl, hP, hK, hD0⟩ := hv
  have hx := B.exec
  have hb := B.bytes
  have hr := B.returns
  have hts := atoms_spec (ws := wsL_undo) B.pre
  have hown : s.vm.findClass RL = some m.cls := findClass_of_methodNamed B.named
  have hlocks := B.notSynchronized
  have htb := vx_table (x := yL_undo) B (hts _ (List.mem_of_getElem? (i := 0) rfl))
  have hD := hD0.self (sz := s.heap.size)
  generalize hAe : va_A [(h0, .inr (3, [.ref lg, .ref fs, .ref ps, .long fa, .long fb, .int mt, .int re])), (lg, .inr (0, [.ref lc, .ref lt, .int 0])), (lc, .inl (cI, 36, .inl cs)), (lt, .inl (cI, 36, .inl ts)), (ob, .inl (cJ, 1, .inr (.inl ov)))] s.heap.size = A at hD hZ ⊢
  have hA : ∀ q : Nat, s.heap.size ≤ q → A q := fun q h => by rw [← hAe]; exact Or.inr h
  have hS : va_S A s.heap s.heap [] := va_S.rf
  have hl := lv_entry ([.ref h0, .ref ob]) (n := 3) (Nat.le_of_ble_eq_true rfl)
  rw [lg_entry_eq]
  generalize (lg_sl ([.ref h0, .ref ob]) ++ List.replicate (3 - (lg_sl ([.ref h0, .ref ob])).length) Slot.unset).toArray = ls at hl ⊢
  have hl : lv_has ls 3 [(0, .ref h0), (1, .ref ob)] := hl
  refine lv_aload_n hx hb dL_undo_0 rfl (lv_at hl 1 rfl) ?_
  refine lv_iconst (v := 0) hx hb dL_undo_1 (by decide) ?_
  refine lv_aload_n hx hb dL_undo_2 rfl (lv_at hl 0 rfl) ?_
  have hPc : va_P D vwCl [(h0, .inr (3, [.ref lg, .ref fs, .ref ps, .long fa, .long fb, .int mt, .int re])), (lg, .inr (0, [.ref lc, .ref lt, .int 0])), (lc, .inl (cI, 36, .inl cs)), (lt, .inl (cI, 36, .inl ts))] s.heap := hP.sub (ws' := [(h0, .inr (3, [.ref lg, .ref fs, .ref ps, .long fa, .long fb, .int mt, .int re])), (lg, .inr (0, [.ref lc, .ref lt, .int 0])), (lc, .inl (cI, 36, .inl cs)), (lt, .inl (cI, 36, .inl ts))]) [0, 1, 2, 3] rfl
  have hDc : va_D A [(h0, .inr (3, [.ref lg, .ref fs, .ref ps, .long fa, .long fb, .int mt, .int re])), (lg, .inr (0, [.ref lc, .ref lt, .int 0])), (lc, .inl (cI, 36, .inl cs)), (lt, .inl (cI, 36, .inl ts))] := hD.sub (ws' := [(h0, .inr (3, [.ref lg, .ref fs, .ref ps, .long fa, .long fb, .int mt, .int re])), (lg, .inr (0, [.ref lc, .ref lt, .int 0])), (lc, .inl (cI, 36, .inl cs)), (lt, .inl (cI, 36, .inl ts))]) [0, 1, 2, 3] (by decide) rfl
  have hFc := va_free (wc := [(h0, .inr (3, [.ref lg, .ref fs, .ref ps, .long fa, .long fb, .int mt, .int re])), (lg, .inr (0, [.ref lc, .ref lt, .int 0])), (lc, .inl (cI, 36, .inl cs)), (lt, .inl (cI, 36, .inl ts))]) hD hS hA [0, 1, 2, 3] rfl
  refine vx_calli (vx_runV (As := []) (rest := [.int 0, .ref ob]) ⟨hx, hb, hml, hown, hts⟩ (c_X6_undo_bad l hltr D cI cJ s.heap.size  h0 lg lc lt fs ps fa fb mt re cs ts) (cwV 0 hts gL_undo_X6_undo rfl rfl rfl (by decide +kernel) ⟨Nat.le_of_ble_eq_true rfl, Nat.le_of_ble_eq_true rfl⟩) ⟨(px_blindX pv_blind), va_recv hK hPc (ci := 3) (q0 := 0) rfl rfl, fun U hU hW => ⟨rfl, hEX.warm hW, by rw [hU]; exact hZ.to hS hW.alike hFc, by rw [hU], by rw [hU]; exact hPc, va_K.moved hW.alike hK, hDc.weaken (fun _ _ _ _ => trivial)⟩⟩ rfl rfl hl.1 rfl (lv_room (Nat.le_of_ble_eq_true rfl)) dL_undo_3 ⟨(Nat.le_of_ble_eq_true rfl), (Nat.le_of_ble_eq_true rfl)⟩) hS (fun q _ h => hFc q h) hFc (fun q _ h => hFc q h) (fun E ce q9 u9 t9 H1 locs hth hvm hpx hB9 hz1 hk1 hS hce hcv hcl => ?_) (fun r3 u t9 H1 locs hth hvm hw3 hB9 hz1 hk1 hS => ?_)
  · obtain ⟨hb9, hP1, hK1, hD1⟩ := hB9
    rw [hth] at hP1
    obtain ⟨hP, hD⟩ := va_join (wr := [(ob, .inl (cJ, 1, .inr (.inl ov)))]) (w1 := [(h0, .inr (3, [.ref lg, .ref fs, .ref ps, .long fa, .long fb, .int mt, .int re])), (lg, .inr (0, [.ref lc, .ref lt, .int 0])), (lc, .inl (cI, 36, .inl cs)), (lt, .inl (cI, 36, .inl ts))]) hP hD [0, 1, 2, 3] [4] rfl rfl (by decide) (by decide) hk1 hFc hP1 hD1
    have hP : va_P D vwCl [(h0, .inr (3, [.ref lg, .ref fs, .ref ps, .long fa, .long fb, .int mt, .int re])), (lg, .inr (0, [.ref lc, .ref lt, .int 0])), (lc, .inl (cI, 36, .inl cs)), (lt, .inl (cI, 36, .inl ts)), (ob, .inl (cJ, 1, .inr (.inl ov)))] H1 := hP.sub (ws' := [(h0, .inr (3, [.ref lg, .ref fs, .ref ps, .long fa, .long fb, .int mt, .int re])), (lg, .inr (0, [.ref lc, .ref lt, .int 0])), (lc, .inl (cI, 36, .inl cs)), (lt, .inl (cI, 36, .inl ts)), (ob, .inl (cJ, 1, .inr (.inl ov)))]) [1, 2, 3, 4, 0] rfl
    have hD : va_D A [(h0, .inr (3, [.ref lg, .ref fs, .ref ps, .long fa, .long fb, .int mt, .int re])), (lg, .inr (0, [.ref lc, .ref lt, .int 0])), (lc, .inl (cI, 36, .inl cs)), (lt, .inl (cI, 36, .inl ts)), (ob, .inl (cJ, 1, .inr (.inl ov)))] := hD.sub (ws' := [(h0, .inr (3, [.ref lg, .ref fs, .ref ps, .long fa, .long fb, .int mt, .int re])), (lg, .inr (0, [.ref lc, .ref lt, .int 0])), (lc, .inl (cI, 36, .inl cs)), (lt, .inl (cI, 36, .inl ts)), (ob, .inl (cJ, 1, .inr (.inl ov)))]) [1, 2, 3, 4, 0] (by decide) rfl
    obtain rfl : E = nISE := hb9
    refine vx_catch (own := RL) (name := nISE) hown [] ⟨0, 15, 18, 15⟩ [] (htb.trans rfl) (fun z hz => nomatch hz) (by decide) (by decide) (hts (.classLink RL 15 nISE) (by decide +kernel)) (va_Nw.use rfl hEX.2.2.1) hce hcv hcl ?_
    refine lv_astore_n (lv' := [(2, .ref q9), (0, .ref h0), (1, .ref ob)]) hx hb dL_undo_18 rfl hl (by decide) rfl (fun ls hl => ?_)
    refine lv_iconst (v := 1) hx hb dL_undo_19 (by decide) ?_
    refine W.widen (k := 1) (n := 6) (Nat.le_of_ble_eq_true rfl) (Nat.le_of_ble_eq_true rfl) ?_
    refine W.iret (v := 1) hx hb hr (fun tt ht hW => ⟨⟨1, (), rfl, ?_, by rw [ht]; exact hP, va_K.moved hW.alike hK, hD⟩, hS.F ht⟩) hS.2.2 dL_undo_20
    exact rfl
  · try dsimp only at hw3
    exact hw3.elim

set_option maxHeartbeats 400000 in
set_option maxRecDepth 100000 in
theorem c_L_undo_turn (l : Launch) (hltr : l.stackTraces = false) (D : va_G) (cI cJ : ClassId) (sz : Nat) (h0 lg lc lt fs ps : Nat) (fa fb : Int64) (mt re : Int32) (cs ts : Nat → Int32) (k : Nat) (hk : k ≤ 36) (ob : Nat) (ov : Nat → Int64) (tn : Nat) (htn : tn < 8) (hk0 : 0 < k) (ht9 : ts (k - 1) = nI tn) : Met l yL_undo wsL_undo ({ frames := 6, cells := 0, slots := 0, locals := 98 } : Room) (va_Pc [.ref h0, .ref ob] (px_N (px_X (va_A [(h0, .inr (3, [.ref lg, .ref fs, .ref ps, .long fa, .long fb, .int mt, .int re])), (lg, .inr (0, [.ref lc, .ref lt, .int (nI k)])), (lc, .inl (cI, 36, .inl cs)), (lt, .inl (cI, 36, .inl ts)), (ob, .inl (cJ, 1, .inr (.inl ov)))] sz) (pv_C D cI cJ [(h0, .inr (3, [.ref lg, .ref fs, .ref ps, .long fa, .long fb, .int mt, .int re])), (lg, .inr (0, [.ref lc, .ref lt, .int (nI k)])), (lc, .inl (cI, 36, .inl cs)), (lt, .inl (cI, 36, .inl ts)), (ob, .inl (cJ, 1, .inr (.inl ov)))] sz)))) (va_Qi (fun (r : Int32) (u : Unit) => r = 0) (fun (u : Unit) => pv_B D cI cJ (va_A [(h0, .inr (3, [.ref lg, .ref fs, .ref ps, .long fa, .long fb, .int mt, .int re])), (lg, .inr (0, [.ref lc, .ref lt, .int (nI k)])), (lc, .inl (cI, 36, .inl cs)), (lt, .inl (cI, 36, .inl ts)), (ob, .inl (cJ, 1, .inr (.inl ov)))] sz) [(h0, .inr (3, [.ref lg, .ref fs, .ref ps, .long (cturned fa (2 * (tn / 2) + (1 - tn % 2))), .long (cturned fb (2 * (tn / 2) + (1 - tn % 2))), .int 1, .int 0])), (lg, .inr (0, [.ref lc, .ref lt, .int (nI k)])), (lc, .inl (cI, 36, .inl cs)), (lt, .inl (cI, 36, .inl (upd ts (k - 1) (-1)))), (ob, .inl (cJ, 1, .inr (.inl (vp_updL ov 0 1))))]) (va_A [(h0, .inr (3, [.ref lg, .ref fs, .ref ps, .long fa, .long fb, .int mt, .int re])), (lg, .inr (0, [.ref lc, .ref lt, .int (nI k)])), (lc, .inl (cI, 36, .inl cs)), (lt, .inl (cI, 36, .inl ts)), (ob, .inl (cJ, 1, .inr (.inl ov)))] sz)) 0 0 (va_A [(h0, .inr (3, [.ref lg, .ref fs, .ref ps, .long fa, .long fb, .int mt, .int re])), (lg, .inr (0, [.ref lc, .ref lt, .int (nI k)])), (lc, .inl (cI, 36, .inl cs)), (lt, .inl (cI, 36, .inl ts)), (ob, .inl (cJ, 1, .inr (.inl ov)))] sz) := by
  refine va_MetW (cc := cL_undo) (maxL := 3) (ret := (some .int)) (hh := [(0, 15, 18, 15)]) (by decide) rfl ?_
  intro p e s m args below meth c s₁ B hml hv
  obtain ⟨rfl, hNC, hEN, hEX, hZ, rfl, hP, hK, hD0⟩ := hv
  have hx := B.exec
  have hb := B.bytes
  have hr := B.returns
  have hts := atoms_spec (ws := wsL_undo) B.pre
  have hown : s.vm.findClass RL = some m.cls := findClass_of_methodNamed B.named
  have hlocks := B.notSynchronized
  have htb := vx_table (x := yL_undo) B (hts _ (List.mem_of_getElem? (i := 0) rfl))
  have hD := hD0.self (sz := s.heap.size)
  generalize hAe : va_A [(h0, .inr (3, [.ref lg, .ref fs, .ref ps, .long fa, .long fb, .int mt, .int re])), (lg, .inr (0, [.ref lc, .ref lt, .int (nI k)])), (lc, .inl (cI, 36, .inl cs)), (lt, .inl (cI, 36, .inl ts)), (ob, .inl (cJ, 1, .inr (.inl ov)))] s.heap.size = A at hD hZ ⊢
  have hA : ∀ q : Nat, s.heap.size ≤ q → A q := fun q h => by rw [← hAe]; exact Or.inr h
  have hS : va_S A s.heap s.heap [] := va_S.rf
  have hl := lv_entry ([.ref h0, .ref ob]) (n := 3) (Nat.le_of_ble_eq_true rfl)
  rw [lg_entry_eq]
  generalize (lg_sl ([.ref h0, .ref ob]) ++ List.replicate (3 - (lg_sl ([.ref h0, .ref ob])).length) Slot.unset).toArray = ls at hl ⊢
  have hl : lv_has ls 3 [(0, .ref h0), (1, .ref ob)] := hl
  refine lv_aload_n hx hb dL_undo_0 rfl (lv_at hl 1 rfl) ?_
  refine lv_iconst (v := 0) hx hb dL_undo_1 (by decide) ?_
  refine lv_aload_n hx hb dL_undo_2 rfl (lv_at hl 0 rfl) ?_
  have hPc := hP.sub (ws' := [(h0, .inr (3, [.ref lg, .ref fs, .ref ps, .long fa, .long fb, .int mt, .int re])), (lg, .inr (0, [.ref lc, .ref lt, .int (nI k)])), (lc, .inl (cI, 36, .inl cs)), (lt, .inl (cI, 36, .inl ts))]) [0, 1, 2, 3] rfl
  have hDc := hD.sub (ws' := [(h0, .inr (3, [.ref lg, .ref fs, .ref ps, .long fa, .long fb, .int mt, .int re])), (lg, .inr (0, [.ref lc, .ref lt, .int (nI k)])), (lc, .inl (cI, 36, .inl cs)), (lt, .inl (cI, 36, .inl ts))]) [0, 1, 2, 3] (by decide) rfl
  have hFc := va_free (wc := [(h0, .inr (3, [.ref lg, .ref fs, .ref ps, .long fa, .long fb, .int mt, .int re])), (lg, .inr (0, [.ref lc, .ref lt, .int (nI k)])), (lc, .inl (cI, 36, .inl cs)), (lt, .inl (cI, 36, .inl ts))]) hD hS hA [0, 1, 2, 3] rfl
  refine va_calli (va_runV (As := []) (rest := [.int 0, .ref ob]) ⟨hx, hb, hml, hown, hts⟩ (c_X6_undo_turn l D cI cJ s.heap.size  h0 lg lc lt fs ps fa fb mt re cs ts k (by omega) tn (by omega) (by omega) ht9) (cwV 0 hts gL_undo_X6_undo rfl rfl rfl (by decide +kernel) ⟨Nat.le_of_ble_eq_true rfl, Nat.le_of_ble_eq_true rfl⟩) ⟨(px_blindE pv_blind), va_recv hK hPc (ci := 3) (q0 := 0) rfl rfl, fun U hU hW => ⟨rfl, hEN.warm hW, by rw [hU], by rw [hU]; exact hPc, va_K.moved hW.alike hK, hDc.weaken (fun _ _ _ _ => trivial)⟩⟩ rfl rfl hl.1 rfl (lv_room (Nat.le_of_ble_eq_true rfl)) dL_undo_3 ⟨(Nat.le_of_ble_eq_true rfl), (Nat.le_of_ble_eq_true rfl)⟩) hS (fun q _ h => hFc q h) hFc (fun r3 u t9 H1 locs hth hvm hw3 hB hz1 hk1 hS => ?_)
  try dsimp only at hw3
  obtain ⟨hP1, hK1, hD1⟩ := hB
  rw [hth] at hP1
  obtain ⟨hP, hD⟩ := va_join (wr := [(ob, .inl (cJ, 1, .inr (.inl ov)))]) (w1 := [(h0, .inr (3, [.ref lg, .ref fs, .ref ps, .long (cturned fa (2 * (tn / 2) + (1 - tn % 2))), .long (cturned fb (2 * (tn / 2) + (1 - tn % 2))), .int 1, .int 0])), (lg, .inr (0, [.ref lc, .ref lt, .int (nI k)])), (lc, .inl (cI, 36, .inl cs)), (lt, .inl (cI, 36, .inl (upd ts (k - 1) (-1))))]) hP hD [0, 1, 2, 3] [4] rfl rfl (by decide) (by decide) hk1 hFc hP1 hD1
  generalize H1 = H at hP hS ⊢
  have hP : va_P D vwCl [(h0, .inr (3, [.ref lg, .ref fs, .ref ps, .long (cturned fa (2 * (tn / 2) + (1 - tn % 2))), .long (cturned fb (2 * (tn / 2) + (1 - tn % 2))), .int 1, .int 0])), (lg, .inr (0, [.ref lc, .ref lt, .int (nI k)])), (lc, .inl (cI, 36, .inl cs)), (lt, .inl (cI, 36, .inl (upd ts (k - 1) (-1)))), (ob, .inl (cJ, 1, .inr (.inl ov)))] H := hP.sub (ws' := [(h0, .inr (3, [.ref lg, .ref fs, .ref ps, .long (cturned fa (2 * (tn / 2) + (1 - tn % 2))), .long (cturned fb (2 * (tn / 2) + (1 - tn % 2))), .int 1, .int 0])), (lg, .inr (0, [.ref lc, .ref lt, .int (nI k)])), (lc, .inl (cI, 36, .inl cs)), (lt, .inl (cI, 36, .inl (upd ts (k - 1) (-1)))), (ob, .inl (cJ, 1, .inr (.inl ov)))]) [1, 2, 3, 4, 0] rfl
  have hD : va_D A [(h0, .inr (3, [.ref lg, .ref fs, .ref ps, .long (cturned fa (2 * (tn / 2) + (1 - tn % 2))), .long (cturned fb (2 * (tn / 2) + (1 - tn % 2))), .int 1, .int 0])), (lg, .inr (0, [.ref lc, .ref lt, .int (nI k)])), (lc, .inl (cI, 36, .inl cs)), (lt, .inl (cI, 36, .inl (upd ts (k - 1) (-1)))), (ob, .inl (cJ, 1, .inr (.inl ov)))] := hD.sub (ws' := [(h0, .inr (3, [.ref lg, .ref fs, .ref ps, .long (cturned fa (2 * (tn / 2) + (1 - tn % 2))), .long (cturned fb (2 * (tn / 2) + (1 - tn % 2))), .int 1, .int 0])), (lg, .inr (0, [.ref lc, .ref lt, .int (nI k)])), (lc, .inl (cI, 36, .inl cs)), (lt, .inl (cI, 36, .inl (upd ts (k - 1) (-1)))), (ob, .inl (cJ, 1, .inr (.inl ov)))]) [1, 2, 3, 4, 0] (by decide) rfl
  obtain rfl := hw3.symm
  refine pk_b (P := 1) (fun b3 => ?_) (fun b3 => ?_)
  · refine lv_if_eq (tgt := 13) hx hb dL_undo_6 (by decide) (fun c6 => ?_) (fun c6 => ?_)
    · exact absurd c6 (by decide)
    · refine lv_lconst (v := 1) hx hb dL_undo_9 (by decide) ?_
      refine lv_goto (tgt := 14) hx hb dL_undo_10 (by decide) ?_
      refine va_last hx hb hK hP hD hS 4 1 rfl rfl (vp_in_nI (n := 0) (N := 1) (by omega) (by decide)) dL_undo_14 (fun H locs hP hD hS => ?_)
      have hu14 : (0 : Int32).toNatClampNeg = 0 := pk_cl 0
      rw [hu14] at hP hD
      have hP : va_P D vwCl [(h0, .inr (3, [.ref lg, .ref fs, .ref ps, .long (cturned fa (2 * (tn / 2) + (1 - tn % 2))), .long (cturned fb (2 * (tn / 2) + (1 - tn % 2))), .int 1, .int 0])), (lg, .inr (0, [.ref lc, .ref lt, .int (nI k)])), (lc, .inl (cI, 36, .inl cs)), (lt, .inl (cI, 36, .inl (upd ts (k - 1) (-1)))), (ob, .inl (cJ, 1, .inr (.inl (vp_updL ov 0 1))))] H := hP
      have hD : va_D A [(h0, .inr (3, [.ref lg, .ref fs, .ref ps, .long (cturned fa (2 * (tn / 2) + (1 - tn % 2))), .long (cturned fb (2 * (tn / 2) + (1 - tn % 2))), .int 1, .int 0])), (lg, .inr (0, [.ref lc, .ref lt, .int (nI k)])), (lc, .inl (cI, 36, .inl cs)), (lt, .inl (cI, 36, .inl (upd ts (k - 1) (-1)))), (ob, .inl (cJ, 1, .inr (.inl (vp_updL ov 0 1))))] := hD
      refine lv_goto (tgt := 21) hx hb dL_undo_15 (by decide) ?_
      refine lv_iconst (v := 0) hx hb dL_undo_21 (by decide) ?_
      refine W.iret (v := 0) hx hb hr (fun tt ht hW => ⟨⟨0, (), rfl, ?_, by rw [ht]; exact hP, va_K.moved hW.alike hK, hD⟩, hS.F ht⟩) hS.2.2 dL_undo_22
      exact rfl
  · refine lv_if_eq (tgt := 13) hx hb dL_undo_6 (by decide) (fun c6 => ?_) (fun c6 => ?_)
    · refine lv_lconst (v := 0) hx hb dL_undo_13 (by decide) ?_
      refine va_last hx hb hK hP hD hS 4 1 rfl rfl (vp_in_nI (n := 0) (N := 1) (by omega) (by decide)) dL_undo_14 (fun H locs hP hD hS => ?_)
      have hu14 : (0 : Int32).toNatClampNeg = 0 := pk_cl 0
      rw [hu14] at hP hD
      have hP : va_P D vwCl [(h0, .inr (3, [.ref lg, .ref fs, .ref ps, .long (cturned fa (2 * (tn / 2) + (1 - tn % 2))), .long (cturned fb (2 * (tn / 2) + (1 - tn % 2))), .int 1, .int 0])), (lg, .inr (0, [.ref lc, .ref lt, .int (nI k)])), (lc, .inl (cI, 36, .inl cs)), (lt, .inl (cI, 36, .inl (upd ts (k - 1) (-1)))), (ob, .inl (cJ, 1, .inr (.inl (vp_updL ov 0 0))))] H := hP
      have hD : va_D A [(h0, .inr (3, [.ref lg, .ref fs, .ref ps, .long (cturned fa (2 * (tn / 2) + (1 - tn % 2))), .long (cturned fb (2 * (tn / 2) + (1 - tn % 2))), .int 1, .int 0])), (lg, .inr (0, [.ref lc, .ref lt, .int (nI k)])), (lc, .inl (cI, 36, .inl cs)), (lt, .inl (cI, 36, .inl (upd ts (k - 1) (-1)))), (ob, .inl (cJ, 1, .inr (.inl (vp_updL ov 0 0))))] := hD
      refine lv_goto (tgt := 21) hx hb dL_undo_15 (by decide) ?_
      refine lv_iconst (v := 0) hx hb dL_undo_21 (by decide) ?_
      refine W.iret (v := 0) hx hb hr (fun tt ht hW => ⟨⟨0, (), rfl, ?_, by rw [ht]; exact hP, va_K.moved hW.alike hK, hD⟩, hS.F ht⟩) hS.2.2 dL_undo_22
      exact rfl
    · exact absurd c6 (by decide)

set_option maxHeartbeats 400000 in
set_option maxRecDepth 100000 in
theorem c_L_undo_marble (l : Launch) (hltr : l.stackTraces = false) (D : va_G) (cI cJ : ClassId) (sz : Nat) (h0 lg lc lt fs ps : Nat) (fa fb : Int64) (mt re : Int32) (cs ts : Nat → Int32) (k : Nat) (hk : k ≤ 36) (ob : Nat) (ov : Nat → Int64) (j : Nat) (hj : j < 36) (hk0 : 0 < k) (ht9 : ts (k - 1) = (-1)) (hc9 : cs (k - 1) = nI j) : Met l yL_undo wsL_undo ({ frames := 6, cells := 0, slots := 0, locals := 98 } : Room) (va_Pc [.ref h0, .ref ob] (px_N (px_X (va_A [(h0, .inr (3, [.ref lg, .ref fs, .ref ps, .long fa, .long fb, .int mt, .int re])), (lg, .inr (0, [.ref lc, .ref lt, .int (nI k)])), (lc, .inl (cI, 36, .inl cs)), (lt, .inl (cI, 36, .inl ts)), (ob, .inl (cJ, 1, .inr (.inl ov)))] sz) (pv_C D cI cJ [(h0, .inr (3, [.ref lg, .ref fs, .ref ps, .long fa, .long fb, .int mt, .int re])), (lg, .inr (0, [.ref lc, .ref lt, .int (nI k)])), (lc, .inl (cI, 36, .inl cs)), (lt, .inl (cI, 36, .inl ts)), (ob, .inl (cJ, 1, .inr (.inl ov)))] sz)))) (va_Qi (fun (r : Int32) (u : Unit) => r = 0) (fun (u : Unit) => pv_B D cI cJ (va_A [(h0, .inr (3, [.ref lg, .ref fs, .ref ps, .long fa, .long fb, .int mt, .int re])), (lg, .inr (0, [.ref lc, .ref lt, .int (nI k)])), (lc, .inl (cI, 36, .inl cs)), (lt, .inl (cI, 36, .inl ts)), (ob, .inl (cJ, 1, .inr (.inl ov)))] sz) [(h0, .inr (3, [.ref lg, .ref fs, .ref ps, .long (fa &&& (jshl 1 (nI j) ^^^ (-1))), .long (fb &&& (jshl 1 (nI j) ^^^ (-1))), .int 0, .int 0])), (lg, .inr (0, [.ref lc, .ref lt, .int (nI (k - 1))])), (lc, .inl (cI, 36, .inl cs)), (lt, .inl (cI, 36, .inl ts)), (ob, .inl (cJ, 1, .inr (.inl (vp_updL ov 0 0))))]) (va_A [(h0, .inr (3, [.ref lg, .ref fs, .ref ps, .long fa, .long fb, .int mt, .int re])), (lg, .inr (0, [.ref lc, .ref lt, .int (nI k)])), (lc, .inl (cI, 36, .inl cs)), (lt, .inl (cI, 36, .inl ts)), (ob, .inl (cJ, 1, .inr (.inl ov)))] sz)) 0 0 (va_A [(h0, .inr (3, [.ref lg, .ref fs, .ref ps, .long fa, .long fb, .int mt, .int re])), (lg, .inr (0, [.ref lc, .ref lt, .int (nI k)])), (lc, .inl (cI, 36, .inl cs)), (lt, .inl (cI, 36, .inl ts)), (ob, .inl (cJ, 1, .inr (.inl ov)))] sz) := by
  refine va_MetW (cc := cL_undo) (maxL := 3) (ret := (some .int)) (hh := [(0, 15, 18, 15)]) (by decide) rfl ?_
  intro p e s m args below meth c s₁ B hml hv
  obtain ⟨rfl, hNC, hEN, hEX, hZ, rfl, hP, hK, hD0⟩ := hv
  have hx := B.exec
  have hb := B.bytes
  have hr := B.returns
  have hts := atoms_spec (ws := wsL_undo) B.pre
  have hown : s.vm.findClass RL = some m.cls := findClass_of_methodNamed B.named
  have hlocks := B.notSynchronized
  have htb := vx_table (x := yL_undo) B (hts _ (List.mem_of_getElem? (i := 0) rfl))
  have hD := hD0.self (sz := s.heap.size)
  generalize hAe : va_A [(h0, .inr (3, [.ref lg, .ref fs, .ref ps, .long fa, .long fb, .int mt, .int re])), (lg, .inr (0, [.ref lc, .ref lt, .int (nI k)])), (lc, .inl (cI, 36, .inl cs)), (lt, .inl (cI, 36, .inl ts)), (ob, .inl (cJ, 1, .inr (.inl ov)))] s.heap.size = A at hD hZ ⊢
  have hA : ∀ q : Nat, s.heap.size ≤ q → A q := fun q h => by rw [← hAe]; exact Or.inr h
  have hS : va_S A s.heap s.heap [] := va_S.rf
  have hl := lv_entry ([.ref h0, .ref ob]) (n := 3) (Nat.le_of_ble_eq_true rfl)
  rw [lg_entry_eq]
  generalize (lg_sl ([.ref h0, .ref ob]) ++ List.replicate (3 - (lg_sl ([.ref h0, .ref ob])).length) Slot.unset).toArray = ls at hl ⊢
  have hl : lv_has ls 3 [(0, .ref h0), (1, .ref ob)] := hl
  refine lv_aload_n hx hb dL_undo_0 rfl (lv_at hl 1 rfl) ?_
  refine lv_iconst (v := 0) hx hb dL_undo_1 (by decide) ?_
  refine lv_aload_n hx hb dL_undo_2 rfl (lv_at hl 0 rfl) ?_
  have hPc := hP.sub (ws' := [(h0, .inr (3, [.ref lg, .ref fs, .ref ps, .long fa, .long fb, .int mt, .int re])), (lg, .inr (0, [.ref lc, .ref lt, .int (nI k)])), (lc, .inl (cI, 36, .inl cs)), (lt, .inl (cI, 36, .inl ts))]) [0, 1, 2, 3] rfl
  have hDc := hD.sub (ws' := [(h0, .inr (3, [.ref lg, .ref fs, .ref ps, .long fa, .long fb, .int mt, .int re])), (lg, .inr (0, [.ref lc, .ref lt, .int (nI k)])), (lc, .inl (cI, 36, .inl cs)), (lt, .inl (cI, 36, .inl ts))]) [0, 1, 2, 3] (by decide) rfl
  have hFc := va_free (wc := [(h0, .inr (3, [.ref lg, .ref fs, .ref ps, .long fa, .long fb, .int mt, .int re])), (lg, .inr (0, [.ref lc, .ref lt, .int (nI k)])), (lc, .inl (cI, 36, .inl cs)), (lt, .inl (cI, 36, .inl ts))]) hD hS hA [0, 1, 2, 3] rfl
  refine va_calli (va_runV (As := []) (rest := [.int 0, .ref ob]) ⟨hx, hb, hml, hown, hts⟩ (c_X6_undo_marble l D cI cJ s.heap.size  h0 lg lc lt fs ps fa fb mt re cs ts k (by omega) j (by omega) (by omega) ht9 hc9) (cwV 0 hts gL_undo_X6_undo rfl rfl rfl (by decide +kernel) ⟨Nat.le_of_ble_eq_true rfl, Nat.le_of_ble_eq_true rfl⟩) ⟨(px_blindE pv_blind), va_recv hK hPc (ci := 3) (q0 := 0) rfl rfl, fun U hU hW => ⟨rfl, hEN.warm hW, by rw [hU], by rw [hU]; exact hPc, va_K.moved hW.alike hK, hDc.weaken (fun _ _ _ _ => trivial)⟩⟩ rfl rfl hl.1 rfl (lv_room (Nat.le_of_ble_eq_true rfl)) dL_undo_3 ⟨(Nat.le_of_ble_eq_true rfl), (Nat.le_of_ble_eq_true rfl)⟩) hS (fun q _ h => hFc q h) hFc (fun r3 u t9 H1 locs hth hvm hw3 hB hz1 hk1 hS => ?_)
  try dsimp only at hw3
  obtain ⟨hP1, hK1, hD1⟩ := hB
  rw [hth] at hP1
  obtain ⟨hP, hD⟩ := va_join (wr := [(ob, .inl (cJ, 1, .inr (.inl ov)))]) (w1 := [(h0, .inr (3, [.ref lg, .ref fs, .ref ps, .long (fa &&& (jshl 1 (nI j) ^^^ (-1))), .long (fb &&& (jshl 1 (nI j) ^^^ (-1))), .int 0, .int 0])), (lg, .inr (0, [.ref lc, .ref lt, .int (nI (k - 1))])), (lc, .inl (cI, 36, .inl cs)), (lt, .inl (cI, 36, .inl ts))]) hP hD [0, 1, 2, 3] [4] rfl rfl (by decide) (by decide) hk1 hFc hP1 hD1
  generalize H1 = H at hP hS ⊢
  have hP : va_P D vwCl [(h0, .inr (3, [.ref lg, .ref fs, .ref ps, .long (fa &&& (jshl 1 (nI j) ^^^ (-1))), .long (fb &&& (jshl 1 (nI j) ^^^ (-1))), .int 0, .int 0])), (lg, .inr (0, [.ref lc, .ref lt, .int (nI (k - 1))])), (lc, .inl (cI, 36, .inl cs)), (lt, .inl (cI, 36, .inl ts)), (ob, .inl (cJ, 1, .inr (.inl ov)))] H := hP.sub (ws' := [(h0, .inr (3, [.ref lg, .ref fs, .ref ps, .long (fa &&& (jshl 1 (nI j) ^^^ (-1))), .long (fb &&& (jshl 1 (nI j) ^^^ (-1))), .int 0, .int 0])), (lg, .inr (0, [.ref lc, .ref lt, .int (nI (k - 1))])), (lc, .inl (cI, 36, .inl cs)), (lt, .inl (cI, 36, .inl ts)), (ob, .inl (cJ, 1, .inr (.inl ov)))]) [1, 2, 3, 4, 0] rfl
  have hD : va_D A [(h0, .inr (3, [.ref lg, .ref fs, .ref ps, .long (fa &&& (jshl 1 (nI j) ^^^ (-1))), .long (fb &&& (jshl 1 (nI j) ^^^ (-1))), .int 0, .int 0])), (lg, .inr (0, [.ref lc, .ref lt, .int (nI (k - 1))])), (lc, .inl (cI, 36, .inl cs)), (lt, .inl (cI, 36, .inl ts)), (ob, .inl (cJ, 1, .inr (.inl ov)))] := hD.sub (ws' := [(h0, .inr (3, [.ref lg, .ref fs, .ref ps, .long (fa &&& (jshl 1 (nI j) ^^^ (-1))), .long (fb &&& (jshl 1 (nI j) ^^^ (-1))), .int 0, .int 0])), (lg, .inr (0, [.ref lc, .ref lt, .int (nI (k - 1))])), (lc, .inl (cI, 36, .inl cs)), (lt, .inl (cI, 36, .inl ts)), (ob, .inl (cJ, 1, .inr (.inl ov)))]) [1, 2, 3, 4, 0] (by decide) rfl
  obtain rfl := hw3.symm
  refine pk_b (P := 0) (fun b3 => ?_) (fun b3 => ?_)
  · refine lv_if_eq (tgt := 13) hx hb dL_undo_6 (by decide) (fun c6 => ?_) (fun c6 => ?_)
    · exact absurd c6 (by decide)
    · refine lv_lconst (v := 1) hx hb dL_undo_9 (by decide) ?_
      refine lv_goto (tgt := 14) hx hb dL_undo_10 (by decide) ?_
      refine va_last hx hb hK hP hD hS 4 1 rfl rfl (vp_in_nI (n := 0) (N := 1) (by omega) (by decide)) dL_undo_14 (fun H locs hP hD hS => ?_)
      have hu14 : (0 : Int32).toNatClampNeg = 0 := pk_cl 0
      rw [hu14] at hP hD
      have hP : va_P D vwCl [(h0, .inr (3, [.ref lg, .ref fs, .ref ps, .long (fa &&& (jshl 1 (nI j) ^^^ (-1))), .long (fb &&& (jshl 1 (nI j) ^^^ (-1))), .int 0, .int 0])), (lg, .inr (0, [.ref lc, .ref lt, .int (nI (k - 1))])), (lc, .inl (cI, 36, .inl cs)), (lt, .inl (cI, 36, .inl ts)), (ob, .inl (cJ, 1, .inr (.inl (vp_updL ov 0 1))))] H := hP
      have hD : va_D A [(h0, .inr (3, [.ref lg, .ref fs, .ref ps, .long (fa &&& (jshl 1 (nI j) ^^^ (-1))), .long (fb &&& (jshl 1 (nI j) ^^^ (-1))), .int 0, .int 0])), (lg, .inr (0, [.ref lc, .ref lt, .int (nI (k - 1))])), (lc, .inl (cI, 36, .inl cs)), (lt, .inl (cI, 36, .inl ts)), (ob, .inl (cJ, 1, .inr (.inl (vp_updL ov 0 1))))] := hD
      refine lv_goto (tgt := 21) hx hb dL_undo_15 (by decide) ?_
      refine lv_iconst (v := 0) hx hb dL_undo_21 (by decide) ?_
      refine W.iret (v := 0) hx hb hr (fun tt ht hW => ⟨⟨0, (), rfl, ?_, by rw [ht]; exact hP, va_K.moved hW.alike hK, hD⟩, hS.F ht⟩) hS.2.2 dL_undo_22
      exact rfl
  · refine lv_if_eq (tgt := 13) hx hb dL_undo_6 (by decide) (fun c6 => ?_) (fun c6 => ?_)
    · refine lv_lconst (v := 0) hx hb dL_undo_13 (by decide) ?_
      refine va_last hx hb hK hP hD hS 4 1 rfl rfl (vp_in_nI (n := 0) (N := 1) (by omega) (by decide)) dL_undo_14 (fun H locs hP hD hS => ?_)
      have hu14 : (0 : Int32).toNatClampNeg = 0 := pk_cl 0
      rw [hu14] at hP hD
      have hP : va_P D vwCl [(h0, .inr (3, [.ref lg, .ref fs, .ref ps, .long (fa &&& (jshl 1 (nI j) ^^^ (-1))), .long (fb &&& (jshl 1 (nI j) ^^^ (-1))), .int 0, .int 0])), (lg, .inr (0, [.ref lc, .ref lt, .int (nI (k - 1))])), (lc, .inl (cI, 36, .inl cs)), (lt, .inl (cI, 36, .inl ts)), (ob, .inl (cJ, 1, .inr (.inl (vp_updL ov 0 0))))] H := hP
      have hD : va_D A [(h0, .inr (3, [.ref lg, .ref fs, .ref ps, .long (fa &&& (jshl 1 (nI j) ^^^ (-1))), .long (fb &&& (jshl 1 (nI j) ^^^ (-1))), .int 0, .int 0])), (lg, .inr (0, [.ref lc, .ref lt, .int (nI (k - 1))])), (lc, .inl (cI, 36, .inl cs)), (lt, .inl (cI, 36, .inl ts)), (ob, .inl (cJ, 1, .inr (.inl (vp_updL ov 0 0))))] := hD
      refine lv_goto (tgt := 21) hx hb dL_undo_15 (by decide) ?_
      refine lv_iconst (v := 0) hx hb dL_undo_21 (by decide) ?_
      refine W.iret (v := 0) hx hb hr (fun tt ht hW => ⟨⟨0, (), rfl, ?_, by rw [ht]; exact hP, va_K.moved hW.alike hK, hD⟩, hS.F ht⟩) hS.2.2 dL_undo_22
      exact rfl
    · exact absurd c6 (by decide)

set_option maxHeartbeats 400000 in
set_option maxRecDepth 100000 in
theorem c_L_lay_ok (l : Launch) (hltr : l.stackTraces = false) (D : va_G) (cI cJ : ClassId) (sz : Nat) (h0 lg lc lt fs ps : Nat) (fa fb : Int64) (mt re : Int32) (cs ts : Nat → Int32) (k : Nat) (hk : k ≤ 36) (ob : Nat) (ov : Nat → Int64) (f9 g9 : Int64) (hok : iboard f9 g9) : Met l yL_lay wsL_lay ({ frames := 8, cells := 1, slots := 6, locals := 138 } : Room) (va_Pc [.ref h0, .long f9, .long g9, .ref ob] (px_N (px_X (va_A [(h0, .inr (3, [.ref lg, .ref fs, .ref ps, .long fa, .long fb, .int mt, .int re])), (lg, .inr (0, [.ref lc, .ref lt, .int (nI k)])), (lc, .inl (cI, 36, .inl cs)), (lt, .inl (cI, 36, .inl ts)), (ob, .inl (cJ, 1, .inr (.inl ov)))] sz) (pv_C D cI cJ [(h0, .inr (3, [.ref lg, .ref fs, .ref ps, .long fa, .long fb, .int mt, .int re])), (lg, .inr (0, [.ref lc, .ref lt, .int (nI k)])), (lc, .inl (cI, 36, .inl cs)), (lt, .inl (cI, 36, .inl ts)), (ob, .inl (cJ, 1, .inr (.inl ov)))] sz)))) (va_Qi (fun (r : Int32) (u : (Int32)) => r = 0 ∧ (iboard f9 g9 ∧ u = cjudge f9 g9)) (fun (u : (Int32)) => pv_B D cI cJ (va_A [(h0, .inr (3, [.ref lg, .ref fs, .ref ps, .long fa, .long fb, .int mt, .int re])), (lg, .inr (0, [.ref lc, .ref lt, .int (nI k)])), (lc, .inl (cI, 36, .inl cs)), (lt, .inl (cI, 36, .inl ts)), (ob, .inl (cJ, 1, .inr (.inl ov)))] sz) [(h0, .inr (3, [.ref lg, .ref fs, .ref ps, .long f9, .long g9, .int 0, .int (cjudge f9 g9)])), (lg, .inr (0, [.ref lc, .ref lt, .int 0])), (lc, .inl (cI, 36, .inl cs)), (lt, .inl (cI, 36, .inl ts)), (ob, .inl (cJ, 1, .inr (.inl (vp_updL ov 0 (u).toInt64))))]) (va_A [(h0, .inr (3, [.ref lg, .ref fs, .ref ps, .long fa, .long fb, .int mt, .int re])), (lg, .inr (0, [.ref lc, .ref lt, .int (nI k)])), (lc, .inl (cI, 36, .inl cs)), (lt, .inl (cI, 36, .inl ts)), (ob, .inl (cJ, 1, .inr (.inl ov)))] sz)) 1 6 (va_A [(h0, .inr (3, [.ref lg, .ref fs, .ref ps, .long fa, .long fb, .int mt, .int re])), (lg, .inr (0, [.ref lc, .ref lt, .int (nI k)])), (lc, .inl (cI, 36, .inl cs)), (lt, .inl (cI, 36, .inl ts)), (ob, .inl (cJ, 1, .inr (.inl ov)))] sz) := by
  refine va_MetW (cc := cL_lay) (maxL := 7) (ret := (some .int)) (hh := [(0, 11, 14, 21)]) (by decide) rfl ?_
  intro p e s m args below meth c s₁ B hml hv
  obtain ⟨rfl, hNC, hEN, hEX, hZ, rfl, hP, hK, hD0⟩ := hv
  have hx := B.exec
  have hb := B.bytes
  have hr := B.returns
  have hts := atoms_spec (ws := wsL_lay) B.pre
  have hown : s.vm.findClass RL = some m.cls := findClass_of_methodNamed B.named
  have hlocks := B.notSynchronized
  have htb := vx_table (x := yL_lay) B (hts _ (List.mem_of_getElem? (i := 0) rfl))
  have hD := hD0.self (sz := s.heap.size)
  generalize hAe : va_A [(h0, .inr (3, [.ref lg, .ref fs, .ref ps, .long fa, .long fb, .int mt, .int re])), (lg, .inr (0, [.ref lc, .ref lt, .int (nI k)])), (lc, .inl (cI, 36, .inl cs)), (lt, .inl (cI, 36, .inl ts)), (ob, .inl (cJ, 1, .inr (.inl ov)))] s.heap.size = A at hD hZ ⊢
  have hA : ∀ q : Nat, s.heap.size ≤ q → A q := fun q h => by rw [← hAe]; exact Or.inr h
  have hS : va_S A s.heap s.heap [] := va_S.rf
  have hl := lv_entry ([.ref h0, .long f9, .long g9, .ref ob]) (n := 7) (Nat.le_of_ble_eq_true rfl)
  rw [lg_entry_eq]
  generalize (lg_sl ([.ref h0, .long f9, .long g9, .ref ob]) ++ List.replicate (7 - (lg_sl ([.ref h0, .long f9, .long g9, .ref ob])).length) Slot.unset).toArray = ls at hl ⊢
  have hl : lv_has ls 7 [(0, .ref h0), (1, .long f9), (3, .long g9), (5, .ref ob)] := hl
  refine lv_aload hx hb dL_lay_0 (lv_at hl 3 rfl) ?_
  refine lv_iconst (v := 0) hx hb dL_lay_2 (by decide) ?_
  refine lv_aload_n hx hb dL_lay_3 rfl (lv_at hl 0 rfl) ?_
  refine lv_lload_n hx hb dL_lay_4 rfl (lv_at hl 1 rfl) ?_
  refine lv_lload_n hx hb dL_lay_5 rfl (lv_at hl 2 rfl) ?_
  have hPc : va_P D vwCl [(h0, .inr (3, [.ref lg, .ref fs, .ref ps, .long fa, .long fb, .int mt, .int re])), (lg, .inr (0, [.ref lc, .ref lt, .int (nI k)])), (lc, .inl (cI, 36, .inl cs)), (lt, .inl (cI, 36, .inl ts))] s.heap := hP.sub (ws' := [(h0, .inr (3, [.ref lg, .ref fs, .ref ps, .long fa, .long fb, .int mt, .int re])), (lg, .inr (0, [.ref lc, .ref lt, .int (nI k)])), (lc, .inl (cI, 36, .inl cs)), (lt, .inl (cI, 36, .inl ts))]) [0, 1, 2, 3] rfl
  have hDc : va_D A [(h0, .inr (3, [.ref lg, .ref fs, .ref ps, .long fa, .long fb, .int mt, .int re])), (lg, .inr (0, [.ref lc, .ref lt, .int (nI k)])), (lc, .inl (cI, 36, .inl cs)), (lt, .inl (cI, 36, .inl ts))] := hD.sub (ws' := [(h0, .inr (3, [.ref lg, .ref fs, .ref ps, .long fa, .long fb, .int mt, .int re])), (lg, .inr (0, [.ref lc, .ref lt, .int (nI k)])), (lc, .inl (cI, 36, .inl cs)), (lt, .inl (cI, 36, .inl ts))]) [0, 1, 2, 3] (by decide) rfl
  have hFc := va_free (wc := [(h0, .inr (3, [.ref lg, .ref fs, .ref ps, .long fa, .long fb, .int mt, .int re])), (lg, .inr (0, [.ref lc, .ref lt, .int (nI k)])), (lc, .inl (cI, 36, .inl cs)), (lt, .inl (cI, 36, .inl ts))]) hD hS hA [0, 1, 2, 3] rfl
  refine vx_calli (vx_runV (As := [.long f9, .long g9]) (rest := [.int 0, .ref ob]) ⟨hx, hb, hml, hown, hts⟩ (c_X6_lay l hltr D cI cJ s.heap.size  h0 lg lc lt fs ps fa fb mt re cs ts k (by omega) f9 g9) (cwV 2 hts gL_lay_X6_lay rfl rfl rfl (by decide +kernel) ⟨Nat.le_of_ble_eq_true rfl, Nat.le_of_ble_eq_true rfl⟩) ⟨(px_blindX pv_blind), va_recv hK hPc (ci := 3) (q0 := 0) rfl rfl, fun U hU hW => ⟨rfl, hEX.warm hW, by rw [hU]; exact hZ.to hS hW.alike hFc, by rw [hU], by rw [hU]; exact hPc, va_K.moved hW.alike hK, hDc.weaken (fun _ _ _ _ => trivial)⟩⟩ rfl rfl hl.1 rfl (lv_room (Nat.le_of_ble_eq_true rfl)) dL_lay_6 ⟨(Nat.le_of_ble_eq_true rfl), (Nat.le_of_ble_eq_true rfl)⟩) hS (fun q _ h => hFc q h) hFc (fun q _ h => hFc q h) (fun E ce q9 u9 t9 H1 locs hth hvm hpx hB9 hz1 hk1 hS hce hcv hcl => ?_) (fun r6 u t9 H1 locs hth hvm hw6 hB9 hz1 hk1 hS => ?_)
  · obtain ⟨hb9, hP1, hK1, hD1⟩ := hB9
    rw [hth] at hP1
    obtain ⟨hP, hD⟩ := va_join (wr := [(ob, .inl (cJ, 1, .inr (.inl ov)))]) (w1 := [(h0, .inr (3, [.ref lg, .ref fs, .ref ps, .long fa, .long fb, .int mt, .int re])), (lg, .inr (0, [.ref lc, .ref lt, .int (nI k)])), (lc, .inl (cI, 36, .inl cs)), (lt, .inl (cI, 36, .inl ts))]) hP hD [0, 1, 2, 3] [4] rfl rfl (by decide) (by decide) hk1 hFc hP1 hD1
    have hP : va_P D vwCl [(h0, .inr (3, [.ref lg, .ref fs, .ref ps, .long fa, .long fb, .int mt, .int re])), (lg, .inr (0, [.ref lc, .ref lt, .int (nI k)])), (lc, .inl (cI, 36, .inl cs)), (lt, .inl (cI, 36, .inl ts)), (ob, .inl (cJ, 1, .inr (.inl ov)))] H1 := hP.sub (ws' := [(h0, .inr (3, [.ref lg, .ref fs, .ref ps, .long fa, .long fb, .int mt, .int re])), (lg, .inr (0, [.ref lc, .ref lt, .int (nI k)])), (lc, .inl (cI, 36, .inl cs)), (lt, .inl (cI, 36, .inl ts)), (ob, .inl (cJ, 1, .inr (.inl ov)))]) [1, 2, 3, 4, 0] rfl
    have hD : va_D A [(h0, .inr (3, [.ref lg, .ref fs, .ref ps, .long fa, .long fb, .int mt, .int re])), (lg, .inr (0, [.ref lc, .ref lt, .int (nI k)])), (lc, .inl (cI, 36, .inl cs)), (lt, .inl (cI, 36, .inl ts)), (ob, .inl (cJ, 1, .inr (.inl ov)))] := hD.sub (ws' := [(h0, .inr (3, [.ref lg, .ref fs, .ref ps, .long fa, .long fb, .int mt, .int re])), (lg, .inr (0, [.ref lc, .ref lt, .int (nI k)])), (lc, .inl (cI, 36, .inl cs)), (lt, .inl (cI, 36, .inl ts)), (ob, .inl (cJ, 1, .inr (.inl ov)))]) [1, 2, 3, 4, 0] (by decide) rfl
    exact (absurd hok hb9.2)
  · try dsimp only at hw6
    obtain ⟨hP1, hK1, hD1⟩ := hB9
    rw [hth] at hP1
    obtain ⟨hP, hD⟩ := va_join (wr := [(ob, .inl (cJ, 1, .inr (.inl ov)))]) (w1 := [(h0, .inr (3, [.ref lg, .ref fs, .ref ps, .long f9, .long g9, .int 0, .int (cjudge f9 g9)])), (lg, .inr (0, [.ref lc, .ref lt, .int 0])), (lc, .inl (cI, 36, .inl cs)), (lt, .inl (cI, 36, .inl ts))]) hP hD [0, 1, 2, 3] [4] rfl rfl (by decide) (by decide) hk1 hFc hP1 hD1
    generalize H1 = H at hP hS ⊢
    have hP : va_P D vwCl [(h0, .inr (3, [.ref lg, .ref fs, .ref ps, .long f9, .long g9, .int 0, .int (cjudge f9 g9)])), (lg, .inr (0, [.ref lc, .ref lt, .int 0])), (lc, .inl (cI, 36, .inl cs)), (lt, .inl (cI, 36, .inl ts)), (ob, .inl (cJ, 1, .inr (.inl ov)))] H := hP.sub (ws' := [(h0, .inr (3, [.ref lg, .ref fs, .ref ps, .long f9, .long g9, .int 0, .int (cjudge f9 g9)])), (lg, .inr (0, [.ref lc, .ref lt, .int 0])), (lc, .inl (cI, 36, .inl cs)), (lt, .inl (cI, 36, .inl ts)), (ob, .inl (cJ, 1, .inr (.inl ov)))]) [1, 2, 3, 4, 0] rfl
    have hD : va_D A [(h0, .inr (3, [.ref lg, .ref fs, .ref ps, .long f9, .long g9, .int 0, .int (cjudge f9 g9)])), (lg, .inr (0, [.ref lc, .ref lt, .int 0])), (lc, .inl (cI, 36, .inl cs)), (lt, .inl (cI, 36, .inl ts)), (ob, .inl (cJ, 1, .inr (.inl ov)))] := hD.sub (ws' := [(h0, .inr (3, [.ref lg, .ref fs, .ref ps, .long f9, .long g9, .int 0, .int (cjudge f9 g9)])), (lg, .inr (0, [.ref lc, .ref lt, .int 0])), (lc, .inl (cI, 36, .inl cs)), (lt, .inl (cI, 36, .inl ts)), (ob, .inl (cJ, 1, .inr (.inl ov)))]) [1, 2, 3, 4, 0] (by decide) rfl
    refine lv_i2l (v := (r6 : Int32).toInt64) hx hb dL_lay_9 rfl ?_
    refine lv_topl (fun x9 ex9 => ?_)
    refine va_last hx hb hK hP hD hS 4 1 rfl rfl (vp_in_nI (n := 0) (N := 1) (by omega) (by decide)) dL_lay_10 (fun H locs hP hD hS => ?_)
    have hu10 : (0 : Int32).toNatClampNeg = 0 := pk_cl 0
    rw [hu10] at hP hD
    have hP : va_P D vwCl [(h0, .inr (3, [.ref lg, .ref fs, .ref ps, .long f9, .long g9, .int 0, .int (cjudge f9 g9)])), (lg, .inr (0, [.ref lc, .ref lt, .int 0])), (lc, .inl (cI, 36, .inl cs)), (lt, .inl (cI, 36, .inl ts)), (ob, .inl (cJ, 1, .inr (.inl (vp_updL ov 0 x9))))] H := hP
    have hD : va_D A [(h0, .inr (3, [.ref lg, .ref fs, .ref ps, .long f9, .long g9, .int 0, .int (cjudge f9 g9)])), (lg, .inr (0, [.ref lc, .ref lt, .int 0])), (lc, .inl (cI, 36, .inl cs)), (lt, .inl (cI, 36, .inl ts)), (ob, .inl (cJ, 1, .inr (.inl (vp_updL ov 0 x9))))] := hD
    refine lv_goto (tgt := 18) hx hb dL_lay_11 (by decide) ?_
    refine lv_iconst (v := 0) hx hb dL_lay_18 (by decide) ?_
    obtain rfl := ex9.symm
    refine W.widen (k := 1) (n := 6) (Nat.le_of_ble_eq_true rfl) (Nat.le_of_ble_eq_true rfl) ?_
    refine W.iret (v := 0) hx hb hr (fun tt ht hW => ⟨⟨0, r6, rfl, ?_, by rw [ht]; exact hP, va_K.moved hW.alike hK, hD⟩, hS.F ht⟩) hS.2.2 dL_lay_19
    exact ⟨rfl, hw6⟩

set_option maxHeartbeats 400000 in
set_option maxRecDepth 100000 in
theorem c_L_lay_bad (l : Launch) (hltr : l.stackTraces = false) (D : va_G) (cI cJ : ClassId) (sz : Nat) (h0 lg lc lt fs ps : Nat) (fa fb : Int64) (mt re : Int32) (cs ts : Nat → Int32) (k : Nat) (hk : k ≤ 36) (ob : Nat) (ov : Nat → Int64) (f9 g9 : Int64) (hbad : ¬ iboard f9 g9) : Met l yL_lay wsL_lay ({ frames := 8, cells := 1, slots := 6, locals := 138 } : Room) (va_Pc [.ref h0, .long f9, .long g9, .ref ob] (px_N (px_X (va_A [(h0, .inr (3, [.ref lg, .ref fs, .ref ps, .long fa, .long fb, .int mt, .int re])), (lg, .inr (0, [.ref lc, .ref lt, .int (nI k)])), (lc, .inl (cI, 36, .inl cs)), (lt, .inl (cI, 36, .inl ts)), (ob, .inl (cJ, 1, .inr (.inl ov)))] sz) (pv_C D cI cJ [(h0, .inr (3, [.ref lg, .ref fs, .ref ps, .long fa, .long fb, .int mt, .int re])), (lg, .inr (0, [.ref lc, .ref lt, .int (nI k)])), (lc, .inl (cI, 36, .inl cs)), (lt, .inl (cI, 36, .inl ts)), (ob, .inl (cJ, 1, .inr (.inl ov)))] sz)))) (va_Qi (fun (r : Int32) (u : Unit) => r = 1) (fun (u : Unit) => pv_B D cI cJ (va_A [(h0, .inr (3, [.ref lg, .ref fs, .ref ps, .long fa, .long fb, .int mt, .int re])), (lg, .inr (0, [.ref lc, .ref lt, .int (nI k)])), (lc, .inl (cI, 36, .inl cs)), (lt, .inl (cI, 36, .inl ts)), (ob, .inl (cJ, 1, .inr (.inl ov)))] sz) [(h0, .inr (3, [.ref lg, .ref fs, .ref ps, .long fa, .long fb, .int mt, .int re])), (lg, .inr (0, [.ref lc, .ref lt, .int (nI k)])), (lc, .inl (cI, 36, .inl cs)), (lt, .inl (cI, 36, .inl ts)), (ob, .inl (cJ, 1, .inr (.inl ov)))]) (va_A [(h0, .inr (3, [.ref lg, .ref fs, .ref ps, .long fa, .long fb, .int mt, .int re])), (lg, .inr (0, [.ref lc, .ref lt, .int (nI k)])), (lc, .inl (cI, 36, .inl cs)), (lt, .inl (cI, 36, .inl ts)), (ob, .inl (cJ, 1, .inr (.inl ov)))] sz)) 1 6 (va_A [(h0, .inr (3, [.ref lg, .ref fs, .ref ps, .long fa, .long fb, .int mt, .int re])), (lg, .inr (0, [.ref lc, .ref lt, .int (nI k)])), (lc, .inl (cI, 36, .inl cs)), (lt, .inl (cI, 36, .inl ts)), (ob, .inl (cJ, 1, .inr (.inl ov)))] sz) := by
  refine va_MetW (cc := cL_lay) (maxL := 7) (ret := (some .int)) (hh := [(0, 11, 14, 21)]) (by decide) rfl ?_
  intro p e s m args below meth c s₁ B hml hv
  obtain ⟨rfl, hNC, hEN, hEX, hZ, rfl, hP, hK, hD0⟩ := hv
  have hx := B.exec
  have hb := B.bytes
  have hr := B.returns
  have hts := atoms_spec (ws := wsL_lay) B.pre
  have hown : s.vm.findClass RL = some m.cls := findClass_of_methodNamed B.named
  have hlocks := B.notSynchronized
  have htb := vx_table (x := yL_lay) B (hts _ (List.mem_of_getElem? (i := 0) rfl))
  have hD := hD0.self (sz := s.heap.size)
  generalize hAe : va_A [(h0, .inr (3, [.ref lg, .ref fs, .ref ps, .long fa, .long fb, .int mt, .int re])), (lg, .inr (0, [.ref lc, .ref lt, .int (nI k)])), (lc, .inl (cI, 36, .inl cs)), (lt, .inl (cI, 36, .inl ts)), (ob, .inl (cJ, 1, .inr (.inl ov)))] s.heap.size = A at hD hZ ⊢
  have hA : ∀ q : Nat, s.heap.size ≤ q → A q := fun q h => by rw [← hAe]; exact Or.inr h
  have hS : va_S A s.heap s.heap [] := va_S.rf
  have hl := lv_entry ([.ref h0, .long f9, .long g9, .ref ob]) (n := 7) (Nat.le_of_ble_eq_true rfl)
  rw [lg_entry_eq]
  generalize (lg_sl ([.ref h0, .long f9, .long g9, .ref ob]) ++ List.replicate (7 - (lg_sl ([.ref h0, .long f9, .long g9, .ref ob])).length) Slot.unset).toArray = ls at hl ⊢
  have hl : lv_has ls 7 [(0, .ref h0), (1, .long f9), (3, .long g9), (5, .ref ob)] := hl
  refine lv_aload hx hb dL_lay_0 (lv_at hl 3 rfl) ?_
  refine lv_iconst (v := 0) hx hb dL_lay_2 (by decide) ?_
  refine lv_aload_n hx hb dL_lay_3 rfl (lv_at hl 0 rfl) ?_
  refine lv_lload_n hx hb dL_lay_4 rfl (lv_at hl 1 rfl) ?_
  refine lv_lload_n hx hb dL_lay_5 rfl (lv_at hl 2 rfl) ?_
  have hPc : va_P D vwCl [(h0, .inr (3, [.ref lg, .ref fs, .ref ps, .long fa, .long fb, .int mt, .int re])), (lg, .inr (0, [.ref lc, .ref lt, .int (nI k)])), (lc, .inl (cI, 36, .inl cs)), (lt, .inl (cI, 36, .inl ts))] s.heap := hP.sub (ws' := [(h0, .inr (3, [.ref lg, .ref fs, .ref ps, .long fa, .long fb, .int mt, .int re])), (lg, .inr (0, [.ref lc, .ref lt, .int (nI k)])), (lc, .inl (cI, 36, .inl cs)), (lt, .inl (cI, 36, .inl ts))]) [0, 1, 2, 3] rfl
  have hDc : va_D A [(h0, .inr (3, [.ref lg, .ref fs, .ref ps, .long fa, .long fb, .int mt, .int re])), (lg, .inr (0, [.ref lc, .ref lt, .int (nI k)])), (lc, .inl (cI, 36, .inl cs)), (lt, .inl (cI, 36, .inl ts))] := hD.sub (ws' := [(h0, .inr (3, [.ref lg, .ref fs, .ref ps, .long fa, .long fb, .int mt, .int re])), (lg, .inr (0, [.ref lc, .ref lt, .int (nI k)])), (lc, .inl (cI, 36, .inl cs)), (lt, .inl (cI, 36, .inl ts))]) [0, 1, 2, 3] (by decide) rfl
  have hFc := va_free (wc := [(h0, .inr (3, [.ref lg, .ref fs, .ref ps, .long fa, .long fb, .int mt, .int re])), (lg, .inr (0, [.ref lc, .ref lt, .int (nI k)])), (lc, .inl (cI, 36, .inl cs)), (lt, .inl (cI, 36, .inl ts))]) hD hS hA [0, 1, 2, 3] rfl
  refine vx_calli (vx_runV (As := [.long f9, .long g9]) (rest := [.int 0, .ref ob]) ⟨hx, hb, hml, hown, hts⟩ (c_X6_lay l hltr D cI cJ s.heap.size  h0 lg lc lt fs ps fa fb mt re cs ts k (by omega) f9 g9) (cwV 2 hts gL_lay_X6_lay rfl rfl rfl (by decide +kernel) ⟨Nat.le_of_ble_eq_true rfl, Nat.le_of_ble_eq_true rfl⟩) ⟨(px_blindX pv_blind), va_recv hK hPc (ci := 3) (q0 := 0) rfl rfl, fun U hU hW => ⟨rfl, hEX.warm hW, by rw [hU]; exact hZ.to hS hW.alike hFc, by rw [hU], by rw [hU]; exact hPc, va_K.moved hW.alike hK, hDc.weaken (fun _ _ _ _ => trivial)⟩⟩ rfl rfl hl.1 rfl (lv_room (Nat.le_of_ble_eq_true rfl)) dL_lay_6 ⟨(Nat.le_of_ble_eq_true rfl), (Nat.le_of_ble_eq_true rfl)⟩) hS (fun q _ h => hFc q h) hFc (fun q _ h => hFc q h) (fun E ce q9 u9 t9 H1 locs hth hvm hpx hB9 hz1 hk1 hS hce hcv hcl => ?_) (fun r6 u t9 H1 locs hth hvm hw6 hB9 hz1 hk1 hS => ?_)
  · obtain ⟨hb9, hP1, hK1, hD1⟩ := hB9
    rw [hth] at hP1
    obtain ⟨hP, hD⟩ := va_join (wr := [(ob, .inl (cJ, 1, .inr (.inl ov)))]) (w1 := [(h0, .inr (3, [.ref lg, .ref fs, .ref ps, .long fa, .long fb, .int mt, .int re])), (lg, .inr (0, [.ref lc, .ref lt, .int (nI k)])), (lc, .inl (cI, 36, .inl cs)), (lt, .inl (cI, 36, .inl ts))]) hP hD [0, 1, 2, 3] [4] rfl rfl (by decide) (by decide) hk1 hFc hP1 hD1
    have hP : va_P D vwCl [(h0, .inr (3, [.ref lg, .ref fs, .ref ps, .long fa, .long fb, .int mt, .int re])), (lg, .inr (0, [.ref lc, .ref lt, .int (nI k)])), (lc, .inl (cI, 36, .inl cs)), (lt, .inl (cI, 36, .inl ts)), (ob, .inl (cJ, 1, .inr (.inl ov)))] H1 := hP.sub (ws' := [(h0, .inr (3, [.ref lg, .ref fs, .ref ps, .long fa, .long fb, .int mt, .int re])), (lg, .inr (0, [.ref lc, .ref lt, .int (nI k)])), (lc, .inl (cI, 36, .inl cs)), (lt, .inl (cI, 36, .inl ts)), (ob, .inl (cJ, 1, .inr (.inl ov)))]) [1, 2, 3, 4, 0] rfl
    have hD : va_D A [(h0, .inr (3, [.ref lg, .ref fs, .ref ps, .long fa, .long fb, .int mt, .int re])), (lg, .inr (0, [.ref lc, .ref lt, .int (nI k)])), (lc, .inl (cI, 36, .inl cs)), (lt, .inl (cI, 36, .inl ts)), (ob, .inl (cJ, 1, .inr (.inl ov)))] := hD.sub (ws' := [(h0, .inr (3, [.ref lg, .ref fs, .ref ps, .long fa, .long fb, .int mt, .int re])), (lg, .inr (0, [.ref lc, .ref lt, .int (nI k)])), (lc, .inl (cI, 36, .inl cs)), (lt, .inl (cI, 36, .inl ts)), (ob, .inl (cJ, 1, .inr (.inl ov)))]) [1, 2, 3, 4, 0] (by decide) rfl
    obtain rfl : E = nIAE := hb9.1
    refine vx_catch (own := RL) (name := nIAE) hown [] ⟨0, 11, 14, 21⟩ [] (htb.trans rfl) (fun z hz => nomatch hz) (by decide) (by decide) (hts (.classLink RL 21 nIAE) (by decide +kernel)) (va_Nw.use rfl hEX.2.2.2.1) hce hcv hcl ?_
    refine lv_astore (lv' := [(6, .ref q9), (0, .ref h0), (1, .long f9), (3, .long g9), (5, .ref ob)]) hx hb dL_lay_14 hl (by decide) rfl (fun ls hl => ?_)
    refine lv_iconst (v := 1) hx hb dL_lay_16 (by decide) ?_
    refine W.widen (k := 1) (n := 6) (Nat.le_of_ble_eq_true rfl) (Nat.le_of_ble_eq_true rfl) ?_
    refine W.iret (v := 1) hx hb hr (fun tt ht hW => ⟨⟨1, (), rfl, ?_, by rw [ht]; exact hP, va_K.moved hW.alike hK, hD⟩, hS.F ht⟩) hS.2.2 dL_lay_17
    exact rfl
  · try dsimp only at hw6
    exact absurd hw6.1 hbad

set_option maxHeartbeats 400000 in
set_option maxRecDepth 100000 in
theorem c_L_at_ok (l : Launch) (hltr : l.stackTraces = false) (D : va_G) (cI cJ : ClassId) (sz : Nat) (h0 lg fs ps : Nat) (fa fb : Int64) (mt re : Int32) (ob : Nat) (ov : Nat → Int64) (v : Int32) (hok : icell v) : Met l yL_at wsL_at ({ frames := 8, cells := 1, slots := 6, locals := 131 } : Room) (va_Pc [.ref h0, .int v, .ref ob] (px_N (px_X (va_A [(h0, .inr (3, [.ref lg, .ref fs, .ref ps, .long fa, .long fb, .int mt, .int re])), (ob, .inl (cJ, 1, .inr (.inl ov)))] sz) (pv_C D cI cJ [(h0, .inr (3, [.ref lg, .ref fs, .ref ps, .long fa, .long fb, .int mt, .int re])), (ob, .inl (cJ, 1, .inr (.inl ov)))] sz)))) (va_Qi (fun (r : Int32) (u : (Int32)) => r = 0 ∧ (icell v ∧ u = (if ¬ (fa &&& jshl 1 v) = 0 then 1 else if ¬ (fb &&& jshl 1 v) = 0 then 2 else 0))) (fun (u : (Int32)) => pv_B D cI cJ (va_A [(h0, .inr (3, [.ref lg, .ref fs, .ref ps, .long fa, .long fb, .int mt, .int re])), (ob, .inl (cJ, 1, .inr (.inl ov)))] sz) [(h0, .inr (3, [.ref lg, .ref fs, .ref ps, .long fa, .long fb, .int mt, .int re])), (ob, .inl (cJ, 1, .inr (.inl (vp_updL ov 0 (u).toInt64))))]) (va_A [(h0, .inr (3, [.ref lg, .ref fs, .ref ps, .long fa, .long fb, .int mt, .int re])), (ob, .inl (cJ, 1, .inr (.inl ov)))] sz)) 1 6 (va_A [(h0, .inr (3, [.ref lg, .ref fs, .ref ps, .long fa, .long fb, .int mt, .int re])), (ob, .inl (cJ, 1, .inr (.inl ov)))] sz) := by
  refine va_MetW (cc := cL_at) (maxL := 4) (ret := (some .int)) (hh := [(0, 9, 12, 13)]) (by decide) rfl ?_
  intro p e s m args below meth c s₁ B hml hv
  obtain ⟨rfl, hNC, hEN, hEX, hZ, rfl, hP, hK, hD0⟩ := hv
  have hx := B.exec
  have hb := B.bytes
  have hr := B.returns
  have hts := atoms_spec (ws := wsL_at) B.pre
  have hown : s.vm.findClass RL = some m.cls := findClass_of_methodNamed B.named
  have hlocks := B.notSynchronized
  have htb := vx_table (x := yL_at) B (hts _ (List.mem_of_getElem? (i := 0) rfl))
  have hD := hD0.self (sz := s.heap.size)
  generalize hAe : va_A [(h0, .inr (3, [.ref lg, .ref fs, .ref ps, .long fa, .long fb, .int mt, .int re])), (ob, .inl (cJ, 1, .inr (.inl ov)))] s.heap.size = A at hD hZ ⊢
  have hA : ∀ q : Nat, s.heap.size ≤ q → A q := fun q h => by rw [← hAe]; exact Or.inr h
  have hS : va_S A s.heap s.heap [] := va_S.rf
  have hl := lv_entry ([.ref h0, .int v, .ref ob]) (n := 4) (Nat.le_of_ble_eq_true rfl)
  rw [lg_entry_eq]
  generalize (lg_sl ([.ref h0, .int v, .ref ob]) ++ List.replicate (4 - (lg_sl ([.ref h0, .int v, .ref ob])).length) Slot.unset).toArray = ls at hl ⊢
  have hl : lv_has ls 4 [(0, .ref h0), (1, .int v), (2, .ref ob)] := hl
  refine lv_aload_n hx hb dL_at_0 rfl (lv_at hl 2 rfl) ?_
  refine lv_iconst (v := 0) hx hb dL_at_1 (by decide) ?_
  refine lv_aload_n hx hb dL_at_2 rfl (lv_at hl 0 rfl) ?_
  refine lv_iload_n hx hb dL_at_3 rfl (lv_at hl 1 rfl) ?_
  have hPc : va_P D vwCl [(h0, .inr (3, [.ref lg, .ref fs, .ref ps, .long fa, .long fb, .int mt, .int re]))] s.heap := hP.sub (ws' := [(h0, .inr (3, [.ref lg, .ref fs, .ref ps, .long fa, .long fb, .int mt, .int re]))]) [0] rfl
  have hDc : va_D A [(h0, .inr (3, [.ref lg, .ref fs, .ref ps, .long fa, .long fb, .int mt, .int re]))] := hD.sub (ws' := [(h0, .inr (3, [.ref lg, .ref fs, .ref ps, .long fa, .long fb, .int mt, .int re]))]) [0] (by decide) rfl
  have hFc := va_free (wc := [(h0, .inr (3, [.ref lg, .ref fs, .ref ps, .long fa, .long fb, .int mt, .int re]))]) hD hS hA [0] rfl
  refine vx_calli (vx_runV (As := [.int v]) (rest := [.int 0, .ref ob]) ⟨hx, hb, hml, hown, hts⟩ (c_X6_at l hltr D cI cJ s.heap.size  h0 lg fs ps fa fb mt re v) (cwV 1 hts gL_at_X6_at rfl rfl rfl (by decide +kernel) ⟨Nat.le_of_ble_eq_true rfl, Nat.le_of_ble_eq_true rfl⟩) ⟨(px_blindX pv_blind), va_recv hK hPc (ci := 3) (q0 := 0) rfl rfl, fun U hU hW => ⟨rfl, hEX.warm hW, by rw [hU]; exact hZ.to hS hW.alike hFc, by rw [hU], by rw [hU]; exact hPc, va_K.moved hW.alike hK, hDc.weaken (fun _ _ _ _ => trivial)⟩⟩ rfl rfl hl.1 rfl (lv_room (Nat.le_of_ble_eq_true rfl)) dL_at_4 ⟨(Nat.le_of_ble_eq_true rfl), (Nat.le_of_ble_eq_true rfl)⟩) hS (fun q _ h => hFc q h) hFc (fun q _ h => hFc q h) (fun E ce q9 u9 t9 H1 locs hth hvm hpx hB9 hz1 hk1 hS hce hcv hcl => ?_) (fun r4 u t9 H1 locs hth hvm hw4 hB9 hz1 hk1 hS => ?_)
  · obtain ⟨hb9, hP1, hK1, hD1⟩ := hB9
    rw [hth] at hP1
    obtain ⟨hP, hD⟩ := va_join (wr := [(ob, .inl (cJ, 1, .inr (.inl ov)))]) (w1 := [(h0, .inr (3, [.ref lg, .ref fs, .ref ps, .long fa, .long fb, .int mt, .int re]))]) hP hD [0] [1] rfl rfl (by decide) (by decide) hk1 hFc hP1 hD1
    have hP : va_P D vwCl [(h0, .inr (3, [.ref lg, .ref fs, .ref ps, .long fa, .long fb, .int mt, .int re])), (ob, .inl (cJ, 1, .inr (.inl ov)))] H1 := hP.sub (ws' := [(h0, .inr (3, [.ref lg, .ref fs, .ref ps, .long fa, .long fb, .int mt, .int re])), (ob, .inl (cJ, 1, .inr (.inl ov)))]) [1, 0] rfl
    have hD : va_D A [(h0, .inr (3, [.ref lg, .ref fs, .ref ps, .long fa, .long fb, .int mt, .int re])), (ob, .inl (cJ, 1, .inr (.inl ov)))] := hD.sub (ws' := [(h0, .inr (3, [.ref lg, .ref fs, .ref ps, .long fa, .long fb, .int mt, .int re])), (ob, .inl (cJ, 1, .inr (.inl ov)))]) [1, 0] (by decide) rfl
    exact (absurd hok hb9.2)
  · try dsimp only at hw4
    obtain ⟨hP1, hK1, hD1⟩ := hB9
    rw [hth] at hP1
    obtain ⟨hP, hD⟩ := va_join (wr := [(ob, .inl (cJ, 1, .inr (.inl ov)))]) (w1 := [(h0, .inr (3, [.ref lg, .ref fs, .ref ps, .long fa, .long fb, .int mt, .int re]))]) hP hD [0] [1] rfl rfl (by decide) (by decide) hk1 hFc hP1 hD1
    generalize H1 = H at hP hS ⊢
    have hP : va_P D vwCl [(h0, .inr (3, [.ref lg, .ref fs, .ref ps, .long fa, .long fb, .int mt, .int re])), (ob, .inl (cJ, 1, .inr (.inl ov)))] H := hP.sub (ws' := [(h0, .inr (3, [.ref lg, .ref fs, .ref ps, .long fa, .long fb, .int mt, .int re])), (ob, .inl (cJ, 1, .inr (.inl ov)))]) [1, 0] rfl
    have hD : va_D A [(h0, .inr (3, [.ref lg, .ref fs, .ref ps, .long fa, .long fb, .int mt, .int re])), (ob, .inl (cJ, 1, .inr (.inl ov)))] := hD.sub (ws' := [(h0, .inr (3, [.ref lg, .ref fs, .ref ps, .long fa, .long fb, .int mt, .int re])), (ob, .inl (cJ, 1, .inr (.inl ov)))]) [1, 0] (by decide) rfl
    refine lv_i2l (v := (r4 : Int32).toInt64) hx hb dL_at_7 rfl ?_
    refine lv_topl (fun x7 ex7 => ?_)
    refine va_last hx hb hK hP hD hS 1 1 rfl rfl (vp_in_nI (n := 0) (N := 1) (by omega) (by decide)) dL_at_8 (fun H locs hP hD hS => ?_)
    have hu8 : (0 : Int32).toNatClampNeg = 0 := pk_cl 0
    rw [hu8] at hP hD
    have hP : va_P D vwCl [(h0, .inr (3, [.ref lg, .ref fs, .ref ps, .long fa, .long fb, .int mt, .int re])), (ob, .inl (cJ, 1, .inr (.inl (vp_updL ov 0 x7))))] H := hP
    have hD : va_D A [(h0, .inr (3, [.ref lg, .ref fs, .ref ps, .long fa, .long fb, .int mt, .int re])), (ob, .inl (cJ, 1, .inr (.inl (vp_updL ov 0 x7))))] := hD
    refine lv_goto (tgt := 15) hx hb dL_at_9 (by decide) ?_
    refine lv_iconst (v := 0) hx hb dL_at_15 (by decide) ?_
    obtain rfl := ex7.symm
    refine W.widen (k := 1) (n := 6) (Nat.le_of_ble_eq_true rfl) (Nat.le_of_ble_eq_true rfl) ?_
    refine W.iret (v := 0) hx hb hr (fun tt ht hW => ⟨⟨0, r4, rfl, ?_, by rw [ht]; exact hP, va_K.moved hW.alike hK, hD⟩, hS.F ht⟩) hS.2.2 dL_at_16
    exact ⟨rfl, hw4⟩

set_option maxHeartbeats 400000 in
set_option maxRecDepth 100000 in
theorem c_L_at_bad (l : Launch) (hltr : l.stackTraces = false) (D : va_G) (cI cJ : ClassId) (sz : Nat) (h0 lg fs ps : Nat) (fa fb : Int64) (mt re : Int32) (ob : Nat) (ov : Nat → Int64) (v : Int32) (hbad : ¬ (icell v)) : Met l yL_at wsL_at ({ frames := 8, cells := 1, slots := 6, locals := 131 } : Room) (va_Pc [.ref h0, .int v, .ref ob] (px_N (px_X (va_A [(h0, .inr (3, [.ref lg, .ref fs, .ref ps, .long fa, .long fb, .int mt, .int re])), (ob, .inl (cJ, 1, .inr (.inl ov)))] sz) (pv_C D cI cJ [(h0, .inr (3, [.ref lg, .ref fs, .ref ps, .long fa, .long fb, .int mt, .int re])), (ob, .inl (cJ, 1, .inr (.inl ov)))] sz)))) (va_Qi (fun (r : Int32) (u : Unit) => r = 1) (fun (u : Unit) => pv_B D cI cJ (va_A [(h0, .inr (3, [.ref lg, .ref fs, .ref ps, .long fa, .long fb, .int mt, .int re])), (ob, .inl (cJ, 1, .inr (.inl ov)))] sz) [(h0, .inr (3, [.ref lg, .ref fs, .ref ps, .long fa, .long fb, .int mt, .int re])), (ob, .inl (cJ, 1, .inr (.inl ov)))]) (va_A [(h0, .inr (3, [.ref lg, .ref fs, .ref ps, .long fa, .long fb, .int mt, .int re])), (ob, .inl (cJ, 1, .inr (.inl ov)))] sz)) 1 6 (va_A [(h0, .inr (3, [.ref lg, .ref fs, .ref ps, .long fa, .long fb, .int mt, .int re])), (ob, .inl (cJ, 1, .inr (.inl ov)))] sz) := by
  refine va_MetW (cc := cL_at) (maxL := 4) (ret := (some .int)) (hh := [(0, 9, 12, 13)]) (by decide) rfl ?_
  intro p e s m args below meth c s₁ B hml hv
  obtain ⟨rfl, hNC, hEN, hEX, hZ, rfl, hP, hK, hD0⟩ := hv
  have hx := B.exec
  have hb := B.bytes
  have hr := B.returns
  have hts := atoms_spec (ws := wsL_at) B.pre
  have hown : s.vm.findClass RL = some m.cls := findClass_of_methodNamed B.named
  have hlocks := B.notSynchronized
  have htb := vx_table (x := yL_at) B (hts _ (List.mem_of_getElem? (i := 0) rfl))
  have hD := hD0.self (sz := s.heap.size)
  generalize hAe : va_A [(h0, .inr (3, [.ref lg, .ref fs, .ref ps, .long fa, .long fb, .int mt, .int re])), (ob, .inl (cJ, 1, .inr (.inl ov)))] s.heap.size = A at hD hZ ⊢
  have hA : ∀ q : Nat, s.heap.size ≤ q → A q := fun q h => by rw [← hAe]; exact Or.inr h
  have hS : va_S A s.heap s.heap [] := va_S.rf
  have hl := lv_entry ([.ref h0, .int v, .ref ob]) (n := 4) (Nat.le_of_ble_eq_true rfl)
  rw [lg_entry_eq]
  generalize (lg_sl ([.ref h0, .int v, .ref ob]) ++ List.replicate (4 - (lg_sl ([.ref h0, .int v, .ref ob])).length) Slot.unset).toArray = ls at hl ⊢
  have hl : lv_has ls 4 [(0, .ref h0), (1, .int v), (2, .ref ob)] := hl
  refine lv_aload_n hx hb dL_at_0 rfl (lv_at hl 2 rfl) ?_
  refine lv_iconst (v := 0) hx hb dL_at_1 (by decide) ?_
  refine lv_aload_n hx hb dL_at_2 rfl (lv_at hl 0 rfl) ?_
  refine lv_iload_n hx hb dL_at_3 rfl (lv_at hl 1 rfl) ?_
  have hPc : va_P D vwCl [(h0, .inr (3, [.ref lg, .ref fs, .ref ps, .long fa, .long fb, .int mt, .int re]))] s.heap := hP.sub (ws' := [(h0, .inr (3, [.ref lg, .ref fs, .ref ps, .long fa, .long fb, .int mt, .int re]))]) [0] rfl
  have hDc : va_D A [(h0, .inr (3, [.ref lg, .ref fs, .ref ps, .long fa, .long fb, .int mt, .int re]))] := hD.sub (ws' := [(h0, .inr (3, [.ref lg, .ref fs, .ref ps, .long fa, .long fb, .int mt, .int re]))]) [0] (by decide) rfl
  have hFc := va_free (wc := [(h0, .inr (3, [.ref lg, .ref fs, .ref ps, .long fa, .long fb, .int mt, .int re]))]) hD hS hA [0] rfl
  refine vx_calli (vx_runV (As := [.int v]) (rest := [.int 0, .ref ob]) ⟨hx, hb, hml, hown, hts⟩ (c_X6_at l hltr D cI cJ s.heap.size  h0 lg fs ps fa fb mt re v) (cwV 1 hts gL_at_X6_at rfl rfl rfl (by decide +kernel) ⟨Nat.le_of_ble_eq_true rfl, Nat.le_of_ble_eq_true rfl⟩) ⟨(px_blindX pv_blind), va_recv hK hPc (ci := 3) (q0 := 0) rfl rfl, fun U hU hW => ⟨rfl, hEX.warm hW, by rw [hU]; exact hZ.to hS hW.alike hFc, by rw [hU], by rw [hU]; exact hPc, va_K.moved hW.alike hK, hDc.weaken (fun _ _ _ _ => trivial)⟩⟩ rfl rfl hl.1 rfl (lv_room (Nat.le_of_ble_eq_true rfl)) dL_at_4 ⟨(Nat.le_of_ble_eq_true rfl), (Nat.le_of_ble_eq_true rfl)⟩) hS (fun q _ h => hFc q h) hFc (fun q _ h => hFc q h) (fun E ce q9 u9 t9 H1 locs hth hvm hpx hB9 hz1 hk1 hS hce hcv hcl => ?_) (fun r4 u t9 H1 locs hth hvm hw4 hB9 hz1 hk1 hS => ?_)
  · obtain ⟨hb9, hP1, hK1, hD1⟩ := hB9
    rw [hth] at hP1
    obtain ⟨hP, hD⟩ := va_join (wr := [(ob, .inl (cJ, 1, .inr (.inl ov)))]) (w1 := [(h0, .inr (3, [.ref lg, .ref fs, .ref ps, .long fa, .long fb, .int mt, .int re]))]) hP hD [0] [1] rfl rfl (by decide) (by decide) hk1 hFc hP1 hD1
    have hP : va_P D vwCl [(h0, .inr (3, [.ref lg, .ref fs, .ref ps, .long fa, .long fb, .int mt, .int re])), (ob, .inl (cJ, 1, .inr (.inl ov)))] H1 := hP.sub (ws' := [(h0, .inr (3, [.ref lg, .ref fs, .ref ps, .long fa, .long fb, .int mt, .int re])), (ob, .inl (cJ, 1, .inr (.inl ov)))]) [1, 0] rfl
    have hD : va_D A [(h0, .inr (3, [.ref lg, .ref fs, .ref ps, .long fa, .long fb, .int mt, .int re])), (ob, .inl (cJ, 1, .inr (.inl ov)))] := hD.sub (ws' := [(h0, .inr (3, [.ref lg, .ref fs, .ref ps, .long fa, .long fb, .int mt, .int re])), (ob, .inl (cJ, 1, .inr (.inl ov)))]) [1, 0] (by decide) rfl
    obtain rfl : E = nIOB := hb9.1
    refine vx_catch (own := RL) (name := nIOB) hown [] ⟨0, 9, 12, 13⟩ [] (htb.trans rfl) (fun z hz => nomatch hz) (by decide) (by decide) (hts (.classLink RL 13 nIOB) (by decide +kernel)) (va_Nw.use rfl hEX.2.1) hce hcv hcl ?_
    refine lv_astore_n (lv' := [(3, .ref q9), (0, .ref h0), (1, .int v), (2, .ref ob)]) hx hb dL_at_12 rfl hl (by decide) rfl (fun ls hl => ?_)
    refine lv_iconst (v := 1) hx hb dL_at_13 (by decide) ?_
    refine W.widen (k := 1) (n := 6) (Nat.le_of_ble_eq_true rfl) (Nat.le_of_ble_eq_true rfl) ?_
    refine W.iret (v := 1) hx hb hr (fun tt ht hW => ⟨⟨1, (), rfl, ?_, by rw [ht]; exact hP, va_K.moved hW.alike hK, hD⟩, hS.F ht⟩) hS.2.2 dL_at_14
    exact rfl
  · try dsimp only at hw4
    exact absurd hw4.1 hbad

set_option maxHeartbeats 400000 in
set_option maxRecDepth 100000 in
theorem c_L_lines_ok (l : Launch) (hltr : l.stackTraces = false) (D : va_G) (cI cJ : ClassId) (sz : Nat) (h0 lg fs ps : Nat) (fa fb : Int64) (mt re : Int32) (ob : Nat) (ov : Nat → Int64) (v : Int32) (hok : iside v) : Met l yL_lines wsL_lines ({ frames := 8, cells := 1, slots := 6, locals := 131 } : Room) (va_Pc [.ref h0, .int v, .ref ob] (px_N (px_X (va_A [(h0, .inr (3, [.ref lg, .ref fs, .ref ps, .long fa, .long fb, .int mt, .int re])), (ob, .inl (cJ, 1, .inr (.inl ov)))] sz) (pv_C D cI cJ [(h0, .inr (3, [.ref lg, .ref fs, .ref ps, .long fa, .long fb, .int mt, .int re])), (ob, .inl (cJ, 1, .inr (.inl ov)))] sz)))) (va_Qi (fun (r : Int32) (u : (Int32)) => r = 0 ∧ (iside v ∧ u = nI (clines (if v = 1 then fa else fb)))) (fun (u : (Int32)) => pv_B D cI cJ (va_A [(h0, .inr (3, [.ref lg, .ref fs, .ref ps, .long fa, .long fb, .int mt, .int re])), (ob, .inl (cJ, 1, .inr (.inl ov)))] sz) [(h0, .inr (3, [.ref lg, .ref fs, .ref ps, .long fa, .long fb, .int mt, .int re])), (ob, .inl (cJ, 1, .inr (.inl (vp_updL ov 0 (u).toInt64))))]) (va_A [(h0, .inr (3, [.ref lg, .ref fs, .ref ps, .long fa, .long fb, .int mt, .int re])), (ob, .inl (cJ, 1, .inr (.inl ov)))] sz)) 1 6 (va_A [(h0, .inr (3, [.ref lg, .ref fs, .ref ps, .long fa, .long fb, .int mt, .int re])), (ob, .inl (cJ, 1, .inr (.inl ov)))] sz) := by
  refine va_MetW (cc := cL_lines) (maxL := 4) (ret := (some .int)) (hh := [(0, 9, 12, 13)]) (by decide) rfl ?_
  intro p e s m args below meth c s₁ B hml hv
  obtain ⟨rfl, hNC, hEN, hEX, hZ, rfl, hP, hK, hD0⟩ := hv
  have hx := B.exec
  have hb := B.bytes
  have hr := B.returns
  have hts := atoms_spec (ws := wsL_lines) B.pre
  have hown : s.vm.findClass RL = some m.cls := findClass_of_methodNamed B.named
  have hlocks := B.notSynchronized
  have htb := vx_table (x := yL_lines) B (hts _ (List.mem_of_getElem? (i := 0) rfl))
  have hD := hD0.self (sz := s.heap.size)
  generalize hAe : va_A [(h0, .inr (3, [.ref lg, .ref fs, .ref ps, .long fa, .long fb, .int mt, .int re])), (ob, .inl (cJ, 1, .inr (.inl ov)))] s.heap.size = A at hD hZ ⊢
  have hA : ∀ q : Nat, s.heap.size ≤ q → A q := fun q h => by rw [← hAe]; exact Or.inr h
  have hS : va_S A s.heap s.heap [] := va_S.rf
  have hl := lv_entry ([.ref h0, .int v, .ref ob]) (n := 4) (Nat.le_of_ble_eq_true rfl)
  rw [lg_entry_eq]
  generalize (lg_sl ([.ref h0, .int v, .ref ob]) ++ List.replicate (4 - (lg_sl ([.ref h0, .int v, .ref ob])).length) Slot.unset).toArray = ls at hl ⊢
  have hl : lv_has ls 4 [(0, .ref h0), (1, .int v), (2, .ref ob)] := hl
  refine lv_aload_n hx hb dL_lines_0 rfl (lv_at hl 2 rfl) ?_
  refine lv_iconst (v := 0) hx hb dL_lines_1 (by decide) ?_
  refine lv_aload_n hx hb dL_lines_2 rfl (lv_at hl 0 rfl) ?_
  refine lv_iload_n hx hb dL_lines_3 rfl (lv_at hl 1 rfl) ?_
  have hPc : va_P D vwCl [(h0, .inr (3, [.ref lg, .ref fs, .ref ps, .long fa, .long fb, .int mt, .int re]))] s.heap := hP.sub (ws' := [(h0, .inr (3, [.ref lg, .ref fs, .ref ps, .long fa, .long fb, .int mt, .int re]))]) [0] rfl
  have hDc : va_D A [(h0, .inr (3, [.ref lg, .ref fs, .ref ps, .long fa, .long fb, .int mt, .int re]))] := hD.sub (ws' := [(h0, .inr (3, [.ref lg, .ref fs, .ref ps, .long fa, .long fb, .int mt, .int re]))]) [0] (by decide) rfl
  have hFc := va_free (wc := [(h0, .inr (3, [.ref lg, .ref fs, .ref ps, .long fa, .long fb, .int mt, .int re]))]) hD hS hA [0] rfl
  refine vx_calli (vx_runV (As := [.int v]) (rest := [.int 0, .ref ob]) ⟨hx, hb, hml, hown, hts⟩ (c_X6_lines l hltr D cI cJ s.heap.size  h0 lg fs ps fa fb mt re v) (cwV 1 hts gL_lines_X6_lines rfl rfl rfl (by decide +kernel) ⟨Nat.le_of_ble_eq_true rfl, Nat.le_of_ble_eq_true rfl⟩) ⟨(px_blindX pv_blind), va_recv hK hPc (ci := 3) (q0 := 0) rfl rfl, fun U hU hW => ⟨rfl, hEX.warm hW, by rw [hU]; exact hZ.to hS hW.alike hFc, by rw [hU], by rw [hU]; exact hPc, va_K.moved hW.alike hK, hDc.weaken (fun _ _ _ _ => trivial)⟩⟩ rfl rfl hl.1 rfl (lv_room (Nat.le_of_ble_eq_true rfl)) dL_lines_4 ⟨(Nat.le_of_ble_eq_true rfl), (Nat.le_of_ble_eq_true rfl)⟩) hS (fun q _ h => hFc q h) hFc (fun q _ h => hFc q h) (fun E ce q9 u9 t9 H1 locs hth hvm hpx hB9 hz1 hk1 hS hce hcv hcl => ?_) (fun r4 u t9 H1 locs hth hvm hw4 hB9 hz1 hk1 hS => ?_)
  · obtain ⟨hb9, hP1, hK1, hD1⟩ := hB9
    rw [hth] at hP1
    obtain ⟨hP, hD⟩ := va_join (wr := [(ob, .inl (cJ, 1, .inr (.inl ov)))]) (w1 := [(h0, .inr (3, [.ref lg, .ref fs, .ref ps, .long fa, .long fb, .int mt, .int re]))]) hP hD [0] [1] rfl rfl (by decide) (by decide) hk1 hFc hP1 hD1
    have hP : va_P D vwCl [(h0, .inr (3, [.ref lg, .ref fs, .ref ps, .long fa, .long fb, .int mt, .int re])), (ob, .inl (cJ, 1, .inr (.inl ov)))] H1 := hP.sub (ws' := [(h0, .inr (3, [.ref lg, .ref fs, .ref ps, .long fa, .long fb, .int mt, .int re])), (ob, .inl (cJ, 1, .inr (.inl ov)))]) [1, 0] rfl
    have hD : va_D A [(h0, .inr (3, [.ref lg, .ref fs, .ref ps, .long fa, .long fb, .int mt, .int re])), (ob, .inl (cJ, 1, .inr (.inl ov)))] := hD.sub (ws' := [(h0, .inr (3, [.ref lg, .ref fs, .ref ps, .long fa, .long fb, .int mt, .int re])), (ob, .inl (cJ, 1, .inr (.inl ov)))]) [1, 0] (by decide) rfl
    exact (absurd hok hb9.2)
  · try dsimp only at hw4
    obtain ⟨hP1, hK1, hD1⟩ := hB9
    rw [hth] at hP1
    obtain ⟨hP, hD⟩ := va_join (wr := [(ob, .inl (cJ, 1, .inr (.inl ov)))]) (w1 := [(h0, .inr (3, [.ref lg, .ref fs, .ref ps, .long fa, .long fb, .int mt, .int re]))]) hP hD [0] [1] rfl rfl (by decide) (by decide) hk1 hFc hP1 hD1
    generalize H1 = H at hP hS ⊢
    have hP : va_P D vwCl [(h0, .inr (3, [.ref lg, .ref fs, .ref ps, .long fa, .long fb, .int mt, .int re])), (ob, .inl (cJ, 1, .inr (.inl ov)))] H := hP.sub (ws' := [(h0, .inr (3, [.ref lg, .ref fs, .ref ps, .long fa, .long fb, .int mt, .int re])), (ob, .inl (cJ, 1, .inr (.inl ov)))]) [1, 0] rfl
    have hD : va_D A [(h0, .inr (3, [.ref lg, .ref fs, .ref ps, .long fa, .long fb, .int mt, .int re])), (ob, .inl (cJ, 1, .inr (.inl ov)))] := hD.sub (ws' := [(h0, .inr (3, [.ref lg, .ref fs, .ref ps, .long fa, .long fb, .int mt, .int re])), (ob, .inl (cJ, 1, .inr (.inl ov)))]) [1, 0] (by decide) rfl
    refine lv_i2l (v := (r4 : Int32).toInt64) hx hb dL_lines_7 rfl ?_
    refine lv_topl (fun x7 ex7 => ?_)
    refine va_last hx hb hK hP hD hS 1 1 rfl rfl (vp_in_nI (n := 0) (N := 1) (by omega) (by decide)) dL_lines_8 (fun H locs hP hD hS => ?_)
    have hu8 : (0 : Int32).toNatClampNeg = 0 := pk_cl 0
    rw [hu8] at hP hD
    have hP : va_P D vwCl [(h0, .inr (3, [.ref lg, .ref fs, .ref ps, .long fa, .long fb, .int mt, .int re])), (ob, .inl (cJ, 1, .inr (.inl (vp_updL ov 0 x7))))] H := hP
    have hD : va_D A [(h0, .inr (3, [.ref lg, .ref fs, .ref ps, .long fa, .long fb, .int mt, .int re])), (ob, .inl (cJ, 1, .inr (.inl (vp_updL ov 0 x7))))] := hD
    refine lv_goto (tgt := 15) hx hb dL_lines_9 (by decide) ?_
    refine lv_iconst (v := 0) hx hb dL_lines_15 (by decide) ?_
    obtain rfl := ex7.symm
    refine W.widen (k := 1) (n := 6) (Nat.le_of_ble_eq_true rfl) (Nat.le_of_ble_eq_true rfl) ?_
    refine W.iret (v := 0) hx hb hr (fun tt ht hW => ⟨⟨0, r4, rfl, ?_, by rw [ht]; exact hP, va_K.moved hW.alike hK, hD⟩, hS.F ht⟩) hS.2.2 dL_lines_16
    exact ⟨rfl, hw4⟩

set_option maxHeartbeats 400000 in
set_option maxRecDepth 100000 in
theorem c_L_lines_bad (l : Launch) (hltr : l.stackTraces = false) (D : va_G) (cI cJ : ClassId) (sz : Nat) (h0 lg fs ps : Nat) (fa fb : Int64) (mt re : Int32) (ob : Nat) (ov : Nat → Int64) (v : Int32) (hbad : ¬ (iside v)) : Met l yL_lines wsL_lines ({ frames := 8, cells := 1, slots := 6, locals := 131 } : Room) (va_Pc [.ref h0, .int v, .ref ob] (px_N (px_X (va_A [(h0, .inr (3, [.ref lg, .ref fs, .ref ps, .long fa, .long fb, .int mt, .int re])), (ob, .inl (cJ, 1, .inr (.inl ov)))] sz) (pv_C D cI cJ [(h0, .inr (3, [.ref lg, .ref fs, .ref ps, .long fa, .long fb, .int mt, .int re])), (ob, .inl (cJ, 1, .inr (.inl ov)))] sz)))) (va_Qi (fun (r : Int32) (u : Unit) => r = 1) (fun (u : Unit) => pv_B D cI cJ (va_A [(h0, .inr (3, [.ref lg, .ref fs, .ref ps, .long fa, .long fb, .int mt, .int re])), (ob, .inl (cJ, 1, .inr (.inl ov)))] sz) [(h0, .inr (3, [.ref lg, .ref fs, .ref ps, .long fa, .long fb, .int mt, .int re])), (ob, .inl (cJ, 1, .inr (.inl ov)))]) (va_A [(h0, .inr (3, [.ref lg, .ref fs, .ref ps, .long fa, .long fb, .int mt, .int re])), (ob, .inl (cJ, 1, .inr (.inl ov)))] sz)) 1 6 (va_A [(h0, .inr (3, [.ref lg, .ref fs, .ref ps, .long fa, .long fb, .int mt, .int re])), (ob, .inl (cJ, 1, .inr (.inl ov)))] sz) := by
  refine va_MetW (cc := cL_lines) (maxL := 4) (ret := (some .int)) (hh := [(0, 9, 12, 13)]) (by decide) rfl ?_
  intro p e s m args below meth c s₁ B hml hv
  obtain ⟨rfl, hNC, hEN, hEX, hZ, rfl, hP, hK, hD0⟩ := hv
  have hx := B.exec
  have hb := B.bytes
  have hr := B.returns
  have hts := atoms_spec (ws := wsL_lines) B.pre
  have hown : s.vm.findClass RL = some m.cls := findClass_of_methodNamed B.named
  have hlocks := B.notSynchronized
  have htb := vx_table (x := yL_lines) B (hts _ (List.mem_of_getElem? (i := 0) rfl))
  have hD := hD0.self (sz := s.heap.size)
  generalize hAe : va_A [(h0, .inr (3, [.ref lg, .ref fs, .ref ps, .long fa, .long fb, .int mt, .int re])), (ob, .inl (cJ, 1, .inr (.inl ov)))] s.heap.size = A at hD hZ ⊢
  have hA : ∀ q : Nat, s.heap.size ≤ q → A q := fun q h => by rw [← hAe]; exact Or.inr h
  have hS : va_S A s.heap s.heap [] := va_S.rf
  have hl := lv_entry ([.ref h0, .int v, .ref ob]) (n := 4) (Nat.le_of_ble_eq_true rfl)
  rw [lg_entry_eq]
  generalize (lg_sl ([.ref h0, .int v, .ref ob]) ++ List.replicate (4 - (lg_sl ([.ref h0, .int v, .ref ob])).length) Slot.unset).toArray = ls at hl ⊢
  have hl : lv_has ls 4 [(0, .ref h0), (1, .int v), (2, .ref ob)] := hl
  refine lv_aload_n hx hb dL_lines_0 rfl (lv_at hl 2 rfl) ?_
  refine lv_iconst (v := 0) hx hb dL_lines_1 (by decide) ?_
  refine lv_aload_n hx hb dL_lines_2 rfl (lv_at hl 0 rfl) ?_
  refine lv_iload_n hx hb dL_lines_3 rfl (lv_at hl 1 rfl) ?_
  have hPc : va_P D vwCl [(h0, .inr (3, [.ref lg, .ref fs, .ref ps, .long fa, .long fb, .int mt, .int re]))] s.heap := hP.sub (ws' := [(h0, .inr (3, [.ref lg, .ref fs, .ref ps, .long fa, .long fb, .int mt, .int re]))]) [0] rfl
  have hDc : va_D A [(h0, .inr (3, [.ref lg, .ref fs, .ref ps, .long fa, .long fb, .int mt, .int re]))] := hD.sub (ws' := [(h0, .inr (3, [.ref lg, .ref fs, .ref ps, .long fa, .long fb, .int mt, .int re]))]) [0] (by decide) rfl
  have hFc := va_free (wc := [(h0, .inr (3, [.ref lg, .ref fs, .ref ps, .long fa, .long fb, .int mt, .int re]))]) hD hS hA [0] rfl
  refine vx_calli (vx_runV (As := [.int v]) (rest := [.int 0, .ref ob]) ⟨hx, hb, hml, hown, hts⟩ (c_X6_lines l hltr D cI cJ s.heap.size  h0 lg fs ps fa fb mt re v) (cwV 1 hts gL_lines_X6_lines rfl rfl rfl (by decide +kernel) ⟨Nat.le_of_ble_eq_true rfl, Nat.le_of_ble_eq_true rfl⟩) ⟨(px_blindX pv_blind), va_recv hK hPc (ci := 3) (q0 := 0) rfl rfl, fun U hU hW => ⟨rfl, hEX.warm hW, by rw [hU]; exact hZ.to hS hW.alike hFc, by rw [hU], by rw [hU]; exact hPc, va_K.moved hW.alike hK, hDc.weaken (fun _ _ _ _ => trivial)⟩⟩ rfl rfl hl.1 rfl (lv_room (Nat.le_of_ble_eq_true rfl)) dL_lines_4 ⟨(Nat.le_of_ble_eq_true rfl), (Nat.le_of_ble_eq_true rfl)⟩) hS (fun q _ h => hFc q h) hFc (fun q _ h => hFc q h) (fun E ce q9 u9 t9 H1 locs hth hvm hpx hB9 hz1 hk1 hS hce hcv hcl => ?_) (fun r4 u t9 H1 locs hth hvm hw4 hB9 hz1 hk1 hS => ?_)
  · obtain ⟨hb9, hP1, hK1, hD1⟩ := hB9
    rw [hth] at hP1
    obtain ⟨hP, hD⟩ := va_join (wr := [(ob, .inl (cJ, 1, .inr (.inl ov)))]) (w1 := [(h0, .inr (3, [.ref lg, .ref fs, .ref ps, .long fa, .long fb, .int mt, .int re]))]) hP hD [0] [1] rfl rfl (by decide) (by decide) hk1 hFc hP1 hD1
    have hP : va_P D vwCl [(h0, .inr (3, [.ref lg, .ref fs, .ref ps, .long fa, .long fb, .int mt, .int re])), (ob, .inl (cJ, 1, .inr (.inl ov)))] H1 := hP.sub (ws' := [(h0, .inr (3, [.ref lg, .ref fs, .ref ps, .long fa, .long fb, .int mt, .int re])), (ob, .inl (cJ, 1, .inr (.inl ov)))]) [1, 0] rfl
    have hD : va_D A [(h0, .inr (3, [.ref lg, .ref fs, .ref ps, .long fa, .long fb, .int mt, .int re])), (ob, .inl (cJ, 1, .inr (.inl ov)))] := hD.sub (ws' := [(h0, .inr (3, [.ref lg, .ref fs, .ref ps, .long fa, .long fb, .int mt, .int re])), (ob, .inl (cJ, 1, .inr (.inl ov)))]) [1, 0] (by decide) rfl
    obtain rfl : E = nIOB := hb9.1
    refine vx_catch (own := RL) (name := nIOB) hown [] ⟨0, 9, 12, 13⟩ [] (htb.trans rfl) (fun z hz => nomatch hz) (by decide) (by decide) (hts (.classLink RL 13 nIOB) (by decide +kernel)) (va_Nw.use rfl hEX.2.1) hce hcv hcl ?_
    refine lv_astore_n (lv' := [(3, .ref q9), (0, .ref h0), (1, .int v), (2, .ref ob)]) hx hb dL_lines_12 rfl hl (by decide) rfl (fun ls hl => ?_)
    refine lv_iconst (v := 1) hx hb dL_lines_13 (by decide) ?_
    refine W.widen (k := 1) (n := 6) (Nat.le_of_ble_eq_true rfl) (Nat.le_of_ble_eq_true rfl) ?_
    refine W.iret (v := 1) hx hb hr (fun tt ht hW => ⟨⟨1, (), rfl, ?_, by rw [ht]; exact hP, va_K.moved hW.alike hK, hD⟩, hS.F ht⟩) hS.2.2 dL_lines_14
    exact rfl
  · try dsimp only at hw4
    exact absurd hw4.1 hbad

set_option maxHeartbeats 400000 in
set_option maxRecDepth 100000 in
theorem c_L_fours_ok (l : Launch) (hltr : l.stackTraces = false) (D : va_G) (cI cJ : ClassId) (sz : Nat) (h0 lg fs ps : Nat) (fa fb : Int64) (mt re : Int32) (ob : Nat) (ov : Nat → Int64) (v : Int32) (hok : iside v) : Met l yL_fours wsL_fours ({ frames := 8, cells := 1, slots := 6, locals := 131 } : Room) (va_Pc [.ref h0, .int v, .ref ob] (px_N (px_X (va_A [(h0, .inr (3, [.ref lg, .ref fs, .ref ps, .long fa, .long fb, .int mt, .int re])), (ob, .inl (cJ, 1, .inr (.inl ov)))] sz) (pv_C D cI cJ [(h0, .inr (3, [.ref lg, .ref fs, .ref ps, .long fa, .long fb, .int mt, .int re])), (ob, .inl (cJ, 1, .inr (.inl ov)))] sz)))) (va_Qi (fun (r : Int32) (u : (Int32)) => r = 0 ∧ (iside v ∧ u = nI (cfours (if v = 1 then fa else fb) (cempty fa fb) 5))) (fun (u : (Int32)) => pv_B D cI cJ (va_A [(h0, .inr (3, [.ref lg, .ref fs, .ref ps, .long fa, .long fb, .int mt, .int re])), (ob, .inl (cJ, 1, .inr (.inl ov)))] sz) [(h0, .inr (3, [.ref lg, .ref fs, .ref ps, .long fa, .long fb, .int mt, .int re])), (ob, .inl (cJ, 1, .inr (.inl (vp_updL ov 0 (u).toInt64))))]) (va_A [(h0, .inr (3, [.ref lg, .ref fs, .ref ps, .long fa, .long fb, .int mt, .int re])), (ob, .inl (cJ, 1, .inr (.inl ov)))] sz)) 1 6 (va_A [(h0, .inr (3, [.ref lg, .ref fs, .ref ps, .long fa, .long fb, .int mt, .int re])), (ob, .inl (cJ, 1, .inr (.inl ov)))] sz) := by
  refine va_MetW (cc := cL_fours) (maxL := 4) (ret := (some .int)) (hh := [(0, 9, 12, 13)]) (by decide) rfl ?_
  intro p e s m args below meth c s₁ B hml hv
  obtain ⟨rfl, hNC, hEN, hEX, hZ, rfl, hP, hK, hD0⟩ := hv
  have hx := B.exec
  have hb := B.bytes
  have hr := B.returns
  have hts := atoms_spec (ws := wsL_fours) B.pre
  have hown : s.vm.findClass RL = some m.cls := findClass_of_methodNamed B.named
  have hlocks := B.notSynchronized
  have htb := vx_table (x := yL_fours) B (hts _ (List.mem_of_getElem? (i := 0) rfl))
  have hD := hD0.self (sz := s.heap.size)
  generalize hAe : va_A [(h0, .inr (3, [.ref lg, .ref fs, .ref ps, .long fa, .long fb, .int mt, .int re])), (ob, .inl (cJ, 1, .inr (.inl ov)))] s.heap.size = A at hD hZ ⊢
  have hA : ∀ q : Nat, s.heap.size ≤ q → A q := fun q h => by rw [← hAe]; exact Or.inr h
  have hS : va_S A s.heap s.heap [] := va_S.rf
  have hl := lv_entry ([.ref h0, .int v, .ref ob]) (n := 4) (Nat.le_of_ble_eq_true rfl)
  rw [lg_entry_eq]
  generalize (lg_sl ([.ref h0, .int v, .ref ob]) ++ List.replicate (4 - (lg_sl ([.ref h0, .int v, .ref ob])).length) Slot.unset).toArray = ls at hl ⊢
  have hl : lv_has ls 4 [(0, .ref h0), (1, .int v), (2, .ref ob)] := hl
  refine lv_aload_n hx hb dL_fours_0 rfl (lv_at hl 2 rfl) ?_
  refine lv_iconst (v := 0) hx hb dL_fours_1 (by decide) ?_
  refine lv_aload_n hx hb dL_fours_2 rfl (lv_at hl 0 rfl) ?_
  refine lv_iload_n hx hb dL_fours_3 rfl (lv_at hl 1 rfl) ?_
  have hPc : va_P D vwCl [(h0, .inr (3, [.ref lg, .ref fs, .ref ps, .long fa, .long fb, .int mt, .int re]))] s.heap := hP.sub (ws' := [(h0, .inr (3, [.ref lg, .ref fs, .ref ps, .long fa, .long fb, .int mt, .int re]))]) [0] rfl
  have hDc : va_D A [(h0, .inr (3, [.ref lg, .ref fs, .ref ps, .long fa, .long fb, .int mt, .int re]))] := hD.sub (ws' := [(h0, .inr (3, [.ref lg, .ref fs, .ref ps, .long fa, .long fb, .int mt, .int re]))]) [0] (by decide) rfl
  have hFc := va_free (wc := [(h0, .inr (3, [.ref lg, .ref fs, .ref ps, .long fa, .long fb, .int mt, .int re]))]) hD hS hA [0] rfl
  refine vx_calli (vx_runV (As := [.int v]) (rest := [.int 0, .ref ob]) ⟨hx, hb, hml, hown, hts⟩ (c_X6_fours l hltr D cI cJ s.heap.size  h0 lg fs ps fa fb mt re v) (cwV 1 hts gL_fours_X6_fours rfl rfl rfl (by decide +kernel) ⟨Nat.le_of_ble_eq_true rfl, Nat.le_of_ble_eq_true rfl⟩) ⟨(px_blindX pv_blind), va_recv hK hPc (ci := 3) (q0 := 0) rfl rfl, fun U hU hW => ⟨rfl, hEX.warm hW, by rw [hU]; exact hZ.to hS hW.alike hFc, by rw [hU], by rw [hU]; exact hPc, va_K.moved hW.alike hK, hDc.weaken (fun _ _ _ _ => trivial)⟩⟩ rfl rfl hl.1 rfl (lv_room (Nat.le_of_ble_eq_true rfl)) dL_fours_4 ⟨(Nat.le_of_ble_eq_true rfl), (Nat.le_of_ble_eq_true rfl)⟩) hS (fun q _ h => hFc q h) hFc (fun q _ h => hFc q h) (fun E ce q9 u9 t9 H1 locs hth hvm hpx hB9 hz1 hk1 hS hce hcv hcl => ?_) (fun r4 u t9 H1 locs hth hvm hw4 hB9 hz1 hk1 hS => ?_)
  · obtain ⟨hb9, hP1, hK1, hD1⟩ := hB9
    rw [hth] at hP1
    obtain ⟨hP, hD⟩ := va_join (wr := [(ob, .inl (cJ, 1, .inr (.inl ov)))]) (w1 := [(h0, .inr (3, [.ref lg, .ref fs, .ref ps, .long fa, .long fb, .int mt, .int re]))]) hP hD [0] [1] rfl rfl (by decide) (by decide) hk1 hFc hP1 hD1
    have hP : va_P D vwCl [(h0, .inr (3, [.ref lg, .ref fs, .ref ps, .long fa, .long fb, .int mt, .int re])), (ob, .inl (cJ, 1, .inr (.inl ov)))] H1 := hP.sub (ws' := [(h0, .inr (3, [.ref lg, .ref fs, .ref ps, .long fa, .long fb, .int mt, .int re])), (ob, .inl (cJ, 1, .inr (.inl ov)))]) [1, 0] rfl
    have hD : va_D A [(h0, .inr (3, [.ref lg, .ref fs, .ref ps, .long fa, .long fb, .int mt, .int re])), (ob, .inl (cJ, 1, .inr (.inl ov)))] := hD.sub (ws' := [(h0, .inr (3, [.ref lg, .ref fs, .ref ps, .long fa, .long fb, .int mt, .int re])), (ob, .inl (cJ, 1, .inr (.inl ov)))]) [1, 0] (by decide) rfl
    exact (absurd hok hb9.2)
  · try dsimp only at hw4
    obtain ⟨hP1, hK1, hD1⟩ := hB9
    rw [hth] at hP1
    obtain ⟨hP, hD⟩ := va_join (wr := [(ob, .inl (cJ, 1, .inr (.inl ov)))]) (w1 := [(h0, .inr (3, [.ref lg, .ref fs, .ref ps, .long fa, .long fb, .int mt, .int re]))]) hP hD [0] [1] rfl rfl (by decide) (by decide) hk1 hFc hP1 hD1
    generalize H1 = H at hP hS ⊢
    have hP : va_P D vwCl [(h0, .inr (3, [.ref lg, .ref fs, .ref ps, .long fa, .long fb, .int mt, .int re])), (ob, .inl (cJ, 1, .inr (.inl ov)))] H := hP.sub (ws' := [(h0, .inr (3, [.ref lg, .ref fs, .ref ps, .long fa, .long fb, .int mt, .int re])), (ob, .inl (cJ, 1, .inr (.inl ov)))]) [1, 0] rfl
    have hD : va_D A [(h0, .inr (3, [.ref lg, .ref fs, .ref ps, .long fa, .long fb, .int mt, .int re])), (ob, .inl (cJ, 1, .inr (.inl ov)))] := hD.sub (ws' := [(h0, .inr (3, [.ref lg, .ref fs, .ref ps, .long fa, .long fb, .int mt, .int re])), (ob, .inl (cJ, 1, .inr (.inl ov)))]) [1, 0] (by decide) rfl
    refine lv_i2l (v := (r4 : Int32).toInt64) hx hb dL_fours_7 rfl ?_
    refine lv_topl (fun x7 ex7 => ?_)
    refine va_last hx hb hK hP hD hS 1 1 rfl rfl (vp_in_nI (n := 0) (N := 1) (by omega) (by decide)) dL_fours_8 (fun H locs hP hD hS => ?_)
    have hu8 : (0 : Int32).toNatClampNeg = 0 := pk_cl 0
    rw [hu8] at hP hD
    have hP : va_P D vwCl [(h0, .inr (3, [.ref lg, .ref fs, .ref ps, .long fa, .long fb, .int mt, .int re])), (ob, .inl (cJ, 1, .inr (.inl (vp_updL ov 0 x7))))] H := hP
    have hD : va_D A [(h0, .inr (3, [.ref lg, .ref fs, .ref ps, .long fa, .long fb, .int mt, .int re])), (ob, .inl (cJ, 1, .inr (.inl (vp_updL ov 0 x7))))] := hD
    refine lv_goto (tgt := 15) hx hb dL_fours_9 (by decide) ?_
    refine lv_iconst (v := 0) hx hb dL_fours_15 (by decide) ?_
    obtain rfl := ex7.symm
    refine W.widen (k := 1) (n := 6) (Nat.le_of_ble_eq_true rfl) (Nat.le_of_ble_eq_true rfl) ?_
    refine W.iret (v := 0) hx hb hr (fun tt ht hW => ⟨⟨0, r4, rfl, ?_, by rw [ht]; exact hP, va_K.moved hW.alike hK, hD⟩, hS.F ht⟩) hS.2.2 dL_fours_16
    exact ⟨rfl, hw4⟩

set_option maxHeartbeats 400000 in
set_option maxRecDepth 100000 in
theorem c_L_fours_bad (l : Launch) (hltr : l.stackTraces = false) (D : va_G) (cI cJ : ClassId) (sz : Nat) (h0 lg fs ps : Nat) (fa fb : Int64) (mt re : Int32) (ob : Nat) (ov : Nat → Int64) (v : Int32) (hbad : ¬ (iside v)) : Met l yL_fours wsL_fours ({ frames := 8, cells := 1, slots := 6, locals := 131 } : Room) (va_Pc [.ref h0, .int v, .ref ob] (px_N (px_X (va_A [(h0, .inr (3, [.ref lg, .ref fs, .ref ps, .long fa, .long fb, .int mt, .int re])), (ob, .inl (cJ, 1, .inr (.inl ov)))] sz) (pv_C D cI cJ [(h0, .inr (3, [.ref lg, .ref fs, .ref ps, .long fa, .long fb, .int mt, .int re])), (ob, .inl (cJ, 1, .inr (.inl ov)))] sz)))) (va_Qi (fun (r : Int32) (u : Unit) => r = 1) (fun (u : Unit) => pv_B D cI cJ (va_A [(h0, .inr (3, [.ref lg, .ref fs, .ref ps, .long fa, .long fb, .int mt, .int re])), (ob, .inl (cJ, 1, .inr (.inl ov)))] sz) [(h0, .inr (3, [.ref lg, .ref fs, .ref ps, .long fa, .long fb, .int mt, .int re])), (ob, .inl (cJ, 1, .inr (.inl ov)))]) (va_A [(h0, .inr (3, [.ref lg, .ref fs, .ref ps, .long fa, .long fb, .int mt, .int re])), (ob, .inl (cJ, 1, .inr (.inl ov)))] sz)) 1 6 (va_A [(h0, .inr (3, [.ref lg, .ref fs, .ref ps, .long fa, .long fb, .int mt, .int re])), (ob, .inl (cJ, 1, .inr (.inl ov)))] sz) := by
  refine va_MetW (cc := cL_fours) (maxL := 4) (ret := (some .int)) (hh := [(0, 9, 12, 13)]) (by decide) rfl ?_
  intro p e s m args below meth c s₁ B hml hv
  obtain ⟨rfl, hNC, hEN, hEX, hZ, rfl, hP, hK, hD0⟩ := hv
  have hx := B.exec
  have hb := B.bytes
  have hr := B.returns
  have hts := atoms_spec (ws := wsL_fours) B.pre
  have hown : s.vm.findClass RL = some m.cls := findClass_of_methodNamed B.named
  have hlocks := B.notSynchronized
  have htb := vx_table (x := yL_fours) B (hts _ (List.mem_of_getElem? (i := 0) rfl))
  have hD := hD0.self (sz := s.heap.size)
  generalize hAe : va_A [(h0, .inr (3, [.ref lg, .ref fs, .ref ps, .long fa, .long fb, .int mt, .int re])), (ob, .inl (cJ, 1, .inr (.inl ov)))] s.heap.size = A at hD hZ ⊢
  have hA : ∀ q : Nat, s.heap.size ≤ q → A q := fun q h => by rw [← hAe]; exact Or.inr h
  have hS : va_S A s.heap s.heap [] := va_S.rf
  have hl := lv_entry ([.ref h0, .int v, .ref ob]) (n := 4) (Nat.le_of_ble_eq_true rfl)
  rw [lg_entry_eq]
  generalize (lg_sl ([.ref h0, .int v, .ref ob]) ++ List.replicate (4 - (lg_sl ([.ref h0, .int v, .ref ob])).length) Slot.unset).toArray = ls at hl ⊢
  have hl : lv_has ls 4 [(0, .ref h0), (1, .int v), (2, .ref ob)] := hl
  refine lv_aload_n hx hb dL_fours_0 rfl (lv_at hl 2 rfl) ?_
  refine lv_iconst (v := 0) hx hb dL_fours_1 (by decide) ?_
  refine lv_aload_n hx hb dL_fours_2 rfl (lv_at hl 0 rfl) ?_
  refine lv_iload_n hx hb dL_fours_3 rfl (lv_at hl 1 rfl) ?_
  have hPc : va_P D vwCl [(h0, .inr (3, [.ref lg, .ref fs, .ref ps, .long fa, .long fb, .int mt, .int re]))] s.heap := hP.sub (ws' := [(h0, .inr (3, [.ref lg, .ref fs, .ref ps, .long fa, .long fb, .int mt, .int re]))]) [0] rfl
  have hDc : va_D A [(h0, .inr (3, [.ref lg, .ref fs, .ref ps, .long fa, .long fb, .int mt, .int re]))] := hD.sub (ws' := [(h0, .inr (3, [.ref lg, .ref fs, .ref ps, .long fa, .long fb, .int mt, .int re]))]) [0] (by decide) rfl
  have hFc := va_free (wc := [(h0, .inr (3, [.ref lg, .ref fs, .ref ps, .long fa, .long fb, .int mt, .int re]))]) hD hS hA [0] rfl
  refine vx_calli (vx_runV (As := [.int v]) (rest := [.int 0, .ref ob]) ⟨hx, hb, hml, hown, hts⟩ (c_X6_fours l hltr D cI cJ s.heap.size  h0 lg fs ps fa fb mt re v) (cwV 1 hts gL_fours_X6_fours rfl rfl rfl (by decide +kernel) ⟨Nat.le_of_ble_eq_true rfl, Nat.le_of_ble_eq_true rfl⟩) ⟨(px_blindX pv_blind), va_recv hK hPc (ci := 3) (q0 := 0) rfl rfl, fun U hU hW => ⟨rfl, hEX.warm hW, by rw [hU]; exact hZ.to hS hW.alike hFc, by rw [hU], by rw [hU]; exact hPc, va_K.moved hW.alike hK, hDc.weaken (fun _ _ _ _ => trivial)⟩⟩ rfl rfl hl.1 rfl (lv_room (Nat.le_of_ble_eq_true rfl)) dL_fours_4 ⟨(Nat.le_of_ble_eq_true rfl), (Nat.le_of_ble_eq_true rfl)⟩) hS (fun q _ h => hFc q h) hFc (fun q _ h => hFc q h) (fun E ce q9 u9 t9 H1 locs hth hvm hpx hB9 hz1 hk1 hS hce hcv hcl => ?_) (fun r4 u t9 H1 locs hth hvm hw4 hB9 hz1 hk1 hS => ?_)
  · obtain ⟨hb9, hP1, hK1, hD1⟩ := hB9
    rw [hth] at hP1
    obtain ⟨hP, hD⟩ := va_join (wr := [(ob, .inl (cJ, 1, .inr (.inl ov)))]) (w1 := [(h0, .inr (3, [.ref lg, .ref fs, .ref ps, .long fa, .long fb, .int mt, .int re]))]) hP hD [0] [1] rfl rfl (by decide) (by decide) hk1 hFc hP1 hD1
    have hP : va_P D vwCl [(h0, .inr (3, [.ref lg, .ref fs, .ref ps, .long fa, .long fb, .int mt, .int re])), (ob, .inl (cJ, 1, .inr (.inl ov)))] H1 := hP.sub (ws' := [(h0, .inr (3, [.ref lg, .ref fs, .ref ps, .long fa, .long fb, .int mt, .int re])), (ob, .inl (cJ, 1, .inr (.inl ov)))]) [1, 0] rfl
    have hD : va_D A [(h0, .inr (3, [.ref lg, .ref fs, .ref ps, .long fa, .long fb, .int mt, .int re])), (ob, .inl (cJ, 1, .inr (.inl ov)))] := hD.sub (ws' := [(h0, .inr (3, [.ref lg, .ref fs, .ref ps, .long fa, .long fb, .int mt, .int re])), (ob, .inl (cJ, 1, .inr (.inl ov)))]) [1, 0] (by decide) rfl
    obtain rfl : E = nIOB := hb9.1
    refine vx_catch (own := RL) (name := nIOB) hown [] ⟨0, 9, 12, 13⟩ [] (htb.trans rfl) (fun z hz => nomatch hz) (by decide) (by decide) (hts (.classLink RL 13 nIOB) (by decide +kernel)) (va_Nw.use rfl hEX.2.1) hce hcv hcl ?_
    refine lv_astore_n (lv' := [(3, .ref q9), (0, .ref h0), (1, .int v), (2, .ref ob)]) hx hb dL_fours_12 rfl hl (by decide) rfl (fun ls hl => ?_)
    refine lv_iconst (v := 1) hx hb dL_fours_13 (by decide) ?_
    refine W.widen (k := 1) (n := 6) (Nat.le_of_ble_eq_true rfl) (Nat.le_of_ble_eq_true rfl) ?_
    refine W.iret (v := 1) hx hb hr (fun tt ht hW => ⟨⟨1, (), rfl, ?_, by rw [ht]; exact hP, va_K.moved hW.alike hK, hD⟩, hS.F ht⟩) hS.2.2 dL_fours_14
    exact rfl
  · try dsimp only at hw4
    exact absurd hw4.1 hbad

set_option maxHeartbeats 400000 in
set_option maxRecDepth 100000 in
theorem c_L_textLength_ok (l : Launch) (hltr : l.stackTraces = false) (D : va_G) (cI cJ : ClassId) (sz : Nat) (h0 lg lc lt fs ps : Nat) (fa fb : Int64) (mt re : Int32) (cs ts : Nat → Int32) (k : Nat) (hk : k ≤ 36) (ob : Nat) (ov : Nat → Int64) (v : Int32) (hok : imove k v) : Met l yL_textLength wsL_textLength ({ frames := 8, cells := 1, slots := 6, locals := 132 } : Room) (va_Pc [.ref h0, .int v, .ref ob] (px_N (px_X (va_A [(h0, .inr (3, [.ref lg, .ref fs, .ref ps, .long fa, .long fb, .int mt, .int re])), (lg, .inr (0, [.ref lc, .ref lt, .int (nI k)])), (lc, .inl (cI, 36, .inl cs)), (lt, .inl (cI, 36, .inl ts)), (ob, .inl (cJ, 1, .inr (.inl ov)))] sz) (pv_C D cI cJ [(h0, .inr (3, [.ref lg, .ref fs, .ref ps, .long fa, .long fb, .int mt, .int re])), (lg, .inr (0, [.ref lc, .ref lt, .int (nI k)])), (lc, .inl (cI, 36, .inl cs)), (lt, .inl (cI, 36, .inl ts)), (ob, .inl (cJ, 1, .inr (.inl ov)))] sz)))) (va_Qi (fun (r : Int32) (u : (Int32)) => r = 0 ∧ (∃ j, j < k ∧ v = nI j ∧ u = (if ts j = (-1) then 2 else 4))) (fun (u : (Int32)) => pv_B D cI cJ (va_A [(h0, .inr (3, [.ref lg, .ref fs, .ref ps, .long fa, .long fb, .int mt, .int re])), (lg, .inr (0, [.ref lc, .ref lt, .int (nI k)])), (lc, .inl (cI, 36, .inl cs)), (lt, .inl (cI, 36, .inl ts)), (ob, .inl (cJ, 1, .inr (.inl ov)))] sz) [(h0, .inr (3, [.ref lg, .ref fs, .ref ps, .long fa, .long fb, .int mt, .int re])), (lg, .inr (0, [.ref lc, .ref lt, .int (nI k)])), (lc, .inl (cI, 36, .inl cs)), (lt, .inl (cI, 36, .inl ts)), (ob, .inl (cJ, 1, .inr (.inl (vp_updL ov 0 (u).toInt64))))]) (va_A [(h0, .inr (3, [.ref lg, .ref fs, .ref ps, .long fa, .long fb, .int mt, .int re])), (lg, .inr (0, [.ref lc, .ref lt, .int (nI k)])), (lc, .inl (cI, 36, .inl cs)), (lt, .inl (cI, 36, .inl ts)), (ob, .inl (cJ, 1, .inr (.inl ov)))] sz)) 1 6 (va_A [(h0, .inr (3, [.ref lg, .ref fs, .ref ps, .long fa, .long fb, .int mt, .int re])), (lg, .inr (0, [.ref lc, .ref lt, .int (nI k)])), (lc, .inl (cI, 36, .inl cs)), (lt, .inl (cI, 36, .inl ts)), (ob, .inl (cJ, 1, .inr (.inl ov)))] sz) := by
  refine va_MetW (cc := cL_textLength) (maxL := 4) (ret := (some .int)) (hh := [(0, 9, 12, 13)]) (by decide) rfl ?_
  intro p e s m args below meth c s₁ B hml hv
  obtain ⟨rfl, hNC, hEN, hEX, hZ, rfl, hP, hK, hD0⟩ := hv
  have hx := B.exec
  have hb := B.bytes
  have hr := B.returns
  have hts := atoms_spec (ws := wsL_textLength) B.pre
  have hown : s.vm.findClass RL = some m.cls := findClass_of_methodNamed B.named
  have hlocks := B.notSynchronized
  have htb := vx_table (x := yL_textLength) B (hts _ (List.mem_of_getElem? (i := 0) rfl))
  have hD := hD0.self (sz := s.heap.size)
  generalize hAe : va_A [(h0, .inr (3, [.ref lg, .ref fs, .ref ps, .long fa, .long fb, .int mt, .int re])), (lg, .inr (0, [.ref lc, .ref lt, .int (nI k)])), (lc, .inl (cI, 36, .inl cs)), (lt, .inl (cI, 36, .inl ts)), (ob, .inl (cJ, 1, .inr (.inl ov)))] s.heap.size = A at hD hZ ⊢
  have hA : ∀ q : Nat, s.heap.size ≤ q → A q := fun q h => by rw [← hAe]; exact Or.inr h
  have hS : va_S A s.heap s.heap [] := va_S.rf
  have hl := lv_entry ([.ref h0, .int v, .ref ob]) (n := 4) (Nat.le_of_ble_eq_true rfl)
  rw [lg_entry_eq]
  generalize (lg_sl ([.ref h0, .int v, .ref ob]) ++ List.replicate (4 - (lg_sl ([.ref h0, .int v, .ref ob])).length) Slot.unset).toArray = ls at hl ⊢
  have hl : lv_has ls 4 [(0, .ref h0), (1, .int v), (2, .ref ob)] := hl
  refine lv_aload_n hx hb dL_textLength_0 rfl (lv_at hl 2 rfl) ?_
  refine lv_iconst (v := 0) hx hb dL_textLength_1 (by decide) ?_
  refine lv_aload_n hx hb dL_textLength_2 rfl (lv_at hl 0 rfl) ?_
  refine lv_iload_n hx hb dL_textLength_3 rfl (lv_at hl 1 rfl) ?_
  have hPc : va_P D vwCl [(h0, .inr (3, [.ref lg, .ref fs, .ref ps, .long fa, .long fb, .int mt, .int re])), (lg, .inr (0, [.ref lc, .ref lt, .int (nI k)])), (lc, .inl (cI, 36, .inl cs)), (lt, .inl (cI, 36, .inl ts))] s.heap := hP.sub (ws' := [(h0, .inr (3, [.ref lg, .ref fs, .ref ps, .long fa, .long fb, .int mt, .int re])), (lg, .inr (0, [.ref lc, .ref lt, .int (nI k)])), (lc, .inl (cI, 36, .inl cs)), (lt, .inl (cI, 36, .inl ts))]) [0, 1, 2, 3] rfl
  have hDc : va_D A [(h0, .inr (3, [.ref lg, .ref fs, .ref ps, .long fa, .long fb, .int mt, .int re])), (lg, .inr (0, [.ref lc, .ref lt, .int (nI k)])), (lc, .inl (cI, 36, .inl cs)), (lt, .inl (cI, 36, .inl ts))] := hD.sub (ws' := [(h0, .inr (3, [.ref lg, .ref fs, .ref ps, .long fa, .long fb, .int mt, .int re])), (lg, .inr (0, [.ref lc, .ref lt, .int (nI k)])), (lc, .inl (cI, 36, .inl cs)), (lt, .inl (cI, 36, .inl ts))]) [0, 1, 2, 3] (by decide) rfl
  have hFc := va_free (wc := [(h0, .inr (3, [.ref lg, .ref fs, .ref ps, .long fa, .long fb, .int mt, .int re])), (lg, .inr (0, [.ref lc, .ref lt, .int (nI k)])), (lc, .inl (cI, 36, .inl cs)), (lt, .inl (cI, 36, .inl ts))]) hD hS hA [0, 1, 2, 3] rfl
  refine vx_calli (vx_runV (As := [.int v]) (rest := [.int 0, .ref ob]) ⟨hx, hb, hml, hown, hts⟩ (c_X6_textLength l hltr D cI cJ s.heap.size  h0 lg lc lt fs ps fa fb mt re cs ts k (by omega) v) (cwV 1 hts gL_textLength_X6_textLength rfl rfl rfl (by decide +kernel) ⟨Nat.le_of_ble_eq_true rfl, Nat.le_of_ble_eq_true rfl⟩) ⟨(px_blindX pv_blind), va_recv hK hPc (ci := 3) (q0 := 0) rfl rfl, fun U hU hW => ⟨rfl, hEX.warm hW, by rw [hU]; exact hZ.to hS hW.alike hFc, by rw [hU], by rw [hU]; exact hPc, va_K.moved hW.alike hK, hDc.weaken (fun _ _ _ _ => trivial)⟩⟩ rfl rfl hl.1 rfl (lv_room (Nat.le_of_ble_eq_true rfl)) dL_textLength_4 ⟨(Nat.le_of_ble_eq_true rfl), (Nat.le_of_ble_eq_true rfl)⟩) hS (fun q _ h => hFc q h) hFc (fun q _ h => hFc q h) (fun E ce q9 u9 t9 H1 locs hth hvm hpx hB9 hz1 hk1 hS hce hcv hcl => ?_) (fun r4 u t9 H1 locs hth hvm hw4 hB9 hz1 hk1 hS => ?_)
  · obtain ⟨hb9, hP1, hK1, hD1⟩ := hB9
    rw [hth] at hP1
    obtain ⟨hP, hD⟩ := va_join (wr := [(ob, .inl (cJ, 1, .inr (.inl ov)))]) (w1 := [(h0, .inr (3, [.ref lg, .ref fs, .ref ps, .long fa, .long fb, .int mt, .int re])), (lg, .inr (0, [.ref lc, .ref lt, .int (nI k)])), (lc, .inl (cI, 36, .inl cs)), (lt, .inl (cI, 36, .inl ts))]) hP hD [0, 1, 2, 3] [4] rfl rfl (by decide) (by decide) hk1 hFc hP1 hD1
    have hP : va_P D vwCl [(h0, .inr (3, [.ref lg, .ref fs, .ref ps, .long fa, .long fb, .int mt, .int re])), (lg, .inr (0, [.ref lc, .ref lt, .int (nI k)])), (lc, .inl (cI, 36, .inl cs)), (lt, .inl (cI, 36, .inl ts)), (ob, .inl (cJ, 1, .inr (.inl ov)))] H1 := hP.sub (ws' := [(h0, .inr (3, [.ref lg, .ref fs, .ref ps, .long fa, .long fb, .int mt, .int re])), (lg, .inr (0, [.ref lc, .ref lt, .int (nI k)])), (lc, .inl (cI, 36, .inl cs)), (lt, .inl (cI, 36, .inl ts)), (ob, .inl (cJ, 1, .inr (.inl ov)))]) [1, 2, 3, 4, 0] rfl
    have hD : va_D A [(h0, .inr (3, [.ref lg, .ref fs, .ref ps, .long fa, .long fb, .int mt, .int re])), (lg, .inr (0, [.ref lc, .ref lt, .int (nI k)])), (lc, .inl (cI, 36, .inl cs)), (lt, .inl (cI, 36, .inl ts)), (ob, .inl (cJ, 1, .inr (.inl ov)))] := hD.sub (ws' := [(h0, .inr (3, [.ref lg, .ref fs, .ref ps, .long fa, .long fb, .int mt, .int re])), (lg, .inr (0, [.ref lc, .ref lt, .int (nI k)])), (lc, .inl (cI, 36, .inl cs)), (lt, .inl (cI, 36, .inl ts)), (ob, .inl (cJ, 1, .inr (.inl ov)))]) [1, 2, 3, 4, 0] (by decide) rfl
    exact (absurd hok hb9.2)
  · try dsimp only at hw4
    obtain ⟨hP1, hK1, hD1⟩ := hB9
    rw [hth] at hP1
    obtain ⟨hP, hD⟩ := va_join (wr := [(ob, .inl (cJ, 1, .inr (.inl ov)))]) (w1 := [(h0, .inr (3, [.ref lg, .ref fs, .ref ps, .long fa, .long fb, .int mt, .int re])), (lg, .inr (0, [.ref lc, .ref lt, .int (nI k)])), (lc, .inl (cI, 36, .inl cs)), (lt, .inl (cI, 36, .inl ts))]) hP hD [0, 1, 2, 3] [4] rfl rfl (by decide) (by decide) hk1 hFc hP1 hD1
    generalize H1 = H at hP hS ⊢
    have hP : va_P D vwCl [(h0, .inr (3, [.ref lg, .ref fs, .ref ps, .long fa, .long fb, .int mt, .int re])), (lg, .inr (0, [.ref lc, .ref lt, .int (nI k)])), (lc, .inl (cI, 36, .inl cs)), (lt, .inl (cI, 36, .inl ts)), (ob, .inl (cJ, 1, .inr (.inl ov)))] H := hP.sub (ws' := [(h0, .inr (3, [.ref lg, .ref fs, .ref ps, .long fa, .long fb, .int mt, .int re])), (lg, .inr (0, [.ref lc, .ref lt, .int (nI k)])), (lc, .inl (cI, 36, .inl cs)), (lt, .inl (cI, 36, .inl ts)), (ob, .inl (cJ, 1, .inr (.inl ov)))]) [1, 2, 3, 4, 0] rfl
    have hD : va_D A [(h0, .inr (3, [.ref lg, .ref fs, .ref ps, .long fa, .long fb, .int mt, .int re])), (lg, .inr (0, [.ref lc, .ref lt, .int (nI k)])), (lc, .inl (cI, 36, .inl cs)), (lt, .inl (cI, 36, .inl ts)), (ob, .inl (cJ, 1, .inr (.inl ov)))] := hD.sub (ws' := [(h0, .inr (3, [.ref lg, .ref fs, .ref ps, .long fa, .long fb, .int mt, .int re])), (lg, .inr (0, [.ref lc, .ref lt, .int (nI k)])), (lc, .inl (cI, 36, .inl cs)), (lt, .inl (cI, 36, .inl ts)), (ob, .inl (cJ, 1, .inr (.inl ov)))]) [1, 2, 3, 4, 0] (by decide) rfl
    refine lv_i2l (v := (r4 : Int32).toInt64) hx hb dL_textLength_7 rfl ?_
    refine lv_topl (fun x7 ex7 => ?_)
    refine va_last hx hb hK hP hD hS 4 1 rfl rfl (vp_in_nI (n := 0) (N := 1) (by omega) (by decide)) dL_textLength_8 (fun H locs hP hD hS => ?_)
    have hu8 : (0 : Int32).toNatClampNeg = 0 := pk_cl 0
    rw [hu8] at hP hD
    have hP : va_P D vwCl [(h0, .inr (3, [.ref lg, .ref fs, .ref ps, .long fa, .long fb, .int mt, .int re])), (lg, .inr (0, [.ref lc, .ref lt, .int (nI k)])), (lc, .inl (cI, 36, .inl cs)), (lt, .inl (cI, 36, .inl ts)), (ob, .inl (cJ, 1, .inr (.inl (vp_updL ov 0 x7))))] H := hP
    have hD : va_D A [(h0, .inr (3, [.ref lg, .ref fs, .ref ps, .long fa, .long fb, .int mt, .int re])), (lg, .inr (0, [.ref lc, .ref lt, .int (nI k)])), (lc, .inl (cI, 36, .inl cs)), (lt, .inl (cI, 36, .inl ts)), (ob, .inl (cJ, 1, .inr (.inl (vp_updL ov 0 x7))))] := hD
    refine lv_goto (tgt := 15) hx hb dL_textLength_9 (by decide) ?_
    refine lv_iconst (v := 0) hx hb dL_textLength_15 (by decide) ?_
    obtain rfl := ex7.symm
    refine W.widen (k := 1) (n := 6) (Nat.le_of_ble_eq_true rfl) (Nat.le_of_ble_eq_true rfl) ?_
    refine W.iret (v := 0) hx hb hr (fun tt ht hW => ⟨⟨0, r4, rfl, ?_, by rw [ht]; exact hP, va_K.moved hW.alike hK, hD⟩, hS.F ht⟩) hS.2.2 dL_textLength_16
    exact ⟨rfl, hw4⟩

set_option maxHeartbeats 400000 in
set_option maxRecDepth 100000 in
theorem c_L_textLength_bad (l : Launch) (hltr : l.stackTraces = false) (D : va_G) (cI cJ : ClassId) (sz : Nat) (h0 lg lc lt fs ps : Nat) (fa fb : Int64) (mt re : Int32) (cs ts : Nat → Int32) (k : Nat) (hk : k ≤ 36) (ob : Nat) (ov : Nat → Int64) (v : Int32) (hbad : ¬ (imove k v)) : Met l yL_textLength wsL_textLength ({ frames := 8, cells := 1, slots := 6, locals := 132 } : Room) (va_Pc [.ref h0, .int v, .ref ob] (px_N (px_X (va_A [(h0, .inr (3, [.ref lg, .ref fs, .ref ps, .long fa, .long fb, .int mt, .int re])), (lg, .inr (0, [.ref lc, .ref lt, .int (nI k)])), (lc, .inl (cI, 36, .inl cs)), (lt, .inl (cI, 36, .inl ts)), (ob, .inl (cJ, 1, .inr (.inl ov)))] sz) (pv_C D cI cJ [(h0, .inr (3, [.ref lg, .ref fs, .ref ps, .long fa, .long fb, .int mt, .int re])), (lg, .inr (0, [.ref lc, .ref lt, .int (nI k)])), (lc, .inl (cI, 36, .inl cs)), (lt, .inl (cI, 36, .inl ts)), (ob, .inl (cJ, 1, .inr (.inl ov)))] sz)))) (va_Qi (fun (r : Int32) (u : Unit) => r = 1) (fun (u : Unit) => pv_B D cI cJ (va_A [(h0, .inr (3, [.ref lg, .ref fs, .ref ps, .long fa, .long fb, .int mt, .int re])), (lg, .inr (0, [.ref lc, .ref lt, .int (nI k)])), (lc, .inl (cI, 36, .inl cs)), (lt, .inl (cI, 36, .inl ts)), (ob, .inl (cJ, 1, .inr (.inl ov)))] sz) [(h0, .inr (3, [.ref lg, .ref fs, .ref ps, .long fa, .long fb, .int mt, .int re])), (lg, .inr (0, [.ref lc, .ref lt, .int (nI k)])), (lc, .inl (cI, 36, .inl cs)), (lt, .inl (cI, 36, .inl ts)), (ob, .inl (cJ, 1, .inr (.inl ov)))]) (va_A [(h0, .inr (3, [.ref lg, .ref fs, .ref ps, .long fa, .long fb, .int mt, .int re])), (lg, .inr (0, [.ref lc, .ref lt, .int (nI k)])), (lc, .inl (cI, 36, .inl cs)), (lt, .inl (cI, 36, .inl ts)), (ob, .inl (cJ, 1, .inr (.inl ov)))] sz)) 1 6 (va_A [(h0, .inr (3, [.ref lg, .ref fs, .ref ps, .long fa, .long fb, .int mt, .int re])), (lg, .inr (0, [.ref lc, .ref lt, .int (nI k)])), (lc, .inl (cI, 36, .inl cs)), (lt, .inl (cI, 36, .inl ts)), (ob, .inl (cJ, 1, .inr (.inl ov)))] sz) := by
  refine va_MetW (cc := cL_textLength) (maxL := 4) (ret := (some .int)) (hh := [(0, 9, 12, 13)]) (by decide) rfl ?_
  intro p e s m args below meth c s₁ B hml hv
  obtain ⟨rfl, hNC, hEN, hEX, hZ, rfl, hP, hK, hD0⟩ := hv
  have hx := B.exec
  have hb := B.bytes
  have hr := B.returns
  have hts := atoms_spec (ws := wsL_textLength) B.pre
  have hown : s.vm.findClass RL = some m.cls := findClass_of_methodNamed B.named
  have hlocks := B.notSynchronized
  have htb := vx_table (x := yL_textLength) B (hts _ (List.mem_of_getElem? (i := 0) rfl))
  have hD := hD0.self (sz := s.heap.size)
  generalize hAe : va_A [(h0, .inr (3, [.ref lg, .ref fs, .ref ps, .long fa, .long fb, .int mt, .int re])), (lg, .inr (0, [.ref lc, .ref lt, .int (nI k)])), (lc, .inl (cI, 36, .inl cs)), (lt, .inl (cI, 36, .inl ts)), (ob, .inl (cJ, 1, .inr (.inl ov)))] s.heap.size = A at hD hZ ⊢
  have hA : ∀ q : Nat, s.heap.size ≤ q → A q := fun q h => by rw [← hAe]; exact Or.inr h
  have hS : va_S A s.heap s.heap [] := va_S.rf
  have hl := lv_entry ([.ref h0, .int v, .ref ob]) (n := 4) (Nat.le_of_ble_eq_true rfl)
  rw [lg_entry_eq]
  generalize (lg_sl ([.ref h0, .int v, .ref ob]) ++ List.replicate (4 - (lg_sl ([.ref h0, .int v, .ref ob])).length) Slot.unset).toArray = ls at hl ⊢
  have hl : lv_has ls 4 [(0, .ref h0), (1, .int v), (2, .ref ob)] := hl
  refine lv_aload_n hx hb dL_textLength_0 rfl (lv_at hl 2 rfl) ?_
  refine lv_iconst (v := 0) hx hb dL_textLength_1 (by decide) ?_
  refine lv_aload_n hx hb dL_textLength_2 rfl (lv_at hl 0 rfl) ?_
  refine lv_iload_n hx hb dL_textLength_3 rfl (lv_at hl 1 rfl) ?_
  have hPc : va_P D vwCl [(h0, .inr (3, [.ref lg, .ref fs, .ref ps, .long fa, .long fb, .int mt, .int re])), (lg, .inr (0, [.ref lc, .ref lt, .int (nI k)])), (lc, .inl (cI, 36, .inl cs)), (lt, .inl (cI, 36, .inl ts))] s.heap := hP.sub (ws' := [(h0, .inr (3, [.ref lg, .ref fs, .ref ps, .long fa, .long fb, .int mt, .int re])), (lg, .inr (0, [.ref lc, .ref lt, .int (nI k)])), (lc, .inl (cI, 36, .inl cs)), (lt, .inl (cI, 36, .inl ts))]) [0, 1, 2, 3] rfl
  have hDc : va_D A [(h0, .inr (3, [.ref lg, .ref fs, .ref ps, .long fa, .long fb, .int mt, .int re])), (lg, .inr (0, [.ref lc, .ref lt, .int (nI k)])), (lc, .inl (cI, 36, .inl cs)), (lt, .inl (cI, 36, .inl ts))] := hD.sub (ws' := [(h0, .inr (3, [.ref lg, .ref fs, .ref ps, .long fa, .long fb, .int mt, .int re])), (lg, .inr (0, [.ref lc, .ref lt, .int (nI k)])), (lc, .inl (cI, 36, .inl cs)), (lt, .inl (cI, 36, .inl ts))]) [0, 1, 2, 3] (by decide) rfl
  have hFc := va_free (wc := [(h0, .inr (3, [.ref lg, .ref fs, .ref ps, .long fa, .long fb, .int mt, .int re])), (lg, .inr (0, [.ref lc, .ref lt, .int (nI k)])), (lc, .inl (cI, 36, .inl cs)), (lt, .inl (cI, 36, .inl ts))]) hD hS hA [0, 1, 2, 3] rfl
  refine vx_calli (vx_runV (As := [.int v]) (rest := [.int 0, .ref ob]) ⟨hx, hb, hml, hown, hts⟩ (c_X6_textLength l hltr D cI cJ s.heap.size  h0 lg lc lt fs ps fa fb mt re cs ts k (by omega) v) (cwV 1 hts gL_textLength_X6_textLength rfl rfl rfl (by decide +kernel) ⟨Nat.le_of_ble_eq_true rfl, Nat.le_of_ble_eq_true rfl⟩) ⟨(px_blindX pv_blind), va_recv hK hPc (ci := 3) (q0 := 0) rfl rfl, fun U hU hW => ⟨rfl, hEX.warm hW, by rw [hU]; exact hZ.to hS hW.alike hFc, by rw [hU], by rw [hU]; exact hPc, va_K.moved hW.alike hK, hDc.weaken (fun _ _ _ _ => trivial)⟩⟩ rfl rfl hl.1 rfl (lv_room (Nat.le_of_ble_eq_true rfl)) dL_textLength_4 ⟨(Nat.le_of_ble_eq_true rfl), (Nat.le_of_ble_eq_true rfl)⟩) hS (fun q _ h => hFc q h) hFc (fun q _ h => hFc q h) (fun E ce q9 u9 t9 H1 locs hth hvm hpx hB9 hz1 hk1 hS hce hcv hcl => ?_) (fun r4 u t9 H1 locs hth hvm hw4 hB9 hz1 hk1 hS => ?_)
  · obtain ⟨hb9, hP1, hK1, hD1⟩ := hB9
    rw [hth] at hP1
    obtain ⟨hP, hD⟩ := va_join (wr := [(ob, .inl (cJ, 1, .inr (.inl ov)))]) (w1 := [(h0, .inr (3, [.ref lg, .ref fs, .ref ps, .long fa, .long fb, .int mt, .int re])), (lg, .inr (0, [.ref lc, .ref lt, .int (nI k)])), (lc, .inl (cI, 36, .inl cs)), (lt, .inl (cI, 36, .inl ts))]) hP hD [0, 1, 2, 3] [4] rfl rfl (by decide) (by decide) hk1 hFc hP1 hD1
    have hP : va_P D vwCl [(h0, .inr (3, [.ref lg, .ref fs, .ref ps, .long fa, .long fb, .int mt, .int re])), (lg, .inr (0, [.ref lc, .ref lt, .int (nI k)])), (lc, .inl (cI, 36, .inl cs)), (lt, .inl (cI, 36, .inl ts)), (ob, .inl (cJ, 1, .inr (.inl ov)))] H1 := hP.sub (ws' := [(h0, .inr (3, [.ref lg, .ref fs, .ref ps, .long fa, .long fb, .int mt, .int re])), (lg, .inr (0, [.ref lc, .ref lt, .int (nI k)])), (lc, .inl (cI, 36, .inl cs)), (lt, .inl (cI, 36, .inl ts)), (ob, .inl (cJ, 1, .inr (.inl ov)))]) [1, 2, 3, 4, 0] rfl
    have hD : va_D A [(h0, .inr (3, [.ref lg, .ref fs, .ref ps, .long fa, .long fb, .int mt, .int re])), (lg, .inr (0, [.ref lc, .ref lt, .int (nI k)])), (lc, .inl (cI, 36, .inl cs)), (lt, .inl (cI, 36, .inl ts)), (ob, .inl (cJ, 1, .inr (.inl ov)))] := hD.sub (ws' := [(h0, .inr (3, [.ref lg, .ref fs, .ref ps, .long fa, .long fb, .int mt, .int re])), (lg, .inr (0, [.ref lc, .ref lt, .int (nI k)])), (lc, .inl (cI, 36, .inl cs)), (lt, .inl (cI, 36, .inl ts)), (ob, .inl (cJ, 1, .inr (.inl ov)))]) [1, 2, 3, 4, 0] (by decide) rfl
    obtain rfl : E = nIOB := hb9.1
    refine vx_catch (own := RL) (name := nIOB) hown [] ⟨0, 9, 12, 13⟩ [] (htb.trans rfl) (fun z hz => nomatch hz) (by decide) (by decide) (hts (.classLink RL 13 nIOB) (by decide +kernel)) (va_Nw.use rfl hEX.2.1) hce hcv hcl ?_
    refine lv_astore_n (lv' := [(3, .ref q9), (0, .ref h0), (1, .int v), (2, .ref ob)]) hx hb dL_textLength_12 rfl hl (by decide) rfl (fun ls hl => ?_)
    refine lv_iconst (v := 1) hx hb dL_textLength_13 (by decide) ?_
    refine W.widen (k := 1) (n := 6) (Nat.le_of_ble_eq_true rfl) (Nat.le_of_ble_eq_true rfl) ?_
    refine W.iret (v := 1) hx hb hr (fun tt ht hW => ⟨⟨1, (), rfl, ?_, by rw [ht]; exact hP, va_K.moved hW.alike hK, hD⟩, hS.F ht⟩) hS.2.2 dL_textLength_14
    exact rfl
  · try dsimp only at hw4
    obtain ⟨j, h1, h2, _⟩ := hw4; exact absurd (show imove k v from by rw [h2]; exact mv_in h1 hk) hbad

set_option maxHeartbeats 400000 in
set_option maxRecDepth 100000 in
theorem c_L_textAt_ok0 (l : Launch) (hltr : l.stackTraces = false) (D : va_G) (cI cJ : ClassId) (sz : Nat) (h0 lg lc lt fs ps : Nat) (fa fb : Int64) (mt re : Int32) (cs ts : Nat → Int32) (k : Nat) (hk : k ≤ 36) (ob : Nat) (ov : Nat → Int64) (v : Int32) (hok : imove k v) : Met l yL_textAt wsL_textAt ({ frames := 8, cells := 2, slots := 12, locals := 133 } : Room) (va_Pc [.ref h0, .int v, .int 0, .ref ob] (px_N (px_X (va_A [(h0, .inr (3, [.ref lg, .ref fs, .ref ps, .long fa, .long fb, .int mt, .int re])), (lg, .inr (0, [.ref lc, .ref lt, .int (nI k)])), (lc, .inl (cI, 36, .inl cs)), (lt, .inl (cI, 36, .inl ts)), (ob, .inl (cJ, 1, .inr (.inl ov)))] sz) (pv_C D cI cJ [(h0, .inr (3, [.ref lg, .ref fs, .ref ps, .long fa, .long fb, .int mt, .int re])), (lg, .inr (0, [.ref lc, .ref lt, .int (nI k)])), (lc, .inl (cI, 36, .inl cs)), (lt, .inl (cI, 36, .inl ts)), (ob, .inl (cJ, 1, .inr (.inl ov)))] sz)))) (va_Qi (fun (r : Int32) (u : (Int32)) => r = 0 ∧ (∃ j, j < k ∧ v = nI j ∧ u = ji2c (97 + (cs j - cs j / 6 * 6)))) (fun (u : (Int32)) => pv_B D cI cJ (va_A [(h0, .inr (3, [.ref lg, .ref fs, .ref ps, .long fa, .long fb, .int mt, .int re])), (lg, .inr (0, [.ref lc, .ref lt, .int (nI k)])), (lc, .inl (cI, 36, .inl cs)), (lt, .inl (cI, 36, .inl ts)), (ob, .inl (cJ, 1, .inr (.inl ov)))] sz) [(h0, .inr (3, [.ref lg, .ref fs, .ref ps, .long fa, .long fb, .int mt, .int re])), (lg, .inr (0, [.ref lc, .ref lt, .int (nI k)])), (lc, .inl (cI, 36, .inl cs)), (lt, .inl (cI, 36, .inl ts)), (ob, .inl (cJ, 1, .inr (.inl (vp_updL ov 0 (u).toInt64))))]) (va_A [(h0, .inr (3, [.ref lg, .ref fs, .ref ps, .long fa, .long fb, .int mt, .int re])), (lg, .inr (0, [.ref lc, .ref lt, .int (nI k)])), (lc, .inl (cI, 36, .inl cs)), (lt, .inl (cI, 36, .inl ts)), (ob, .inl (cJ, 1, .inr (.inl ov)))] sz)) 2 12 (va_A [(h0, .inr (3, [.ref lg, .ref fs, .ref ps, .long fa, .long fb, .int mt, .int re])), (lg, .inr (0, [.ref lc, .ref lt, .int (nI k)])), (lc, .inl (cI, 36, .inl cs)), (lt, .inl (cI, 36, .inl ts)), (ob, .inl (cJ, 1, .inr (.inl ov)))] sz) := by
  refine va_MetW (cc := cL_textAt) (maxL := 5) (ret := (some .int)) (hh := [(0, 10, 13, 13)]) (by decide) rfl ?_
  intro p e s m args below meth c s₁ B hml hv
  obtain ⟨rfl, hNC, hEN, hEX, hZ, rfl, hP, hK, hD0⟩ := hv
  have hx := B.exec
  have hb := B.bytes
  have hr := B.returns
  have hts := atoms_spec (ws := wsL_textAt) B.pre
  have hown : s.vm.findClass RL = some m.cls := findClass_of_methodNamed B.named
  have hlocks := B.notSynchronized
  have htb := vx_table (x := yL_textAt) B (hts _ (List.mem_of_getElem? (i := 0) rfl))
  have hD := hD0.self (sz := s.heap.size)
  generalize hAe : va_A [(h0, .inr (3, [.ref lg, .ref fs, .ref ps, .long fa, .long fb, .int mt, .int re])), (lg, .inr (0, [.ref lc, .ref lt, .int (nI k)])), (lc, .inl (cI, 36, .inl cs)), (lt, .inl (cI, 36, .inl ts)), (ob, .inl (cJ, 1, .inr (.inl ov)))] s.heap.size = A at hD hZ ⊢
  have hA : ∀ q : Nat, s.heap.size ≤ q → A q := fun q h => by rw [← hAe]; exact Or.inr h
  have hS : va_S A s.heap s.heap [] := va_S.rf
  have hl := lv_entry ([.ref h0, .int v, .int 0, .ref ob]) (n := 5) (Nat.le_of_ble_eq_true rfl)
  rw [lg_entry_eq]
  generalize (lg_sl ([.ref h0, .int v, .int 0, .ref ob]) ++ List.replicate (5 - (lg_sl ([.ref h0, .int v, .int 0, .ref ob])).length) Slot.unset).toArray = ls at hl ⊢
  have hl : lv_has ls 5 [(0, .ref h0), (1, .int v), (2, .int 0), (3, .ref ob)] := hl
  refine lv_aload_n hx hb dL_textAt_0 rfl (lv_at hl 3 rfl) ?_
  refine lv_iconst (v := 0) hx hb dL_textAt_1 (by decide) ?_
  refine lv_aload_n hx hb dL_textAt_2 rfl (lv_at hl 0 rfl) ?_
  refine lv_iload_n hx hb dL_textAt_3 rfl (lv_at hl 1 rfl) ?_
  refine lv_iload_n hx hb dL_textAt_4 rfl (lv_at hl 2 rfl) ?_
  have hPc : va_P D vwCl [(h0, .inr (3, [.ref lg, .ref fs, .ref ps, .long fa, .long fb, .int mt, .int re])), (lg, .inr (0, [.ref lc, .ref lt, .int (nI k)])), (lc, .inl (cI, 36, .inl cs)), (lt, .inl (cI, 36, .inl ts))] s.heap := hP.sub (ws' := [(h0, .inr (3, [.ref lg, .ref fs, .ref ps, .long fa, .long fb, .int mt, .int re])), (lg, .inr (0, [.ref lc, .ref lt, .int (nI k)])), (lc, .inl (cI, 36, .inl cs)), (lt, .inl (cI, 36, .inl ts))]) [0, 1, 2, 3] rfl
  have hDc : va_D A [(h0, .inr (3, [.ref lg, .ref fs, .ref ps, .long fa, .long fb, .int mt, .int re])), (lg, .inr (0, [.ref lc, .ref lt, .int (nI k)])), (lc, .inl (cI, 36, .inl cs)), (lt, .inl (cI, 36, .inl ts))] := hD.sub (ws' := [(h0, .inr (3, [.ref lg, .ref fs, .ref ps, .long fa, .long fb, .int mt, .int re])), (lg, .inr (0, [.ref lc, .ref lt, .int (nI k)])), (lc, .inl (cI, 36, .inl cs)), (lt, .inl (cI, 36, .inl ts))]) [0, 1, 2, 3] (by decide) rfl
  have hFc := va_free (wc := [(h0, .inr (3, [.ref lg, .ref fs, .ref ps, .long fa, .long fb, .int mt, .int re])), (lg, .inr (0, [.ref lc, .ref lt, .int (nI k)])), (lc, .inl (cI, 36, .inl cs)), (lt, .inl (cI, 36, .inl ts))]) hD hS hA [0, 1, 2, 3] rfl
  refine vx_calli (vx_runV (As := [.int v, .int 0]) (rest := [.int 0, .ref ob]) ⟨hx, hb, hml, hown, hts⟩ (c_X6_textAt_0 l hltr D cI cJ s.heap.size  h0 lg lc lt fs ps fa fb mt re cs ts k (by omega) v) (cwV 2 hts gL_textAt_X6_textAt rfl rfl rfl (by decide +kernel) ⟨Nat.le_of_ble_eq_true rfl, Nat.le_of_ble_eq_true rfl⟩) ⟨(px_blindX pv_blind), va_recv hK hPc (ci := 3) (q0 := 0) rfl rfl, fun U hU hW => ⟨rfl, hEX.warm hW, by rw [hU]; exact hZ.to hS hW.alike hFc, by rw [hU], by rw [hU]; exact hPc, va_K.moved hW.alike hK, hDc.weaken (fun _ _ _ _ => trivial)⟩⟩ rfl rfl hl.1 rfl (lv_room (Nat.le_of_ble_eq_true rfl)) dL_textAt_5 ⟨(Nat.le_of_ble_eq_true rfl), (Nat.le_of_ble_eq_true rfl)⟩) hS (fun q _ h => hFc q h) hFc (fun q _ h => hFc q h) (fun E ce q9 u9 t9 H1 locs hth hvm hpx hB9 hz1 hk1 hS hce hcv hcl => ?_) (fun r5 u t9 H1 locs hth hvm hw5 hB9 hz1 hk1 hS => ?_)
  · obtain ⟨hb9, hP1, hK1, hD1⟩ := hB9
    rw [hth] at hP1
    obtain ⟨hP, hD⟩ := va_join (wr := [(ob, .inl (cJ, 1, .inr (.inl ov)))]) (w1 := [(h0, .inr (3, [.ref lg, .ref fs, .ref ps, .long fa, .long fb, .int mt, .int re])), (lg, .inr (0, [.ref lc, .ref lt, .int (nI k)])), (lc, .inl (cI, 36, .inl cs)), (lt, .inl (cI, 36, .inl ts))]) hP hD [0, 1, 2, 3] [4] rfl rfl (by decide) (by decide) hk1 hFc hP1 hD1
    have hP : va_P D vwCl [(h0, .inr (3, [.ref lg, .ref fs, .ref ps, .long fa, .long fb, .int mt, .int re])), (lg, .inr (0, [.ref lc, .ref lt, .int (nI k)])), (lc, .inl (cI, 36, .inl cs)), (lt, .inl (cI, 36, .inl ts)), (ob, .inl (cJ, 1, .inr (.inl ov)))] H1 := hP.sub (ws' := [(h0, .inr (3, [.ref lg, .ref fs, .ref ps, .long fa, .long fb, .int mt, .int re])), (lg, .inr (0, [.ref lc, .ref lt, .int (nI k)])), (lc, .inl (cI, 36, .inl cs)), (lt, .inl (cI, 36, .inl ts)), (ob, .inl (cJ, 1, .inr (.inl ov)))]) [1, 2, 3, 4, 0] rfl
    have hD : va_D A [(h0, .inr (3, [.ref lg, .ref fs, .ref ps, .long fa, .long fb, .int mt, .int re])), (lg, .inr (0, [.ref lc, .ref lt, .int (nI k)])), (lc, .inl (cI, 36, .inl cs)), (lt, .inl (cI, 36, .inl ts)), (ob, .inl (cJ, 1, .inr (.inl ov)))] := hD.sub (ws' := [(h0, .inr (3, [.ref lg, .ref fs, .ref ps, .long fa, .long fb, .int mt, .int re])), (lg, .inr (0, [.ref lc, .ref lt, .int (nI k)])), (lc, .inl (cI, 36, .inl cs)), (lt, .inl (cI, 36, .inl ts)), (ob, .inl (cJ, 1, .inr (.inl ov)))]) [1, 2, 3, 4, 0] (by decide) rfl
    exact (absurd hok hb9.2)
  · try dsimp only at hw5
    obtain ⟨hP1, hK1, hD1⟩ := hB9
    rw [hth] at hP1
    obtain ⟨hP, hD⟩ := va_join (wr := [(ob, .inl (cJ, 1, .inr (.inl ov)))]) (w1 := [(h0, .inr (3, [.ref lg, .ref fs, .ref ps, .long fa, .long fb, .int mt, .int re])), (lg, .inr (0, [.ref lc, .ref lt, .int (nI k)])), (lc, .inl (cI, 36, .inl cs)), (lt, .inl (cI, 36, .inl ts))]) hP hD [0, 1, 2, 3] [4] rfl rfl (by decide) (by decide) hk1 hFc hP1 hD1
    generalize H1 = H at hP hS ⊢
    have hP : va_P D vwCl [(h0, .inr (3, [.ref lg, .ref fs, .ref ps, .long fa, .long fb, .int mt, .int re])), (lg, .inr (0, [.ref lc, .ref lt, .int (nI k)])), (lc, .inl (cI, 36, .inl cs)), (lt, .inl (cI, 36, .inl ts)), (ob, .inl (cJ, 1, .inr (.inl ov)))] H := hP.sub (ws' := [(h0, .inr (3, [.ref lg, .ref fs, .ref ps, .long fa, .long fb, .int mt, .int re])), (lg, .inr (0, [.ref lc, .ref lt, .int (nI k)])), (lc, .inl (cI, 36, .inl cs)), (lt, .inl (cI, 36, .inl ts)), (ob, .inl (cJ, 1, .inr (.inl ov)))]) [1, 2, 3, 4, 0] rfl
    have hD : va_D A [(h0, .inr (3, [.ref lg, .ref fs, .ref ps, .long fa, .long fb, .int mt, .int re])), (lg, .inr (0, [.ref lc, .ref lt, .int (nI k)])), (lc, .inl (cI, 36, .inl cs)), (lt, .inl (cI, 36, .inl ts)), (ob, .inl (cJ, 1, .inr (.inl ov)))] := hD.sub (ws' := [(h0, .inr (3, [.ref lg, .ref fs, .ref ps, .long fa, .long fb, .int mt, .int re])), (lg, .inr (0, [.ref lc, .ref lt, .int (nI k)])), (lc, .inl (cI, 36, .inl cs)), (lt, .inl (cI, 36, .inl ts)), (ob, .inl (cJ, 1, .inr (.inl ov)))]) [1, 2, 3, 4, 0] (by decide) rfl
    refine lv_i2l (v := (r5 : Int32).toInt64) hx hb dL_textAt_8 rfl ?_
    refine lv_topl (fun x8 ex8 => ?_)
    refine va_last hx hb hK hP hD hS 4 1 rfl rfl (vp_in_nI (n := 0) (N := 1) (by omega) (by decide)) dL_textAt_9 (fun H locs hP hD hS => ?_)
    have hu9 : (0 : Int32).toNatClampNeg = 0 := pk_cl 0
    rw [hu9] at hP hD
    have hP : va_P D vwCl [(h0, .inr (3, [.ref lg, .ref fs, .ref ps, .long fa, .long fb, .int mt, .int re])), (lg, .inr (0, [.ref lc, .ref lt, .int (nI k)])), (lc, .inl (cI, 36, .inl cs)), (lt, .inl (cI, 36, .inl ts)), (ob, .inl (cJ, 1, .inr (.inl (vp_updL ov 0 x8))))] H := hP
    have hD : va_D A [(h0, .inr (3, [.ref lg, .ref fs, .ref ps, .long fa, .long fb, .int mt, .int re])), (lg, .inr (0, [.ref lc, .ref lt, .int (nI k)])), (lc, .inl (cI, 36, .inl cs)), (lt, .inl (cI, 36, .inl ts)), (ob, .inl (cJ, 1, .inr (.inl (vp_updL ov 0 x8))))] := hD
    refine lv_goto (tgt := 17) hx hb dL_textAt_10 (by decide) ?_
    refine lv_iconst (v := 0) hx hb dL_textAt_17 (by decide) ?_
    obtain rfl := ex8.symm
    refine W.widen (k := 2) (n := 12) (Nat.le_of_ble_eq_true rfl) (Nat.le_of_ble_eq_true rfl) ?_
    refine W.iret (v := 0) hx hb hr (fun tt ht hW => ⟨⟨0, r5, rfl, ?_, by rw [ht]; exact hP, va_K.moved hW.alike hK, hD⟩, hS.F ht⟩) hS.2.2 dL_textAt_18
    exact ⟨rfl, hw5⟩

set_option maxHeartbeats 400000 in
set_option maxRecDepth 100000 in
theorem c_L_textAt_no0 (l : Launch) (hltr : l.stackTraces = false) (D : va_G) (cI cJ : ClassId) (sz : Nat) (h0 lg lc lt fs ps : Nat) (fa fb : Int64) (mt re : Int32) (cs ts : Nat → Int32) (k : Nat) (hk : k ≤ 36) (ob : Nat) (ov : Nat → Int64) (v : Int32) (hbad : ¬ imove k v) : Met l yL_textAt wsL_textAt ({ frames := 8, cells := 2, slots := 12, locals := 133 } : Room) (va_Pc [.ref h0, .int v, .int 0, .ref ob] (px_N (px_X (va_A [(h0, .inr (3, [.ref lg, .ref fs, .ref ps, .long fa, .long fb, .int mt, .int re])), (lg, .inr (0, [.ref lc, .ref lt, .int (nI k)])), (lc, .inl (cI, 36, .inl cs)), (lt, .inl (cI, 36, .inl ts)), (ob, .inl (cJ, 1, .inr (.inl ov)))] sz) (pv_C D cI cJ [(h0, .inr (3, [.ref lg, .ref fs, .ref ps, .long fa, .long fb, .int mt, .int re])), (lg, .inr (0, [.ref lc, .ref lt, .int (nI k)])), (lc, .inl (cI, 36, .inl cs)), (lt, .inl (cI, 36, .inl ts)), (ob, .inl (cJ, 1, .inr (.inl ov)))] sz)))) (va_Qi (fun (r : Int32) (u : Unit) => r = 1) (fun (u : Unit) => pv_B D cI cJ (va_A [(h0, .inr (3, [.ref lg, .ref fs, .ref ps, .long fa, .long fb, .int mt, .int re])), (lg, .inr (0, [.ref lc, .ref lt, .int (nI k)])), (lc, .inl (cI, 36, .inl cs)), (lt, .inl (cI, 36, .inl ts)), (ob, .inl (cJ, 1, .inr (.inl ov)))] sz) [(h0, .inr (3, [.ref lg, .ref fs, .ref ps, .long fa, .long fb, .int mt, .int re])), (lg, .inr (0, [.ref lc, .ref lt, .int (nI k)])), (lc, .inl (cI, 36, .inl cs)), (lt, .inl (cI, 36, .inl ts)), (ob, .inl (cJ, 1, .inr (.inl ov)))]) (va_A [(h0, .inr (3, [.ref lg, .ref fs, .ref ps, .long fa, .long fb, .int mt, .int re])), (lg, .inr (0, [.ref lc, .ref lt, .int (nI k)])), (lc, .inl (cI, 36, .inl cs)), (lt, .inl (cI, 36, .inl ts)), (ob, .inl (cJ, 1, .inr (.inl ov)))] sz)) 2 12 (va_A [(h0, .inr (3, [.ref lg, .ref fs, .ref ps, .long fa, .long fb, .int mt, .int re])), (lg, .inr (0, [.ref lc, .ref lt, .int (nI k)])), (lc, .inl (cI, 36, .inl cs)), (lt, .inl (cI, 36, .inl ts)), (ob, .inl (cJ, 1, .inr (.inl ov)))] sz) := by
  refine va_MetW (cc := cL_textAt) (maxL := 5) (ret := (some .int)) (hh := [(0, 10, 13, 13)]) (by decide) rfl ?_
  intro p e s m args below meth c s₁ B hml hv
  obtain ⟨rfl, hNC, hEN, hEX, hZ, rfl, hP, hK, hD0⟩ := hv
  have hx := B.exec
  have hb := B.bytes
  have hr := B.returns
  have hts := atoms_spec (ws := wsL_textAt) B.pre
  have hown : s.vm.findClass RL = some m.cls := findClass_of_methodNamed B.named
  have hlocks := B.notSynchronized
  have htb := vx_table (x := yL_textAt) B (hts _ (List.mem_of_getElem? (i := 0) rfl))
  have hD := hD0.self (sz := s.heap.size)
  generalize hAe : va_A [(h0, .inr (3, [.ref lg, .ref fs, .ref ps, .long fa, .long fb, .int mt, .int re])), (lg, .inr (0, [.ref lc, .ref lt, .int (nI k)])), (lc, .inl (cI, 36, .inl cs)), (lt, .inl (cI, 36, .inl ts)), (ob, .inl (cJ, 1, .inr (.inl ov)))] s.heap.size = A at hD hZ ⊢
  have hA : ∀ q : Nat, s.heap.size ≤ q → A q := fun q h => by rw [← hAe]; exact Or.inr h
  have hS : va_S A s.heap s.heap [] := va_S.rf
  have hl := lv_entry ([.ref h0, .int v, .int 0, .ref ob]) (n := 5) (Nat.le_of_ble_eq_true rfl)
  rw [lg_entry_eq]
  generalize (lg_sl ([.ref h0, .int v, .int 0, .ref ob]) ++ List.replicate (5 - (lg_sl ([.ref h0, .int v, .int 0, .ref ob])).length) Slot.unset).toArray = ls at hl ⊢
  have hl : lv_has ls 5 [(0, .ref h0), (1, .int v), (2, .int 0), (3, .ref ob)] := hl
  refine lv_aload_n hx hb dL_textAt_0 rfl (lv_at hl 3 rfl) ?_
  refine lv_iconst (v := 0) hx hb dL_textAt_1 (by decide) ?_
  refine lv_aload_n hx hb dL_textAt_2 rfl (lv_at hl 0 rfl) ?_
  refine lv_iload_n hx hb dL_textAt_3 rfl (lv_at hl 1 rfl) ?_
  refine lv_iload_n hx hb dL_textAt_4 rfl (lv_at hl 2 rfl) ?_
  have hPc : va_P D vwCl [(h0, .inr (3, [.ref lg, .ref fs, .ref ps, .long fa, .long fb, .int mt, .int re])), (lg, .inr (0, [.ref lc, .ref lt, .int (nI k)])), (lc, .inl (cI, 36, .inl cs)), (lt, .inl (cI, 36, .inl ts))] s.heap := hP.sub (ws' := [(h0, .inr (3, [.ref lg, .ref fs, .ref ps, .long fa, .long fb, .int mt, .int re])), (lg, .inr (0, [.ref lc, .ref lt, .int (nI k)])), (lc, .inl (cI, 36, .inl cs)), (lt, .inl (cI, 36, .inl ts))]) [0, 1, 2, 3] rfl
  have hDc : va_D A [(h0, .inr (3, [.ref lg, .ref fs, .ref ps, .long fa, .long fb, .int mt, .int re])), (lg, .inr (0, [.ref lc, .ref lt, .int (nI k)])), (lc, .inl (cI, 36, .inl cs)), (lt, .inl (cI, 36, .inl ts))] := hD.sub (ws' := [(h0, .inr (3, [.ref lg, .ref fs, .ref ps, .long fa, .long fb, .int mt, .int re])), (lg, .inr (0, [.ref lc, .ref lt, .int (nI k)])), (lc, .inl (cI, 36, .inl cs)), (lt, .inl (cI, 36, .inl ts))]) [0, 1, 2, 3] (by decide) rfl
  have hFc := va_free (wc := [(h0, .inr (3, [.ref lg, .ref fs, .ref ps, .long fa, .long fb, .int mt, .int re])), (lg, .inr (0, [.ref lc, .ref lt, .int (nI k)])), (lc, .inl (cI, 36, .inl cs)), (lt, .inl (cI, 36, .inl ts))]) hD hS hA [0, 1, 2, 3] rfl
  refine vx_calli (vx_runV (As := [.int v, .int 0]) (rest := [.int 0, .ref ob]) ⟨hx, hb, hml, hown, hts⟩ (c_X6_textAt_0 l hltr D cI cJ s.heap.size  h0 lg lc lt fs ps fa fb mt re cs ts k (by omega) v) (cwV 2 hts gL_textAt_X6_textAt rfl rfl rfl (by decide +kernel) ⟨Nat.le_of_ble_eq_true rfl, Nat.le_of_ble_eq_true rfl⟩) ⟨(px_blindX pv_blind), va_recv hK hPc (ci := 3) (q0 := 0) rfl rfl, fun U hU hW => ⟨rfl, hEX.warm hW, by rw [hU]; exact hZ.to hS hW.alike hFc, by rw [hU], by rw [hU]; exact hPc, va_K.moved hW.alike hK, hDc.weaken (fun _ _ _ _ => trivial)⟩⟩ rfl rfl hl.1 rfl (lv_room (Nat.le_of_ble_eq_true rfl)) dL_textAt_5 ⟨(Nat.le_of_ble_eq_true rfl), (Nat.le_of_ble_eq_true rfl)⟩) hS (fun q _ h => hFc q h) hFc (fun q _ h => hFc q h) (fun E ce q9 u9 t9 H1 locs hth hvm hpx hB9 hz1 hk1 hS hce hcv hcl => ?_) (fun r5 u t9 H1 locs hth hvm hw5 hB9 hz1 hk1 hS => ?_)
  · obtain ⟨hb9, hP1, hK1, hD1⟩ := hB9
    rw [hth] at hP1
    obtain ⟨hP, hD⟩ := va_join (wr := [(ob, .inl (cJ, 1, .inr (.inl ov)))]) (w1 := [(h0, .inr (3, [.ref lg, .ref fs, .ref ps, .long fa, .long fb, .int mt, .int re])), (lg, .inr (0, [.ref lc, .ref lt, .int (nI k)])), (lc, .inl (cI, 36, .inl cs)), (lt, .inl (cI, 36, .inl ts))]) hP hD [0, 1, 2, 3] [4] rfl rfl (by decide) (by decide) hk1 hFc hP1 hD1
    have hP : va_P D vwCl [(h0, .inr (3, [.ref lg, .ref fs, .ref ps, .long fa, .long fb, .int mt, .int re])), (lg, .inr (0, [.ref lc, .ref lt, .int (nI k)])), (lc, .inl (cI, 36, .inl cs)), (lt, .inl (cI, 36, .inl ts)), (ob, .inl (cJ, 1, .inr (.inl ov)))] H1 := hP.sub (ws' := [(h0, .inr (3, [.ref lg, .ref fs, .ref ps, .long fa, .long fb, .int mt, .int re])), (lg, .inr (0, [.ref lc, .ref lt, .int (nI k)])), (lc, .inl (cI, 36, .inl cs)), (lt, .inl (cI, 36, .inl ts)), (ob, .inl (cJ, 1, .inr (.inl ov)))]) [1, 2, 3, 4, 0] rfl
    have hD : va_D A [(h0, .inr (3, [.ref lg, .ref fs, .ref ps, .long fa, .long fb, .int mt, .int re])), (lg, .inr (0, [.ref lc, .ref lt, .int (nI k)])), (lc, .inl (cI, 36, .inl cs)), (lt, .inl (cI, 36, .inl ts)), (ob, .inl (cJ, 1, .inr (.inl ov)))] := hD.sub (ws' := [(h0, .inr (3, [.ref lg, .ref fs, .ref ps, .long fa, .long fb, .int mt, .int re])), (lg, .inr (0, [.ref lc, .ref lt, .int (nI k)])), (lc, .inl (cI, 36, .inl cs)), (lt, .inl (cI, 36, .inl ts)), (ob, .inl (cJ, 1, .inr (.inl ov)))]) [1, 2, 3, 4, 0] (by decide) rfl
    obtain rfl : E = nIOB := hb9.1
    refine vx_catch (own := RL) (name := nIOB) hown [] ⟨0, 10, 13, 13⟩ [] (htb.trans rfl) (fun z hz => nomatch hz) (by decide) (by decide) (hts (.classLink RL 13 nIOB) (by decide +kernel)) (va_Nw.use rfl hEX.2.1) hce hcv hcl ?_
    refine lv_astore (lv' := [(4, .ref q9), (0, .ref h0), (1, .int v), (2, .int 0), (3, .ref ob)]) hx hb dL_textAt_13 hl (by decide) rfl (fun ls hl => ?_)
    refine lv_iconst (v := 1) hx hb dL_textAt_15 (by decide) ?_
    refine W.widen (k := 2) (n := 12) (Nat.le_of_ble_eq_true rfl) (Nat.le_of_ble_eq_true rfl) ?_
    refine W.iret (v := 1) hx hb hr (fun tt ht hW => ⟨⟨1, (), rfl, ?_, by rw [ht]; exact hP, va_K.moved hW.alike hK, hD⟩, hS.F ht⟩) hS.2.2 dL_textAt_16
    exact rfl
  · try dsimp only at hw5
    obtain ⟨j, h1, h2, _⟩ := hw5; exact absurd (show imove k v from by rw [h2]; exact mv_in h1 hk) hbad

set_option maxHeartbeats 400000 in
set_option maxRecDepth 100000 in
theorem c_L_textAt_ok1 (l : Launch) (hltr : l.stackTraces = false) (D : va_G) (cI cJ : ClassId) (sz : Nat) (h0 lg lc lt fs ps : Nat) (fa fb : Int64) (mt re : Int32) (cs ts : Nat → Int32) (k : Nat) (hk : k ≤ 36) (ob : Nat) (ov : Nat → Int64) (v : Int32) (hok : imove k v) : Met l yL_textAt wsL_textAt ({ frames := 8, cells := 2, slots := 12, locals := 133 } : Room) (va_Pc [.ref h0, .int v, .int 1, .ref ob] (px_N (px_X (va_A [(h0, .inr (3, [.ref lg, .ref fs, .ref ps, .long fa, .long fb, .int mt, .int re])), (lg, .inr (0, [.ref lc, .ref lt, .int (nI k)])), (lc, .inl (cI, 36, .inl cs)), (lt, .inl (cI, 36, .inl ts)), (ob, .inl (cJ, 1, .inr (.inl ov)))] sz) (pv_C D cI cJ [(h0, .inr (3, [.ref lg, .ref fs, .ref ps, .long fa, .long fb, .int mt, .int re])), (lg, .inr (0, [.ref lc, .ref lt, .int (nI k)])), (lc, .inl (cI, 36, .inl cs)), (lt, .inl (cI, 36, .inl ts)), (ob, .inl (cJ, 1, .inr (.inl ov)))] sz)))) (va_Qi (fun (r : Int32) (u : (Int32)) => r = 0 ∧ (∃ j, j < k ∧ v = nI j ∧ u = ji2c (49 + cs j / 6))) (fun (u : (Int32)) => pv_B D cI cJ (va_A [(h0, .inr (3, [.ref lg, .ref fs, .ref ps, .long fa, .long fb, .int mt, .int re])), (lg, .inr (0, [.ref lc, .ref lt, .int (nI k)])), (lc, .inl (cI, 36, .inl cs)), (lt, .inl (cI, 36, .inl ts)), (ob, .inl (cJ, 1, .inr (.inl ov)))] sz) [(h0, .inr (3, [.ref lg, .ref fs, .ref ps, .long fa, .long fb, .int mt, .int re])), (lg, .inr (0, [.ref lc, .ref lt, .int (nI k)])), (lc, .inl (cI, 36, .inl cs)), (lt, .inl (cI, 36, .inl ts)), (ob, .inl (cJ, 1, .inr (.inl (vp_updL ov 0 (u).toInt64))))]) (va_A [(h0, .inr (3, [.ref lg, .ref fs, .ref ps, .long fa, .long fb, .int mt, .int re])), (lg, .inr (0, [.ref lc, .ref lt, .int (nI k)])), (lc, .inl (cI, 36, .inl cs)), (lt, .inl (cI, 36, .inl ts)), (ob, .inl (cJ, 1, .inr (.inl ov)))] sz)) 2 12 (va_A [(h0, .inr (3, [.ref lg, .ref fs, .ref ps, .long fa, .long fb, .int mt, .int re])), (lg, .inr (0, [.ref lc, .ref lt, .int (nI k)])), (lc, .inl (cI, 36, .inl cs)), (lt, .inl (cI, 36, .inl ts)), (ob, .inl (cJ, 1, .inr (.inl ov)))] sz) := by
  refine va_MetW (cc := cL_textAt) (maxL := 5) (ret := (some .int)) (hh := [(0, 10, 13, 13)]) (by decide) rfl ?_
  intro p e s m args below meth c s₁ B hml hv
  obtain ⟨rfl, hNC, hEN, hEX, hZ, rfl, hP, hK, hD0⟩ := hv
  have hx := B.exec
  have hb := B.bytes
  have hr := B.returns
  have hts := atoms_spec (ws := wsL_textAt) B.pre
  have hown : s.vm.findClass RL = some m.cls := findClass_of_methodNamed B.named
  have hlocks := B.notSynchronized
  have htb := vx_table (x := yL_textAt) B (hts _ (List.mem_of_getElem? (i := 0) rfl))
  have hD := hD0.self (sz := s.heap.size)
  generalize hAe : va_A [(h0, .inr (3, [.ref lg, .ref fs, .ref ps, .long fa, .long fb, .int mt, .int re])), (lg, .inr (0, [.ref lc, .ref lt, .int (nI k)])), (lc, .inl (cI, 36, .inl cs)), (lt, .inl (cI, 36, .inl ts)), (ob, .inl (cJ, 1, .inr (.inl ov)))] s.heap.size = A at hD hZ ⊢
  have hA : ∀ q : Nat, s.heap.size ≤ q → A q := fun q h => by rw [← hAe]; exact Or.inr h
  have hS : va_S A s.heap s.heap [] := va_S.rf
  have hl := lv_entry ([.ref h0, .int v, .int 1, .ref ob]) (n := 5) (Nat.le_of_ble_eq_true rfl)
  rw [lg_entry_eq]
  generalize (lg_sl ([.ref h0, .int v, .int 1, .ref ob]) ++ List.replicate (5 - (lg_sl ([.ref h0, .int v, .int 1, .ref ob])).length) Slot.unset).toArray = ls at hl ⊢
  have hl : lv_has ls 5 [(0, .ref h0), (1, .int v), (2, .int 1), (3, .ref ob)] := hl
  refine lv_aload_n hx hb dL_textAt_0 rfl (lv_at hl 3 rfl) ?_
  refine lv_iconst (v := 0) hx hb dL_textAt_1 (by decide) ?_
  refine lv_aload_n hx hb dL_textAt_2 rfl (lv_at hl 0 rfl) ?_
  refine lv_iload_n hx hb dL_textAt_3 rfl (lv_at hl 1 rfl) ?_
  refine lv_iload_n hx hb dL_textAt_4 rfl (lv_at hl 2 rfl) ?_
  have hPc : va_P D vwCl [(h0, .inr (3, [.ref lg, .ref fs, .ref ps, .long fa, .long fb, .int mt, .int re])), (lg, .inr (0, [.ref lc, .ref lt, .int (nI k)])), (lc, .inl (cI, 36, .inl cs)), (lt, .inl (cI, 36, .inl ts))] s.heap := hP.sub (ws' := [(h0, .inr (3, [.ref lg, .ref fs, .ref ps, .long fa, .long fb, .int mt, .int re])), (lg, .inr (0, [.ref lc, .ref lt, .int (nI k)])), (lc, .inl (cI, 36, .inl cs)), (lt, .inl (cI, 36, .inl ts))]) [0, 1, 2, 3] rfl
  have hDc : va_D A [(h0, .inr (3, [.ref lg, .ref fs, .ref ps, .long fa, .long fb, .int mt, .int re])), (lg, .inr (0, [.ref lc, .ref lt, .int (nI k)])), (lc, .inl (cI, 36, .inl cs)), (lt, .inl (cI, 36, .inl ts))] := hD.sub (ws' := [(h0, .inr (3, [.ref lg, .ref fs, .ref ps, .long fa, .long fb, .int mt, .int re])), (lg, .inr (0, [.ref lc, .ref lt, .int (nI k)])), (lc, .inl (cI, 36, .inl cs)), (lt, .inl (cI, 36, .inl ts))]) [0, 1, 2, 3] (by decide) rfl
  have hFc := va_free (wc := [(h0, .inr (3, [.ref lg, .ref fs, .ref ps, .long fa, .long fb, .int mt, .int re])), (lg, .inr (0, [.ref lc, .ref lt, .int (nI k)])), (lc, .inl (cI, 36, .inl cs)), (lt, .inl (cI, 36, .inl ts))]) hD hS hA [0, 1, 2, 3] rfl
  refine vx_calli (vx_runV (As := [.int v, .int 1]) (rest := [.int 0, .ref ob]) ⟨hx, hb, hml, hown, hts⟩ (c_X6_textAt_1 l hltr D cI cJ s.heap.size  h0 lg lc lt fs ps fa fb mt re cs ts k (by omega) v) (cwV 2 hts gL_textAt_X6_textAt rfl rfl rfl (by decide +kernel) ⟨Nat.le_of_ble_eq_true rfl, Nat.le_of_ble_eq_true rfl⟩) ⟨(px_blindX pv_blind), va_recv hK hPc (ci := 3) (q0 := 0) rfl rfl, fun U hU hW => ⟨rfl, hEX.warm hW, by rw [hU]; exact hZ.to hS hW.alike hFc, by rw [hU], by rw [hU]; exact hPc, va_K.moved hW.alike hK, hDc.weaken (fun _ _ _ _ => trivial)⟩⟩ rfl rfl hl.1 rfl (lv_room (Nat.le_of_ble_eq_true rfl)) dL_textAt_5 ⟨(Nat.le_of_ble_eq_true rfl), (Nat.le_of_ble_eq_true rfl)⟩) hS (fun q _ h => hFc q h) hFc (fun q _ h => hFc q h) (fun E ce q9 u9 t9 H1 locs hth hvm hpx hB9 hz1 hk1 hS hce hcv hcl => ?_) (fun r5 u t9 H1 locs hth hvm hw5 hB9 hz1 hk1 hS => ?_)
  · obtain ⟨hb9, hP1, hK1, hD1⟩ := hB9
    rw [hth] at hP1
    obtain ⟨hP, hD⟩ := va_join (wr := [(ob, .inl (cJ, 1, .inr (.inl ov)))]) (w1 := [(h0, .inr (3, [.ref lg, .ref fs, .ref ps, .long fa, .long fb, .int mt, .int re])), (lg, .inr (0, [.ref lc, .ref lt, .int (nI k)])), (lc, .inl (cI, 36, .inl cs)), (lt, .inl (cI, 36, .inl ts))]) hP hD [0, 1, 2, 3] [4] rfl rfl (by decide) (by decide) hk1 hFc hP1 hD1
    have hP : va_P D vwCl [(h0, .inr (3, [.ref lg, .ref fs, .ref ps, .long fa, .long fb, .int mt, .int re])), (lg, .inr (0, [.ref lc, .ref lt, .int (nI k)])), (lc, .inl (cI, 36, .inl cs)), (lt, .inl (cI, 36, .inl ts)), (ob, .inl (cJ, 1, .inr (.inl ov)))] H1 := hP.sub (ws' := [(h0, .inr (3, [.ref lg, .ref fs, .ref ps, .long fa, .long fb, .int mt, .int re])), (lg, .inr (0, [.ref lc, .ref lt, .int (nI k)])), (lc, .inl (cI, 36, .inl cs)), (lt, .inl (cI, 36, .inl ts)), (ob, .inl (cJ, 1, .inr (.inl ov)))]) [1, 2, 3, 4, 0] rfl
    have hD : va_D A [(h0, .inr (3, [.ref lg, .ref fs, .ref ps, .long fa, .long fb, .int mt, .int re])), (lg, .inr (0, [.ref lc, .ref lt, .int (nI k)])), (lc, .inl (cI, 36, .inl cs)), (lt, .inl (cI, 36, .inl ts)), (ob, .inl (cJ, 1, .inr (.inl ov)))] := hD.sub (ws' := [(h0, .inr (3, [.ref lg, .ref fs, .ref ps, .long fa, .long fb, .int mt, .int re])), (lg, .inr (0, [.ref lc, .ref lt, .int (nI k)])), (lc, .inl (cI, 36, .inl cs)), (lt, .inl (cI, 36, .inl ts)), (ob, .inl (cJ, 1, .inr (.inl ov)))]) [1, 2, 3, 4, 0] (by decide) rfl
    exact (absurd hok hb9.2)
  · try dsimp only at hw5
    obtain ⟨hP1, hK1, hD1⟩ := hB9
    rw [hth] at hP1
    obtain ⟨hP, hD⟩ := va_join (wr := [(ob, .inl (cJ, 1, .inr (.inl ov)))]) (w1 := [(h0, .inr (3, [.ref lg, .ref fs, .ref ps, .long fa, .long fb, .int mt, .int re])), (lg, .inr (0, [.ref lc, .ref lt, .int (nI k)])), (lc, .inl (cI, 36, .inl cs)), (lt, .inl (cI, 36, .inl ts))]) hP hD [0, 1, 2, 3] [4] rfl rfl (by decide) (by decide) hk1 hFc hP1 hD1
    generalize H1 = H at hP hS ⊢
    have hP : va_P D vwCl [(h0, .inr (3, [.ref lg, .ref fs, .ref ps, .long fa, .long fb, .int mt, .int re])), (lg, .inr (0, [.ref lc, .ref lt, .int (nI k)])), (lc, .inl (cI, 36, .inl cs)), (lt, .inl (cI, 36, .inl ts)), (ob, .inl (cJ, 1, .inr (.inl ov)))] H := hP.sub (ws' := [(h0, .inr (3, [.ref lg, .ref fs, .ref ps, .long fa, .long fb, .int mt, .int re])), (lg, .inr (0, [.ref lc, .ref lt, .int (nI k)])), (lc, .inl (cI, 36, .inl cs)), (lt, .inl (cI, 36, .inl ts)), (ob, .inl (cJ, 1, .inr (.inl ov)))]) [1, 2, 3, 4, 0] rfl
    have hD : va_D A [(h0, .inr (3, [.ref lg, .ref fs, .ref ps, .long fa, .long fb, .int mt, .int re])), (lg, .inr (0, [.ref lc, .ref lt, .int (nI k)])), (lc, .inl (cI, 36, .inl cs)), (lt, .inl (cI, 36, .inl ts)), (ob, .inl (cJ, 1, .inr (.inl ov)))] := hD.sub (ws' := [(h0, .inr (3, [.ref lg, .ref fs, .ref ps, .long fa, .long fb, .int mt, .int re])), (lg, .inr (0, [.ref lc, .ref lt, .int (nI k)])), (lc, .inl (cI, 36, .inl cs)), (lt, .inl (cI, 36, .inl ts)), (ob, .inl (cJ, 1, .inr (.inl ov)))]) [1, 2, 3, 4, 0] (by decide) rfl
    refine lv_i2l (v := (r5 : Int32).toInt64) hx hb dL_textAt_8 rfl ?_
    refine lv_topl (fun x8 ex8 => ?_)
    refine va_last hx hb hK hP hD hS 4 1 rfl rfl (vp_in_nI (n := 0) (N := 1) (by omega) (by decide)) dL_textAt_9 (fun H locs hP hD hS => ?_)
    have hu9 : (0 : Int32).toNatClampNeg = 0 := pk_cl 0
    rw [hu9] at hP hD
    have hP : va_P D vwCl [(h0, .inr (3, [.ref lg, .ref fs, .ref ps, .long fa, .long fb, .int mt, .int re])), (lg, .inr (0, [.ref lc, .ref lt, .int (nI k)])), (lc, .inl (cI, 36, .inl cs)), (lt, .inl (cI, 36, .inl ts)), (ob, .inl (cJ, 1, .inr (.inl (vp_updL ov 0 x8))))] H := hP
    have hD : va_D A [(h0, .inr (3, [.ref lg, .ref fs, .ref ps, .long fa, .long fb, .int mt, .int re])), (lg, .inr (0, [.ref lc, .ref lt, .int (nI k)])), (lc, .inl (cI, 36, .inl cs)), (lt, .inl (cI, 36, .inl ts)), (ob, .inl (cJ, 1, .inr (.inl (vp_updL ov 0 x8))))] := hD
    refine lv_goto (tgt := 17) hx hb dL_textAt_10 (by decide) ?_
    refine lv_iconst (v := 0) hx hb dL_textAt_17 (by decide) ?_
    obtain rfl := ex8.symm
    refine W.widen (k := 2) (n := 12) (Nat.le_of_ble_eq_true rfl) (Nat.le_of_ble_eq_true rfl) ?_
    refine W.iret (v := 0) hx hb hr (fun tt ht hW => ⟨⟨0, r5, rfl, ?_, by rw [ht]; exact hP, va_K.moved hW.alike hK, hD⟩, hS.F ht⟩) hS.2.2 dL_textAt_18
    exact ⟨rfl, hw5⟩

set_option maxHeartbeats 400000 in
set_option maxRecDepth 100000 in
theorem c_L_textAt_no1 (l : Launch) (hltr : l.stackTraces = false) (D : va_G) (cI cJ : ClassId) (sz : Nat) (h0 lg lc lt fs ps : Nat) (fa fb : Int64) (mt re : Int32) (cs ts : Nat → Int32) (k : Nat) (hk : k ≤ 36) (ob : Nat) (ov : Nat → Int64) (v : Int32) (hbad : ¬ imove k v) : Met l yL_textAt wsL_textAt ({ frames := 8, cells := 2, slots := 12, locals := 133 } : Room) (va_Pc [.ref h0, .int v, .int 1, .ref ob] (px_N (px_X (va_A [(h0, .inr (3, [.ref lg, .ref fs, .ref ps, .long fa, .long fb, .int mt, .int re])), (lg, .inr (0, [.ref lc, .ref lt, .int (nI k)])), (lc, .inl (cI, 36, .inl cs)), (lt, .inl (cI, 36, .inl ts)), (ob, .inl (cJ, 1, .inr (.inl ov)))] sz) (pv_C D cI cJ [(h0, .inr (3, [.ref lg, .ref fs, .ref ps, .long fa, .long fb, .int mt, .int re])), (lg, .inr (0, [.ref lc, .ref lt, .int (nI k)])), (lc, .inl (cI, 36, .inl cs)), (lt, .inl (cI, 36, .inl ts)), (ob, .inl (cJ, 1, .inr (.inl ov)))] sz)))) (va_Qi (fun (r : Int32) (u : Unit) => r = 1) (fun (u : Unit) => pv_B D cI cJ (va_A [(h0, .inr (3, [.ref lg, .ref fs, .ref ps, .long fa, .long fb, .int mt, .int re])), (lg, .inr (0, [.ref lc, .ref lt, .int (nI k)])), (lc, .inl (cI, 36, .inl cs)), (lt, .inl (cI, 36, .inl ts)), (ob, .inl (cJ, 1, .inr (.inl ov)))] sz) [(h0, .inr (3, [.ref lg, .ref fs, .ref ps, .long fa, .long fb, .int mt, .int re])), (lg, .inr (0, [.ref lc, .ref lt, .int (nI k)])), (lc, .inl (cI, 36, .inl cs)), (lt, .inl (cI, 36, .inl ts)), (ob, .inl (cJ, 1, .inr (.inl ov)))]) (va_A [(h0, .inr (3, [.ref lg, .ref fs, .ref ps, .long fa, .long fb, .int mt, .int re])), (lg, .inr (0, [.ref lc, .ref lt, .int (nI k)])), (lc, .inl (cI, 36, .inl cs)), (lt, .inl (cI, 36, .inl ts)), (ob, .inl (cJ, 1, .inr (.inl ov)))] sz)) 2 12 (va_A [(h0, .inr (3, [.ref lg, .ref fs, .ref ps, .long fa, .long fb, .int mt, .int re])), (lg, .inr (0, [.ref lc, .ref lt, .int (nI k)])), (lc, .inl (cI, 36, .inl cs)), (lt, .inl (cI, 36, .inl ts)), (ob, .inl (cJ, 1, .inr (.inl ov)))] sz) := by
  refine va_MetW (cc := cL_textAt) (maxL := 5) (ret := (some .int)) (hh := [(0, 10, 13, 13)]) (by decide) rfl ?_
  intro p e s m args below meth c s₁ B hml hv
  obtain ⟨rfl, hNC, hEN, hEX, hZ, rfl, hP, hK, hD0⟩ := hv
  have hx := B.exec
  have hb := B.bytes
  have hr := B.returns
  have hts := atoms_spec (ws := wsL_textAt) B.pre
  have hown : s.vm.findClass RL = some m.cls := findClass_of_methodNamed B.named
  have hlocks := B.notSynchronized
  have htb := vx_table (x := yL_textAt) B (hts _ (List.mem_of_getElem? (i := 0) rfl))
  have hD := hD0.self (sz := s.heap.size)
  generalize hAe : va_A [(h0, .inr (3, [.ref lg, .ref fs, .ref ps, .long fa, .long fb, .int mt, .int re])), (lg, .inr (0, [.ref lc, .ref lt, .int (nI k)])), (lc, .inl (cI, 36, .inl cs)), (lt, .inl (cI, 36, .inl ts)), (ob, .inl (cJ, 1, .inr (.inl ov)))] s.heap.size = A at hD hZ ⊢
  have hA : ∀ q : Nat, s.heap.size ≤ q → A q := fun q h => by rw [← hAe]; exact Or.inr h
  have hS : va_S A s.heap s.heap [] := va_S.rf
  have hl := lv_entry ([.ref h0, .int v, .int 1, .ref ob]) (n := 5) (Nat.le_of_ble_eq_true rfl)
  rw [lg_entry_eq]
  generalize (lg_sl ([.ref h0, .int v, .int 1, .ref ob]) ++ List.replicate (5 - (lg_sl ([.ref h0, .int v, .int 1, .ref ob])).length) Slot.unset).toArray = ls at hl ⊢
  have hl : lv_has ls 5 [(0, .ref h0), (1, .int v), (2, .int 1), (3, .ref ob)] := hl
  refine lv_aload_n hx hb dL_textAt_0 rfl (lv_at hl 3 rfl) ?_
  refine lv_iconst (v := 0) hx hb dL_textAt_1 (by decide) ?_
  refine lv_aload_n hx hb dL_textAt_2 rfl (lv_at hl 0 rfl) ?_
  refine lv_iload_n hx hb dL_textAt_3 rfl (lv_at hl 1 rfl) ?_
  refine lv_iload_n hx hb dL_textAt_4 rfl (lv_at hl 2 rfl) ?_
  have hPc : va_P D vwCl [(h0, .inr (3, [.ref lg, .ref fs, .ref ps, .long fa, .long fb, .int mt, .int re])), (lg, .inr (0, [.ref lc, .ref lt, .int (nI k)])), (lc, .inl (cI, 36, .inl cs)), (lt, .inl (cI, 36, .inl ts))] s.heap := hP.sub (ws' := [(h0, .inr (3, [.ref lg, .ref fs, .ref ps, .long fa, .long fb, .int mt, .int re])), (lg, .inr (0, [.ref lc, .ref lt, .int (nI k)])), (lc, .inl (cI, 36, .inl cs)), (lt, .inl (cI, 36, .inl ts))]) [0, 1, 2, 3] rfl
  have hDc : va_D A [(h0, .inr (3, [.ref lg, .ref fs, .ref ps, .long fa, .long fb, .int mt, .int re])), (lg, .inr (0, [.ref lc, .ref lt, .int (nI k)])), (lc, .inl (cI, 36, .inl cs)), (lt, .inl (cI, 36, .inl ts))] := hD.sub (ws' := [(h0, .inr (3, [.ref lg, .ref fs, .ref ps, .long fa, .long fb, .int mt, .int re])), (lg, .inr (0, [.ref lc, .ref lt, .int (nI k)])), (lc, .inl (cI, 36, .inl cs)), (lt, .inl (cI, 36, .inl ts))]) [0, 1, 2, 3] (by decide) rfl
  have hFc := va_free (wc := [(h0, .inr (3, [.ref lg, .ref fs, .ref ps, .long fa, .long fb, .int mt, .int re])), (lg, .inr (0, [.ref lc, .ref lt, .int (nI k)])), (lc, .inl (cI, 36, .inl cs)), (lt, .inl (cI, 36, .inl ts))]) hD hS hA [0, 1, 2, 3] rfl
  refine vx_calli (vx_runV (As := [.int v, .int 1]) (rest := [.int 0, .ref ob]) ⟨hx, hb, hml, hown, hts⟩ (c_X6_textAt_1 l hltr D cI cJ s.heap.size  h0 lg lc lt fs ps fa fb mt re cs ts k (by omega) v) (cwV 2 hts gL_textAt_X6_textAt rfl rfl rfl (by decide +kernel) ⟨Nat.le_of_ble_eq_true rfl, Nat.le_of_ble_eq_true rfl⟩) ⟨(px_blindX pv_blind), va_recv hK hPc (ci := 3) (q0 := 0) rfl rfl, fun U hU hW => ⟨rfl, hEX.warm hW, by rw [hU]; exact hZ.to hS hW.alike hFc, by rw [hU], by rw [hU]; exact hPc, va_K.moved hW.alike hK, hDc.weaken (fun _ _ _ _ => trivial)⟩⟩ rfl rfl hl.1 rfl (lv_room (Nat.le_of_ble_eq_true rfl)) dL_textAt_5 ⟨(Nat.le_of_ble_eq_true rfl), (Nat.le_of_ble_eq_true rfl)⟩) hS (fun q _ h => hFc q h) hFc (fun q _ h => hFc q h) (fun E ce q9 u9 t9 H1 locs hth hvm hpx hB9 hz1 hk1 hS hce hcv hcl => ?_) (fun r5 u t9 H1 locs hth hvm hw5 hB9 hz1 hk1 hS => ?_)
  · obtain ⟨hb9, hP1, hK1, hD1⟩ := hB9
    rw [hth] at hP1
    obtain ⟨hP, hD⟩ := va_join (wr := [(ob, .inl (cJ, 1, .inr (.inl ov)))]) (w1 := [(h0, .inr (3, [.ref lg, .ref fs, .ref ps, .long fa, .long fb, .int mt, .int re])), (lg, .inr (0, [.ref lc, .ref lt, .int (nI k)])), (lc, .inl (cI, 36, .inl cs)), (lt, .inl (cI, 36, .inl ts))]) hP hD [0, 1, 2, 3] [4] rfl rfl (by decide) (by decide) hk1 hFc hP1 hD1
    have hP : va_P D vwCl [(h0, .inr (3, [.ref lg, .ref fs, .ref ps, .long fa, .long fb, .int mt, .int re])), (lg, .inr (0, [.ref lc, .ref lt, .int (nI k)])), (lc, .inl (cI, 36, .inl cs)), (lt, .inl (cI, 36, .inl ts)), (ob, .inl (cJ, 1, .inr (.inl ov)))] H1 := hP.sub (ws' := [(h0, .inr (3, [.ref lg, .ref fs, .ref ps, .long fa, .long fb, .int mt, .int re])), (lg, .inr (0, [.ref lc, .ref lt, .int (nI k)])), (lc, .inl (cI, 36, .inl cs)), (lt, .inl (cI, 36, .inl ts)), (ob, .inl (cJ, 1, .inr (.inl ov)))]) [1, 2, 3, 4, 0] rfl
    have hD : va_D A [(h0, .inr (3, [.ref lg, .ref fs, .ref ps, .long fa, .long fb, .int mt, .int re])), (lg, .inr (0, [.ref lc, .ref lt, .int (nI k)])), (lc, .inl (cI, 36, .inl cs)), (lt, .inl (cI, 36, .inl ts)), (ob, .inl (cJ, 1, .inr (.inl ov)))] := hD.sub (ws' := [(h0, .inr (3, [.ref lg, .ref fs, .ref ps, .long fa, .long fb, .int mt, .int re])), (lg, .inr (0, [.ref lc, .ref lt, .int (nI k)])), (lc, .inl (cI, 36, .inl cs)), (lt, .inl (cI, 36, .inl ts)), (ob, .inl (cJ, 1, .inr (.inl ov)))]) [1, 2, 3, 4, 0] (by decide) rfl
    obtain rfl : E = nIOB := hb9.1
    refine vx_catch (own := RL) (name := nIOB) hown [] ⟨0, 10, 13, 13⟩ [] (htb.trans rfl) (fun z hz => nomatch hz) (by decide) (by decide) (hts (.classLink RL 13 nIOB) (by decide +kernel)) (va_Nw.use rfl hEX.2.1) hce hcv hcl ?_
    refine lv_astore (lv' := [(4, .ref q9), (0, .ref h0), (1, .int v), (2, .int 1), (3, .ref ob)]) hx hb dL_textAt_13 hl (by decide) rfl (fun ls hl => ?_)
    refine lv_iconst (v := 1) hx hb dL_textAt_15 (by decide) ?_
    refine W.widen (k := 2) (n := 12) (Nat.le_of_ble_eq_true rfl) (Nat.le_of_ble_eq_true rfl) ?_
    refine W.iret (v := 1) hx hb hr (fun tt ht hW => ⟨⟨1, (), rfl, ?_, by rw [ht]; exact hP, va_K.moved hW.alike hK, hD⟩, hS.F ht⟩) hS.2.2 dL_textAt_16
    exact rfl
  · try dsimp only at hw5
    obtain ⟨j, h1, h2, _⟩ := hw5; exact absurd (show imove k v from by rw [h2]; exact mv_in h1 hk) hbad

set_option maxHeartbeats 400000 in
set_option maxRecDepth 100000 in
theorem c_L_textAt_ok2 (l : Launch) (hltr : l.stackTraces = false) (D : va_G) (cI cJ : ClassId) (sz : Nat) (h0 lg lc lt fs ps : Nat) (fa fb : Int64) (mt re : Int32) (cs ts : Nat → Int32) (k : Nat) (hk : k ≤ 36) (ob : Nat) (ov : Nat → Int64) (v : Int32) (htx : ∀ j, j < k → ¬ ts j = (-1) → ∃ tn, tn < 8 ∧ ts j = nI tn) (hok : ∃ j, j < k ∧ v = nI j ∧ ¬ ts j = (-1)) : Met l yL_textAt wsL_textAt ({ frames := 8, cells := 2, slots := 12, locals := 133 } : Room) (va_Pc [.ref h0, .int v, .int 2, .ref ob] (px_N (px_X (va_A [(h0, .inr (3, [.ref lg, .ref fs, .ref ps, .long fa, .long fb, .int mt, .int re])), (lg, .inr (0, [.ref lc, .ref lt, .int (nI k)])), (lc, .inl (cI, 36, .inl cs)), (lt, .inl (cI, 36, .inl ts)), (ob, .inl (cJ, 1, .inr (.inl ov)))] sz) (pv_C D cI cJ [(h0, .inr (3, [.ref lg, .ref fs, .ref ps, .long fa, .long fb, .int mt, .int re])), (lg, .inr (0, [.ref lc, .ref lt, .int (nI k)])), (lc, .inl (cI, 36, .inl cs)), (lt, .inl (cI, 36, .inl ts)), (ob, .inl (cJ, 1, .inr (.inl ov)))] sz)))) (va_Qi (fun (r : Int32) (u : (Int32)) => r = 0 ∧ (∃ j tn, j < k ∧ v = nI j ∧ tn < 8 ∧ ts j = nI tn ∧ u = ji2c (nI (48 + tn / 2)))) (fun (u : (Int32)) => pv_B D cI cJ (va_A [(h0, .inr (3, [.ref lg, .ref fs, .ref ps, .long fa, .long fb, .int mt, .int re])), (lg, .inr (0, [.ref lc, .ref lt, .int (nI k)])), (lc, .inl (cI, 36, .inl cs)), (lt, .inl (cI, 36, .inl ts)), (ob, .inl (cJ, 1, .inr (.inl ov)))] sz) [(h0, .inr (3, [.ref lg, .ref fs, .ref ps, .long fa, .long fb, .int mt, .int re])), (lg, .inr (0, [.ref lc, .ref lt, .int (nI k)])), (lc, .inl (cI, 36, .inl cs)), (lt, .inl (cI, 36, .inl ts)), (ob, .inl (cJ, 1, .inr (.inl (vp_updL ov 0 (u).toInt64))))]) (va_A [(h0, .inr (3, [.ref lg, .ref fs, .ref ps, .long fa, .long fb, .int mt, .int re])), (lg, .inr (0, [.ref lc, .ref lt, .int (nI k)])), (lc, .inl (cI, 36, .inl cs)), (lt, .inl (cI, 36, .inl ts)), (ob, .inl (cJ, 1, .inr (.inl ov)))] sz)) 2 12 (va_A [(h0, .inr (3, [.ref lg, .ref fs, .ref ps, .long fa, .long fb, .int mt, .int re])), (lg, .inr (0, [.ref lc, .ref lt, .int (nI k)])), (lc, .inl (cI, 36, .inl cs)), (lt, .inl (cI, 36, .inl ts)), (ob, .inl (cJ, 1, .inr (.inl ov)))] sz) := by
  refine va_MetW (cc := cL_textAt) (maxL := 5) (ret := (some .int)) (hh := [(0, 10, 13, 13)]) (by decide) rfl ?_
  intro p e s m args below meth c s₁ B hml hv
  obtain ⟨rfl, hNC, hEN, hEX, hZ, rfl, hP, hK, hD0⟩ := hv
  have hx := B.exec
  have hb := B.bytes
  have hr := B.returns
  have hts := atoms_spec (ws := wsL_textAt) B.pre
  have hown : s.vm.findClass RL = some m.cls := findClass_of_methodNamed B.named
  have hlocks := B.notSynchronized
  have htb := vx_table (x := yL_textAt) B (hts _ (List.mem_of_getElem? (i := 0) rfl))
  have hD := hD0.self (sz := s.heap.size)
  generalize hAe : va_A [(h0, .inr (3, [.ref lg, .ref fs, .ref ps, .long fa, .long fb, .int mt, .int re])), (lg, .inr (0, [.ref lc, .ref lt, .int (nI k)])), (lc, .inl (cI, 36, .inl cs)), (lt, .inl (cI, 36, .inl ts)), (ob, .inl (cJ, 1, .inr (.inl ov)))] s.heap.size = A at hD hZ ⊢
  have hA : ∀ q : Nat, s.heap.size ≤ q → A q := fun q h => by rw [← hAe]; exact Or.inr h
  have hS : va_S A s.heap s.heap [] := va_S.rf
  have hl := lv_entry ([.ref h0, .int v, .int 2, .ref ob]) (n := 5) (Nat.le_of_ble_eq_true rfl)
  rw [lg_entry_eq]
  generalize (lg_sl ([.ref h0, .int v, .int 2, .ref ob]) ++ List.replicate (5 - (lg_sl ([.ref h0, .int v, .int 2, .ref ob])).length) Slot.unset).toArray = ls at hl ⊢
  have hl : lv_has ls 5 [(0, .ref h0), (1, .int v), (2, .int 2), (3, .ref ob)] := hl
  refine lv_aload_n hx hb dL_textAt_0 rfl (lv_at hl 3 rfl) ?_
  refine lv_iconst (v := 0) hx hb dL_textAt_1 (by decide) ?_
  refine lv_aload_n hx hb dL_textAt_2 rfl (lv_at hl 0 rfl) ?_
  refine lv_iload_n hx hb dL_textAt_3 rfl (lv_at hl 1 rfl) ?_
  refine lv_iload_n hx hb dL_textAt_4 rfl (lv_at hl 2 rfl) ?_
  have hPc : va_P D vwCl [(h0, .inr (3, [.ref lg, .ref fs, .ref ps, .long fa, .long fb, .int mt, .int re])), (lg, .inr (0, [.ref lc, .ref lt, .int (nI k)])), (lc, .inl (cI, 36, .inl cs)), (lt, .inl (cI, 36, .inl ts))] s.heap := hP.sub (ws' := [(h0, .inr (3, [.ref lg, .ref fs, .ref ps, .long fa, .long fb, .int mt, .int re])), (lg, .inr (0, [.ref lc, .ref lt, .int (nI k)])), (lc, .inl (cI, 36, .inl cs)), (lt, .inl (cI, 36, .inl ts))]) [0, 1, 2, 3] rfl
  have hDc : va_D A [(h0, .inr (3, [.ref lg, .ref fs, .ref ps, .long fa, .long fb, .int mt, .int re])), (lg, .inr (0, [.ref lc, .ref lt, .int (nI k)])), (lc, .inl (cI, 36, .inl cs)), (lt, .inl (cI, 36, .inl ts))] := hD.sub (ws' := [(h0, .inr (3, [.ref lg, .ref fs, .ref ps, .long fa, .long fb, .int mt, .int re])), (lg, .inr (0, [.ref lc, .ref lt, .int (nI k)])), (lc, .inl (cI, 36, .inl cs)), (lt, .inl (cI, 36, .inl ts))]) [0, 1, 2, 3] (by decide) rfl
  have hFc := va_free (wc := [(h0, .inr (3, [.ref lg, .ref fs, .ref ps, .long fa, .long fb, .int mt, .int re])), (lg, .inr (0, [.ref lc, .ref lt, .int (nI k)])), (lc, .inl (cI, 36, .inl cs)), (lt, .inl (cI, 36, .inl ts))]) hD hS hA [0, 1, 2, 3] rfl
  refine vx_calli (vx_runV (As := [.int v, .int 2]) (rest := [.int 0, .ref ob]) ⟨hx, hb, hml, hown, hts⟩ (c_X6_textAt_2 l hltr D cI cJ s.heap.size  h0 lg lc lt fs ps fa fb mt re cs ts k (by omega) v htx) (cwV 2 hts gL_textAt_X6_textAt rfl rfl rfl (by decide +kernel) ⟨Nat.le_of_ble_eq_true rfl, Nat.le_of_ble_eq_true rfl⟩) ⟨(px_blindX pv_blind), va_recv hK hPc (ci := 3) (q0 := 0) rfl rfl, fun U hU hW => ⟨rfl, hEX.warm hW, by rw [hU]; exact hZ.to hS hW.alike hFc, by rw [hU], by rw [hU]; exact hPc, va_K.moved hW.alike hK, hDc.weaken (fun _ _ _ _ => trivial)⟩⟩ rfl rfl hl.1 rfl (lv_room (Nat.le_of_ble_eq_true rfl)) dL_textAt_5 ⟨(Nat.le_of_ble_eq_true rfl), (Nat.le_of_ble_eq_true rfl)⟩) hS (fun q _ h => hFc q h) hFc (fun q _ h => hFc q h) (fun E ce q9 u9 t9 H1 locs hth hvm hpx hB9 hz1 hk1 hS hce hcv hcl => ?_) (fun r5 u t9 H1 locs hth hvm hw5 hB9 hz1 hk1 hS => ?_)
  · obtain ⟨hb9, hP1, hK1, hD1⟩ := hB9
    rw [hth] at hP1
    obtain ⟨hP, hD⟩ := va_join (wr := [(ob, .inl (cJ, 1, .inr (.inl ov)))]) (w1 := [(h0, .inr (3, [.ref lg, .ref fs, .ref ps, .long fa, .long fb, .int mt, .int re])), (lg, .inr (0, [.ref lc, .ref lt, .int (nI k)])), (lc, .inl (cI, 36, .inl cs)), (lt, .inl (cI, 36, .inl ts))]) hP hD [0, 1, 2, 3] [4] rfl rfl (by decide) (by decide) hk1 hFc hP1 hD1
    have hP : va_P D vwCl [(h0, .inr (3, [.ref lg, .ref fs, .ref ps, .long fa, .long fb, .int mt, .int re])), (lg, .inr (0, [.ref lc, .ref lt, .int (nI k)])), (lc, .inl (cI, 36, .inl cs)), (lt, .inl (cI, 36, .inl ts)), (ob, .inl (cJ, 1, .inr (.inl ov)))] H1 := hP.sub (ws' := [(h0, .inr (3, [.ref lg, .ref fs, .ref ps, .long fa, .long fb, .int mt, .int re])), (lg, .inr (0, [.ref lc, .ref lt, .int (nI k)])), (lc, .inl (cI, 36, .inl cs)), (lt, .inl (cI, 36, .inl ts)), (ob, .inl (cJ, 1, .inr (.inl ov)))]) [1, 2, 3, 4, 0] rfl
    have hD : va_D A [(h0, .inr (3, [.ref lg, .ref fs, .ref ps, .long fa, .long fb, .int mt, .int re])), (lg, .inr (0, [.ref lc, .ref lt, .int (nI k)])), (lc, .inl (cI, 36, .inl cs)), (lt, .inl (cI, 36, .inl ts)), (ob, .inl (cJ, 1, .inr (.inl ov)))] := hD.sub (ws' := [(h0, .inr (3, [.ref lg, .ref fs, .ref ps, .long fa, .long fb, .int mt, .int re])), (lg, .inr (0, [.ref lc, .ref lt, .int (nI k)])), (lc, .inl (cI, 36, .inl cs)), (lt, .inl (cI, 36, .inl ts)), (ob, .inl (cJ, 1, .inr (.inl ov)))]) [1, 2, 3, 4, 0] (by decide) rfl
    exact (absurd hok hb9.2)
  · try dsimp only at hw5
    obtain ⟨hP1, hK1, hD1⟩ := hB9
    rw [hth] at hP1
    obtain ⟨hP, hD⟩ := va_join (wr := [(ob, .inl (cJ, 1, .inr (.inl ov)))]) (w1 := [(h0, .inr (3, [.ref lg, .ref fs, .ref ps, .long fa, .long fb, .int mt, .int re])), (lg, .inr (0, [.ref lc, .ref lt, .int (nI k)])), (lc, .inl (cI, 36, .inl cs)), (lt, .inl (cI, 36, .inl ts))]) hP hD [0, 1, 2, 3] [4] rfl rfl (by decide) (by decide) hk1 hFc hP1 hD1
    generalize H1 = H at hP hS ⊢
    have hP : va_P D vwCl [(h0, .inr (3, [.ref lg, .ref fs, .ref ps, .long fa, .long fb, .int mt, .int re])), (lg, .inr (0, [.ref lc, .ref lt, .int (nI k)])), (lc, .inl (cI, 36, .inl cs)), (lt, .inl (cI, 36, .inl ts)), (ob, .inl (cJ, 1, .inr (.inl ov)))] H := hP.sub (ws' := [(h0, .inr (3, [.ref lg, .ref fs, .ref ps, .long fa, .long fb, .int mt, .int re])), (lg, .inr (0, [.ref lc, .ref lt, .int (nI k)])), (lc, .inl (cI, 36, .inl cs)), (lt, .inl (cI, 36, .inl ts)), (ob, .inl (cJ, 1, .inr (.inl ov)))]) [1, 2, 3, 4, 0] rfl
    have hD : va_D A [(h0, .inr (3, [.ref lg, .ref fs, .ref ps, .long fa, .long fb, .int mt, .int re])), (lg, .inr (0, [.ref lc, .ref lt, .int (nI k)])), (lc, .inl (cI, 36, .inl cs)), (lt, .inl (cI, 36, .inl ts)), (ob, .inl (cJ, 1, .inr (.inl ov)))] := hD.sub (ws' := [(h0, .inr (3, [.ref lg, .ref fs, .ref ps, .long fa, .long fb, .int mt, .int re])), (lg, .inr (0, [.ref lc, .ref lt, .int (nI k)])), (lc, .inl (cI, 36, .inl cs)), (lt, .inl (cI, 36, .inl ts)), (ob, .inl (cJ, 1, .inr (.inl ov)))]) [1, 2, 3, 4, 0] (by decide) rfl
    refine lv_i2l (v := (r5 : Int32).toInt64) hx hb dL_textAt_8 rfl ?_
    refine lv_topl (fun x8 ex8 => ?_)
    refine va_last hx hb hK hP hD hS 4 1 rfl rfl (vp_in_nI (n := 0) (N := 1) (by omega) (by decide)) dL_textAt_9 (fun H locs hP hD hS => ?_)
    have hu9 : (0 : Int32).toNatClampNeg = 0 := pk_cl 0
    rw [hu9] at hP hD
    have hP : va_P D vwCl [(h0, .inr (3, [.ref lg, .ref fs, .ref ps, .long fa, .long fb, .int mt, .int re])), (lg, .inr (0, [.ref lc, .ref lt, .int (nI k)])), (lc, .inl (cI, 36, .inl cs)), (lt, .inl (cI, 36, .inl ts)), (ob, .inl (cJ, 1, .inr (.inl (vp_updL ov 0 x8))))] H := hP
    have hD : va_D A [(h0, .inr (3, [.ref lg, .ref fs, .ref ps, .long fa, .long fb, .int mt, .int re])), (lg, .inr (0, [.ref lc, .ref lt, .int (nI k)])), (lc, .inl (cI, 36, .inl cs)), (lt, .inl (cI, 36, .inl ts)), (ob, .inl (cJ, 1, .inr (.inl (vp_updL ov 0 x8))))] := hD
    refine lv_goto (tgt := 17) hx hb dL_textAt_10 (by decide) ?_
    refine lv_iconst (v := 0) hx hb dL_textAt_17 (by decide) ?_
    obtain rfl := ex8.symm
    refine W.widen (k := 2) (n := 12) (Nat.le_of_ble_eq_true rfl) (Nat.le_of_ble_eq_true rfl) ?_
    refine W.iret (v := 0) hx hb hr (fun tt ht hW => ⟨⟨0, r5, rfl, ?_, by rw [ht]; exact hP, va_K.moved hW.alike hK, hD⟩, hS.F ht⟩) hS.2.2 dL_textAt_18
    exact ⟨rfl, hw5⟩

set_option maxHeartbeats 400000 in
set_option maxRecDepth 100000 in
theorem c_L_textAt_no2 (l : Launch) (hltr : l.stackTraces = false) (D : va_G) (cI cJ : ClassId) (sz : Nat) (h0 lg lc lt fs ps : Nat) (fa fb : Int64) (mt re : Int32) (cs ts : Nat → Int32) (k : Nat) (hk : k ≤ 36) (ob : Nat) (ov : Nat → Int64) (v : Int32) (htx : ∀ j, j < k → ¬ ts j = (-1) → ∃ tn, tn < 8 ∧ ts j = nI tn) (hbad : ¬ ∃ j, j < k ∧ v = nI j ∧ ¬ ts j = (-1)) : Met l yL_textAt wsL_textAt ({ frames := 8, cells := 2, slots := 12, locals := 133 } : Room) (va_Pc [.ref h0, .int v, .int 2, .ref ob] (px_N (px_X (va_A [(h0, .inr (3, [.ref lg, .ref fs, .ref ps, .long fa, .long fb, .int mt, .int re])), (lg, .inr (0, [.ref lc, .ref lt, .int (nI k)])), (lc, .inl (cI, 36, .inl cs)), (lt, .inl (cI, 36, .inl ts)), (ob, .inl (cJ, 1, .inr (.inl ov)))] sz) (pv_C D cI cJ [(h0, .inr (3, [.ref lg, .ref fs, .ref ps, .long fa, .long fb, .int mt, .int re])), (lg, .inr (0, [.ref lc, .ref lt, .int (nI k)])), (lc, .inl (cI, 36, .inl cs)), (lt, .inl (cI, 36, .inl ts)), (ob, .inl (cJ, 1, .inr (.inl ov)))] sz)))) (va_Qi (fun (r : Int32) (u : Unit) => r = 1) (fun (u : Unit) => pv_B D cI cJ (va_A [(h0, .inr (3, [.ref lg, .ref fs, .ref ps, .long fa, .long fb, .int mt, .int re])), (lg, .inr (0, [.ref lc, .ref lt, .int (nI k)])), (lc, .inl (cI, 36, .inl cs)), (lt, .inl (cI, 36, .inl ts)), (ob, .inl (cJ, 1, .inr (.inl ov)))] sz) [(h0, .inr (3, [.ref lg, .ref fs, .ref ps, .long fa, .long fb, .int mt, .int re])), (lg, .inr (0, [.ref lc, .ref lt, .int (nI k)])), (lc, .inl (cI, 36, .inl cs)), (lt, .inl (cI, 36, .inl ts)), (ob, .inl (cJ, 1, .inr (.inl ov)))]) (va_A [(h0, .inr (3, [.ref lg, .ref fs, .ref ps, .long fa, .long fb, .int mt, .int re])), (lg, .inr (0, [.ref lc, .ref lt, .int (nI k)])), (lc, .inl (cI, 36, .inl cs)), (lt, .inl (cI, 36, .inl ts)), (ob, .inl (cJ, 1, .inr (.inl ov)))] sz)) 2 12 (va_A [(h0, .inr (3, [.ref lg, .ref fs, .ref ps, .long fa, .long fb, .int mt, .int re])), (lg, .inr (0, [.ref lc, .ref lt, .int (nI k)])), (lc, .inl (cI, 36, .inl cs)), (lt, .inl (cI, 36, .inl ts)), (ob, .inl (cJ, 1, .inr (.inl ov)))] sz) := by
  refine va_MetW (cc := cL_textAt) (maxL := 5) (ret := (some .int)) (hh := [(0, 10, 13, 13)]) (by decide) rfl ?_
  intro p e s m args below meth c s₁ B hml hv
  obtain ⟨rfl, hNC, hEN, hEX, hZ, rfl, hP, hK, hD0⟩ := hv
  have hx := B.exec
  have hb := B.bytes
  have hr := B.returns
  have hts := atoms_spec (ws := wsL_textAt) B.pre
  have hown : s.vm.findClass RL = some m.cls := findClass_of_methodNamed B.named
  have hlocks := B.notSynchronized
  have htb := vx_table (x := yL_textAt) B (hts _ (List.mem_of_getElem? (i := 0) rfl))
  have hD := hD0.self (sz := s.heap.size)
  generalize hAe : va_A [(h0, .inr (3, [.ref lg, .ref fs, .ref ps, .long fa, .long fb, .int mt, .int re])), (lg, .inr (0, [.ref lc, .ref lt, .int (nI k)])), (lc, .inl (cI, 36, .inl cs)), (lt, .inl (cI, 36, .inl ts)), (ob, .inl (cJ, 1, .inr (.inl ov)))] s.heap.size = A at hD hZ ⊢
  have hA : ∀ q : Nat, s.heap.size ≤ q → A q := fun q h => by rw [← hAe]; exact Or.inr h
  have hS : va_S A s.heap s.heap [] := va_S.rf
  have hl := lv_entry ([.ref h0, .int v, .int 2, .ref ob]) (n := 5) (Nat.le_of_ble_eq_true rfl)
  rw [lg_entry_eq]
  generalize (lg_sl ([.ref h0, .int v, .int 2, .ref ob]) ++ List.replicate (5 - (lg_sl ([.ref h0, .int v, .int 2, .ref ob])).length) Slot.unset).toArray = ls at hl ⊢
  have hl : lv_has ls 5 [(0, .ref h0), (1, .int v), (2, .int 2), (3, .ref ob)] := hl
  refine lv_aload_n hx hb dL_textAt_0 rfl (lv_at hl 3 rfl) ?_
  refine lv_iconst (v := 0) hx hb dL_textAt_1 (by decide) ?_
  refine lv_aload_n hx hb dL_textAt_2 rfl (lv_at hl 0 rfl) ?_
  refine lv_iload_n hx hb dL_textAt_3 rfl (lv_at hl 1 rfl) ?_
  refine lv_iload_n hx hb dL_textAt_4 rfl (lv_at hl 2 rfl) ?_
  have hPc : va_P D vwCl [(h0, .inr (3, [.ref lg, .ref fs, .ref ps, .long fa, .long fb, .int mt, .int re])), (lg, .inr (0, [.ref lc, .ref lt, .int (nI k)])), (lc, .inl (cI, 36, .inl cs)), (lt, .inl (cI, 36, .inl ts))] s.heap := hP.sub (ws' := [(h0, .inr (3, [.ref lg, .ref fs, .ref ps, .long fa, .long fb, .int mt, .int re])), (lg, .inr (0, [.ref lc, .ref lt, .int (nI k)])), (lc, .inl (cI, 36, .inl cs)), (lt, .inl (cI, 36, .inl ts))]) [0, 1, 2, 3] rfl
  have hDc : va_D A [(h0, .inr (3, [.ref lg, .ref fs, .ref ps, .long fa, .long fb, .int mt, .int re])), (lg, .inr (0, [.ref lc, .ref lt, .int (nI k)])), (lc, .inl (cI, 36, .inl cs)), (lt, .inl (cI, 36, .inl ts))] := hD.sub (ws' := [(h0, .inr (3, [.ref lg, .ref fs, .ref ps, .long fa, .long fb, .int mt, .int re])), (lg, .inr (0, [.ref lc, .ref lt, .int (nI k)])), (lc, .inl (cI, 36, .inl cs)), (lt, .inl (cI, 36, .inl ts))]) [0, 1, 2, 3] (by decide) rfl
  have hFc := va_free (wc := [(h0, .inr (3, [.ref lg, .ref fs, .ref ps, .long fa, .long fb, .int mt, .int re])), (lg, .inr (0, [.ref lc, .ref lt, .int (nI k)])), (lc, .inl (cI, 36, .inl cs)), (lt, .inl (cI, 36, .inl ts))]) hD hS hA [0, 1, 2, 3] rfl
  refine vx_calli (vx_runV (As := [.int v, .int 2]) (rest := [.int 0, .ref ob]) ⟨hx, hb, hml, hown, hts⟩ (c_X6_textAt_2 l hltr D cI cJ s.heap.size  h0 lg lc lt fs ps fa fb mt re cs ts k (by omega) v htx) (cwV 2 hts gL_textAt_X6_textAt rfl rfl rfl (by decide +kernel) ⟨Nat.le_of_ble_eq_true rfl, Nat.le_of_ble_eq_true rfl⟩) ⟨(px_blindX pv_blind), va_recv hK hPc (ci := 3) (q0 := 0) rfl rfl, fun U hU hW => ⟨rfl, hEX.warm hW, by rw [hU]; exact hZ.to hS hW.alike hFc, by rw [hU], by rw [hU]; exact hPc, va_K.moved hW.alike hK, hDc.weaken (fun _ _ _ _ => trivial)⟩⟩ rfl rfl hl.1 rfl (lv_room (Nat.le_of_ble_eq_true rfl)) dL_textAt_5 ⟨(Nat.le_of_ble_eq_true rfl), (Nat.le_of_ble_eq_true rfl)⟩) hS (fun q _ h => hFc q h) hFc (fun q _ h => hFc q h) (fun E ce q9 u9 t9 H1 locs hth hvm hpx hB9 hz1 hk1 hS hce hcv hcl => ?_) (fun r5 u t9 H1 locs hth hvm hw5 hB9 hz1 hk1 hS => ?_)
  · obtain ⟨hb9, hP1, hK1, hD1⟩ := hB9
    rw [hth] at hP1
    obtain ⟨hP, hD⟩ := va_join (wr := [(ob, .inl (cJ, 1, .inr (.inl ov)))]) (w1 := [(h0, .inr (3, [.ref lg, .ref fs, .ref ps, .long fa, .long fb, .int mt, .int re])), (lg, .inr (0, [.ref lc, .ref lt, .int (nI k)])), (lc, .inl (cI, 36, .inl cs)), (lt, .inl (cI, 36, .inl ts))]) hP hD [0, 1, 2, 3] [4] rfl rfl (by decide) (by decide) hk1 hFc hP1 hD1
    have hP : va_P D vwCl [(h0, .inr (3, [.ref lg, .ref fs, .ref ps, .long fa, .long fb, .int mt, .int re])), (lg, .inr (0, [.ref lc, .ref lt, .int (nI k)])), (lc, .inl (cI, 36, .inl cs)), (lt, .inl (cI, 36, .inl ts)), (ob, .inl (cJ, 1, .inr (.inl ov)))] H1 := hP.sub (ws' := [(h0, .inr (3, [.ref lg, .ref fs, .ref ps, .long fa, .long fb, .int mt, .int re])), (lg, .inr (0, [.ref lc, .ref lt, .int (nI k)])), (lc, .inl (cI, 36, .inl cs)), (lt, .inl (cI, 36, .inl ts)), (ob, .inl (cJ, 1, .inr (.inl ov)))]) [1, 2, 3, 4, 0] rfl
    have hD : va_D A [(h0, .inr (3, [.ref lg, .ref fs, .ref ps, .long fa, .long fb, .int mt, .int re])), (lg, .inr (0, [.ref lc, .ref lt, .int (nI k)])), (lc, .inl (cI, 36, .inl cs)), (lt, .inl (cI, 36, .inl ts)), (ob, .inl (cJ, 1, .inr (.inl ov)))] := hD.sub (ws' := [(h0, .inr (3, [.ref lg, .ref fs, .ref ps, .long fa, .long fb, .int mt, .int re])), (lg, .inr (0, [.ref lc, .ref lt, .int (nI k)])), (lc, .inl (cI, 36, .inl cs)), (lt, .inl (cI, 36, .inl ts)), (ob, .inl (cJ, 1, .inr (.inl ov)))]) [1, 2, 3, 4, 0] (by decide) rfl
    obtain rfl : E = nIOB := hb9.1
    refine vx_catch (own := RL) (name := nIOB) hown [] ⟨0, 10, 13, 13⟩ [] (htb.trans rfl) (fun z hz => nomatch hz) (by decide) (by decide) (hts (.classLink RL 13 nIOB) (by decide +kernel)) (va_Nw.use rfl hEX.2.1) hce hcv hcl ?_
    refine lv_astore (lv' := [(4, .ref q9), (0, .ref h0), (1, .int v), (2, .int 2), (3, .ref ob)]) hx hb dL_textAt_13 hl (by decide) rfl (fun ls hl => ?_)
    refine lv_iconst (v := 1) hx hb dL_textAt_15 (by decide) ?_
    refine W.widen (k := 2) (n := 12) (Nat.le_of_ble_eq_true rfl) (Nat.le_of_ble_eq_true rfl) ?_
    refine W.iret (v := 1) hx hb hr (fun tt ht hW => ⟨⟨1, (), rfl, ?_, by rw [ht]; exact hP, va_K.moved hW.alike hK, hD⟩, hS.F ht⟩) hS.2.2 dL_textAt_16
    exact rfl
  · try dsimp only at hw5
    obtain ⟨j, tn, h1, h2, h3, h4, _⟩ := hw5; exact absurd ⟨j, h1, h2, fun h => nI_ne_m1 (by omega) (h4.symm.trans h)⟩ hbad

set_option maxHeartbeats 400000 in
set_option maxRecDepth 100000 in
theorem c_L_textAt_ok3 (l : Launch) (hltr : l.stackTraces = false) (D : va_G) (cI cJ : ClassId) (sz : Nat) (h0 lg lc lt fs ps : Nat) (fa fb : Int64) (mt re : Int32) (cs ts : Nat → Int32) (k : Nat) (hk : k ≤ 36) (ob : Nat) (ov : Nat → Int64) (v : Int32) (htx : ∀ j, j < k → ¬ ts j = (-1) → ∃ tn, tn < 8 ∧ ts j = nI tn) (hok : ∃ j, j < k ∧ v = nI j ∧ ¬ ts j = (-1)) : Met l yL_textAt wsL_textAt ({ frames := 8, cells := 2, slots := 12, locals := 133 } : Room) (va_Pc [.ref h0, .int v, .int 3, .ref ob] (px_N (px_X (va_A [(h0, .inr (3, [.ref lg, .ref fs, .ref ps, .long fa, .long fb, .int mt, .int re])), (lg, .inr (0, [.ref lc, .ref lt, .int (nI k)])), (lc, .inl (cI, 36, .inl cs)), (lt, .inl (cI, 36, .inl ts)), (ob, .inl (cJ, 1, .inr (.inl ov)))] sz) (pv_C D cI cJ [(h0, .inr (3, [.ref lg, .ref fs, .ref ps, .long fa, .long fb, .int mt, .int re])), (lg, .inr (0, [.ref lc, .ref lt, .int (nI k)])), (lc, .inl (cI, 36, .inl cs)), (lt, .inl (cI, 36, .inl ts)), (ob, .inl (cJ, 1, .inr (.inl ov)))] sz)))) (va_Qi (fun (r : Int32) (u : (Int32)) => r = 0 ∧ (∃ j tn, j < k ∧ v = nI j ∧ tn < 8 ∧ ts j = nI tn ∧ u = (if tn % 2 = 0 then 82 else 76))) (fun (u : (Int32)) => pv_B D cI cJ (va_A [(h0, .inr (3, [.ref lg, .ref fs, .ref ps, .long fa, .long fb, .int mt, .int re])), (lg, .inr (0, [.ref lc, .ref lt, .int (nI k)])), (lc, .inl (cI, 36, .inl cs)), (lt, .inl (cI, 36, .inl ts)), (ob, .inl (cJ, 1, .inr (.inl ov)))] sz) [(h0, .inr (3, [.ref lg, .ref fs, .ref ps, .long fa, .long fb, .int mt, .int re])), (lg, .inr (0, [.ref lc, .ref lt, .int (nI k)])), (lc, .inl (cI, 36, .inl cs)), (lt, .inl (cI, 36, .inl ts)), (ob, .inl (cJ, 1, .inr (.inl (vp_updL ov 0 (u).toInt64))))]) (va_A [(h0, .inr (3, [.ref lg, .ref fs, .ref ps, .long fa, .long fb, .int mt, .int re])), (lg, .inr (0, [.ref lc, .ref lt, .int (nI k)])), (lc, .inl (cI, 36, .inl cs)), (lt, .inl (cI, 36, .inl ts)), (ob, .inl (cJ, 1, .inr (.inl ov)))] sz)) 2 12 (va_A [(h0, .inr (3, [.ref lg, .ref fs, .ref ps, .long fa, .long fb, .int mt, .int re])), (lg, .inr (0, [.ref lc, .ref lt, .int (nI k)])), (lc, .inl (cI, 36, .inl cs)), (lt, .inl (cI, 36, .inl ts)), (ob, .inl (cJ, 1, .inr (.inl ov)))] sz) := by
  refine va_MetW (cc := cL_textAt) (maxL := 5) (ret := (some .int)) (hh := [(0, 10, 13, 13)]) (by decide) rfl ?_
  intro p e s m args below meth c s₁ B hml hv
  obtain ⟨rfl, hNC, hEN, hEX, hZ, rfl, hP, hK, hD0⟩ := hv
  have hx := B.exec
  have hb := B.bytes
  have hr := B.returns
  have hts := atoms_spec (ws := wsL_textAt) B.pre
  have hown : s.vm.findClass RL = some m.cls := findClass_of_methodNamed B.named
  have hlocks := B.notSynchronized
  have htb := vx_table (x := yL_textAt) B (hts _ (List.mem_of_getElem? (i := 0) rfl))
  have hD := hD0.self (sz := s.heap.size)
  generalize hAe : va_A [(h0, .inr (3, [.ref lg, .ref fs, .ref ps, .long fa, .long fb, .int mt, .int re])), (lg, .inr (0, [.ref lc, .ref lt, .int (nI k)])), (lc, .inl (cI, 36, .inl cs)), (lt, .inl (cI, 36, .inl ts)), (ob, .inl (cJ, 1, .inr (.inl ov)))] s.heap.size = A at hD hZ ⊢
  have hA : ∀ q : Nat, s.heap.size ≤ q → A q := fun q h => by rw [← hAe]; exact Or.inr h
  have hS : va_S A s.heap s.heap [] := va_S.rf
  have hl := lv_entry ([.ref h0, .int v, .int 3, .ref ob]) (n := 5) (Nat.le_of_ble_eq_true rfl)
  rw [lg_entry_eq]
  generalize (lg_sl ([.ref h0, .int v, .int 3, .ref ob]) ++ List.replicate (5 - (lg_sl ([.ref h0, .int v, .int 3, .ref ob])).length) Slot.unset).toArray = ls at hl ⊢
  have hl : lv_has ls 5 [(0, .ref h0), (1, .int v), (2, .int 3), (3, .ref ob)] := hl
  refine lv_aload_n hx hb dL_textAt_0 rfl (lv_at hl 3 rfl) ?_
  refine lv_iconst (v := 0) hx hb dL_textAt_1 (by decide) ?_
  refine lv_aload_n hx hb dL_textAt_2 rfl (lv_at hl 0 rfl) ?_
  refine lv_iload_n hx hb dL_textAt_3 rfl (lv_at hl 1 rfl) ?_
  refine lv_iload_n hx hb dL_textAt_4 rfl (lv_at hl 2 rfl) ?_
  have hPc : va_P D vwCl [(h0, .inr (3, [.ref lg, .ref fs, .ref ps, .long fa, .long fb, .int mt, .int re])), (lg, .inr (0, [.ref lc, .ref lt, .int (nI k)])), (lc, .inl (cI, 36, .inl cs)), (lt, .inl (cI, 36, .inl ts))] s.heap := hP.sub (ws' := [(h0, .inr (3, [.ref lg, .ref fs, .ref ps, .long fa, .long fb, .int mt, .int re])), (lg, .inr (0, [.ref lc, .ref lt, .int (nI k)])), (lc, .inl (cI, 36, .inl cs)), (lt, .inl (cI, 36, .inl ts))]) [0, 1, 2, 3] rfl
  have hDc : va_D A [(h0, .inr (3, [.ref lg, .ref fs, .ref ps, .long fa, .long fb, .int mt, .int re])), (lg, .inr (0, [.ref lc, .ref lt, .int (nI k)])), (lc, .inl (cI, 36, .inl cs)), (lt, .inl (cI, 36, .inl ts))] := hD.sub (ws' := [(h0, .inr (3, [.ref lg, .ref fs, .ref ps, .long fa, .long fb, .int mt, .int re])), (lg, .inr (0, [.ref lc, .ref lt, .int (nI k)])), (lc, .inl (cI, 36, .inl cs)), (lt, .inl (cI, 36, .inl ts))]) [0, 1, 2, 3] (by decide) rfl
  have hFc := va_free (wc := [(h0, .inr (3, [.ref lg, .ref fs, .ref ps, .long fa, .long fb, .int mt, .int re])), (lg, .inr (0, [.ref lc, .ref lt, .int (nI k)])), (lc, .inl (cI, 36, .inl cs)), (lt, .inl (cI, 36, .inl ts))]) hD hS hA [0, 1, 2, 3] rfl
  refine vx_calli (vx_runV (As := [.int v, .int 3]) (rest := [.int 0, .ref ob]) ⟨hx, hb, hml, hown, hts⟩ (c_X6_textAt_3 l hltr D cI cJ s.heap.size  h0 lg lc lt fs ps fa fb mt re cs ts k (by omega) v htx) (cwV 2 hts gL_textAt_X6_textAt rfl rfl rfl (by decide +kernel) ⟨Nat.le_of_ble_eq_true rfl, Nat.le_of_ble_eq_true rfl⟩) ⟨(px_blindX pv_blind), va_recv hK hPc (ci := 3) (q0 := 0) rfl rfl, fun U hU hW => ⟨rfl, hEX.warm hW, by rw [hU]; exact hZ.to hS hW.alike hFc, by rw [hU], by rw [hU]; exact hPc, va_K.moved hW.alike hK, hDc.weaken (fun _ _ _ _ => trivial)⟩⟩ rfl rfl hl.1 rfl (lv_room (Nat.le_of_ble_eq_true rfl)) dL_textAt_5 ⟨(Nat.le_of_ble_eq_true rfl), (Nat.le_of_ble_eq_true rfl)⟩) hS (fun q _ h => hFc q h) hFc (fun q _ h => hFc q h) (fun E ce q9 u9 t9 H1 locs hth hvm hpx hB9 hz1 hk1 hS hce hcv hcl => ?_) (fun r5 u t9 H1 locs hth hvm hw5 hB9 hz1 hk1 hS => ?_)
  · obtain ⟨hb9, hP1, hK1, hD1⟩ := hB9
    rw [hth] at hP1
    obtain ⟨hP, hD⟩ := va_join (wr := [(ob, .inl (cJ, 1, .inr (.inl ov)))]) (w1 := [(h0, .inr (3, [.ref lg, .ref fs, .ref ps, .long fa, .long fb, .int mt, .int re])), (lg, .inr (0, [.ref lc, .ref lt, .int (nI k)])), (lc, .inl (cI, 36, .inl cs)), (lt, .inl (cI, 36, .inl ts))]) hP hD [0, 1, 2, 3] [4] rfl rfl (by decide) (by decide) hk1 hFc hP1 hD1
    have hP : va_P D vwCl [(h0, .inr (3, [.ref lg, .ref fs, .ref ps, .long fa, .long fb, .int mt, .int re])), (lg, .inr (0, [.ref lc, .ref lt, .int (nI k)])), (lc, .inl (cI, 36, .inl cs)), (lt, .inl (cI, 36, .inl ts)), (ob, .inl (cJ, 1, .inr (.inl ov)))] H1 := hP.sub (ws' := [(h0, .inr (3, [.ref lg, .ref fs, .ref ps, .long fa, .long fb, .int mt, .int re])), (lg, .inr (0, [.ref lc, .ref lt, .int (nI k)])), (lc, .inl (cI, 36, .inl cs)), (lt, .inl (cI, 36, .inl ts)), (ob, .inl (cJ, 1, .inr (.inl ov)))]) [1, 2, 3, 4, 0] rfl
    have hD : va_D A [(h0, .inr (3, [.ref lg, .ref fs, .ref ps, .long fa, .long fb, .int mt, .int re])), (lg, .inr (0, [.ref lc, .ref lt, .int (nI k)])), (lc, .inl (cI, 36, .inl cs)), (lt, .inl (cI, 36, .inl ts)), (ob, .inl (cJ, 1, .inr (.inl ov)))] := hD.sub (ws' := [(h0, .inr (3, [.ref lg, .ref fs, .ref ps, .long fa, .long fb, .int mt, .int re])), (lg, .inr (0, [.ref lc, .ref lt, .int (nI k)])), (lc, .inl (cI, 36, .inl cs)), (lt, .inl (cI, 36, .inl ts)), (ob, .inl (cJ, 1, .inr (.inl ov)))]) [1, 2, 3, 4, 0] (by decide) rfl
    exact (absurd hok hb9.2)
  · try dsimp only at hw5
    obtain ⟨hP1, hK1, hD1⟩ := hB9
    rw [hth] at hP1
    obtain ⟨hP, hD⟩ := va_join (wr := [(ob, .inl (cJ, 1, .inr (.inl ov)))]) (w1 := [(h0, .inr (3, [.ref lg, .ref fs, .ref ps, .long fa, .long fb, .int mt, .int re])), (lg, .inr (0, [.ref lc, .ref lt, .int (nI k)])), (lc, .inl (cI, 36, .inl cs)), (lt, .inl (cI, 36, .inl ts))]) hP hD [0, 1, 2, 3] [4] rfl rfl (by decide) (by decide) hk1 hFc hP1 hD1
    generalize H1 = H at hP hS ⊢
    have hP : va_P D vwCl [(h0, .inr (3, [.ref lg, .ref fs, .ref ps, .long fa, .long fb, .int mt, .int re])), (lg, .inr (0, [.ref lc, .ref lt, .int (nI k)])), (lc, .inl (cI, 36, .inl cs)), (lt, .inl (cI, 36, .inl ts)), (ob, .inl (cJ, 1, .inr (.inl ov)))] H := hP.sub (ws' := [(h0, .inr (3, [.ref lg, .ref fs, .ref ps, .long fa, .long fb, .int mt, .int re])), (lg, .inr (0, [.ref lc, .ref lt, .int (nI k)])), (lc, .inl (cI, 36, .inl cs)), (lt, .inl (cI, 36, .inl ts)), (ob, .inl (cJ, 1, .inr (.inl ov)))]) [1, 2, 3, 4, 0] rfl
    have hD : va_D A [(h0, .inr (3, [.ref lg, .ref fs, .ref ps, .long fa, .long fb, .int mt, .int re])), (lg, .inr (0, [.ref lc, .ref lt, .int (nI k)])), (lc, .inl (cI, 36, .inl cs)), (lt, .inl (cI, 36, .inl ts)), (ob, .inl (cJ, 1, .inr (.inl ov)))] := hD.sub (ws' := [(h0, .inr (3, [.ref lg, .ref fs, .ref ps, .long fa, .long fb, .int mt, .int re])), (lg, .inr (0, [.ref lc, .ref lt, .int (nI k)])), (lc, .inl (cI, 36, .inl cs)), (lt, .inl (cI, 36, .inl ts)), (ob, .inl (cJ, 1, .inr (.inl ov)))]) [1, 2, 3, 4, 0] (by decide) rfl
    refine lv_i2l (v := (r5 : Int32).toInt64) hx hb dL_textAt_8 rfl ?_
    refine lv_topl (fun x8 ex8 => ?_)
    refine va_last hx hb hK hP hD hS 4 1 rfl rfl (vp_in_nI (n := 0) (N := 1) (by omega) (by decide)) dL_textAt_9 (fun H locs hP hD hS => ?_)
    have hu9 : (0 : Int32).toNatClampNeg = 0 := pk_cl 0
    rw [hu9] at hP hD
    have hP : va_P D vwCl [(h0, .inr (3, [.ref lg, .ref fs, .ref ps, .long fa, .long fb, .int mt, .int re])), (lg, .inr (0, [.ref lc, .ref lt, .int (nI k)])), (lc, .inl (cI, 36, .inl cs)), (lt, .inl (cI, 36, .inl ts)), (ob, .inl (cJ, 1, .inr (.inl (vp_updL ov 0 x8))))] H := hP
    have hD : va_D A [(h0, .inr (3, [.ref lg, .ref fs, .ref ps, .long fa, .long fb, .int mt, .int re])), (lg, .inr (0, [.ref lc, .ref lt, .int (nI k)])), (lc, .inl (cI, 36, .inl cs)), (lt, .inl (cI, 36, .inl ts)), (ob, .inl (cJ, 1, .inr (.inl (vp_updL ov 0 x8))))] := hD
    refine lv_goto (tgt := 17) hx hb dL_textAt_10 (by decide) ?_
    refine lv_iconst (v := 0) hx hb dL_textAt_17 (by decide) ?_
    obtain rfl := ex8.symm
    refine W.widen (k := 2) (n := 12) (Nat.le_of_ble_eq_true rfl) (Nat.le_of_ble_eq_true rfl) ?_
    refine W.iret (v := 0) hx hb hr (fun tt ht hW => ⟨⟨0, r5, rfl, ?_, by rw [ht]; exact hP, va_K.moved hW.alike hK, hD⟩, hS.F ht⟩) hS.2.2 dL_textAt_18
    exact ⟨rfl, hw5⟩

set_option maxHeartbeats 400000 in
set_option maxRecDepth 100000 in
theorem c_L_textAt_no3 (l : Launch) (hltr : l.stackTraces = false) (D : va_G) (cI cJ : ClassId) (sz : Nat) (h0 lg lc lt fs ps : Nat) (fa fb : Int64) (mt re : Int32) (cs ts : Nat → Int32) (k : Nat) (hk : k ≤ 36) (ob : Nat) (ov : Nat → Int64) (v : Int32) (htx : ∀ j, j < k → ¬ ts j = (-1) → ∃ tn, tn < 8 ∧ ts j = nI tn) (hbad : ¬ ∃ j, j < k ∧ v = nI j ∧ ¬ ts j = (-1)) : Met l yL_textAt wsL_textAt ({ frames := 8, cells := 2, slots := 12, locals := 133 } : Room) (va_Pc [.ref h0, .int v, .int 3, .ref ob] (px_N (px_X (va_A [(h0, .inr (3, [.ref lg, .ref fs, .ref ps, .long fa, .long fb, .int mt, .int re])), (lg, .inr (0, [.ref lc, .ref lt, .int (nI k)])), (lc, .inl (cI, 36, .inl cs)), (lt, .inl (cI, 36, .inl ts)), (ob, .inl (cJ, 1, .inr (.inl ov)))] sz) (pv_C D cI cJ [(h0, .inr (3, [.ref lg, .ref fs, .ref ps, .long fa, .long fb, .int mt, .int re])), (lg, .inr (0, [.ref lc, .ref lt, .int (nI k)])), (lc, .inl (cI, 36, .inl cs)), (lt, .inl (cI, 36, .inl ts)), (ob, .inl (cJ, 1, .inr (.inl ov)))] sz)))) (va_Qi (fun (r : Int32) (u : Unit) => r = 1) (fun (u : Unit) => pv_B D cI cJ (va_A [(h0, .inr (3, [.ref lg, .ref fs, .ref ps, .long fa, .long fb, .int mt, .int re])), (lg, .inr (0, [.ref lc, .ref lt, .int (nI k)])), (lc, .inl (cI, 36, .inl cs)), (lt, .inl (cI, 36, .inl ts)), (ob, .inl (cJ, 1, .inr (.inl ov)))] sz) [(h0, .inr (3, [.ref lg, .ref fs, .ref ps, .long fa, .long fb, .int mt, .int re])), (lg, .inr (0, [.ref lc, .ref lt, .int (nI k)])), (lc, .inl (cI, 36, .inl cs)), (lt, .inl (cI, 36, .inl ts)), (ob, .inl (cJ, 1, .inr (.inl ov)))]) (va_A [(h0, .inr (3, [.ref lg, .ref fs, .ref ps, .long fa, .long fb, .int mt, .int re])), (lg, .inr (0, [.ref lc, .ref lt, .int (nI k)])), (lc, .inl (cI, 36, .inl cs)), (lt, .inl (cI, 36, .inl ts)), (ob, .inl (cJ, 1, .inr (.inl ov)))] sz)) 2 12 (va_A [(h0, .inr (3, [.ref lg, .ref fs, .ref ps, .long fa, .long fb, .int mt, .int re])), (lg, .inr (0, [.ref lc, .ref lt, .int (nI k)])), (lc, .inl (cI, 36, .inl cs)), (lt, .inl (cI, 36, .inl ts)), (ob, .inl (cJ, 1, .inr (.inl ov)))] sz) := by
  refine va_MetW (cc := cL_textAt) (maxL := 5) (ret := (some .int)) (hh := [(0, 10, 13, 13)]) (by decide) rfl ?_
  intro p e s m args below meth c s₁ B hml hv
  obtain ⟨rfl, hNC, hEN, hEX, hZ, rfl, hP, hK, hD0⟩ := hv
  have hx := B.exec
  have hb := B.bytes
  have hr := B.returns
  have hts := atoms_spec (ws := wsL_textAt) B.pre
  have hown : s.vm.findClass RL = some m.cls := findClass_of_methodNamed B.named
  have hlocks := B.notSynchronized
  have htb := vx_table (x := yL_textAt) B (hts _ (List.mem_of_getElem? (i := 0) rfl))
  have hD := hD0.self (sz := s.heap.size)
  generalize hAe : va_A [(h0, .inr (3, [.ref lg, .ref fs, .ref ps, .long fa, .long fb, .int mt, .int re])), (lg, .inr (0, [.ref lc, .ref lt, .int (nI k)])), (lc, .inl (cI, 36, .inl cs)), (lt, .inl (cI, 36, .inl ts)), (ob, .inl (cJ, 1, .inr (.inl ov)))] s.heap.size = A at hD hZ ⊢
  have hA : ∀ q : Nat, s.heap.size ≤ q → A q := fun q h => by rw [← hAe]; exact Or.inr h
  have hS : va_S A s.heap s.heap [] := va_S.rf
  have hl := lv_entry ([.ref h0, .int v, .int 3, .ref ob]) (n := 5) (Nat.le_of_ble_eq_true rfl)
  rw [lg_entry_eq]
  generalize (lg_sl ([.ref h0, .int v, .int 3, .ref ob]) ++ List.replicate (5 - (lg_sl ([.ref h0, .int v, .int 3, .ref ob])).length) Slot.unset).toArray = ls at hl ⊢
  have hl : lv_has ls 5 [(0, .ref h0), (1, .int v), (2, .int 3), (3, .ref ob)] := hl
  refine lv_aload_n hx hb dL_textAt_0 rfl (lv_at hl 3 rfl) ?_
  refine lv_iconst (v := 0) hx hb dL_textAt_1 (by decide) ?_
  refine lv_aload_n hx hb dL_textAt_2 rfl (lv_at hl 0 rfl) ?_
  refine lv_iload_n hx hb dL_textAt_3 rfl (lv_at hl 1 rfl) ?_
  refine lv_iload_n hx hb dL_textAt_4 rfl (lv_at hl 2 rfl) ?_
  have hPc : va_P D vwCl [(h0, .inr (3, [.ref lg, .ref fs, .ref ps, .long fa, .long fb, .int mt, .int re])), (lg, .inr (0, [.ref lc, .ref lt, .int (nI k)])), (lc, .inl (cI, 36, .inl cs)), (lt, .inl (cI, 36, .inl ts))] s.heap := hP.sub (ws' := [(h0, .inr (3, [.ref lg, .ref fs, .ref ps, .long fa, .long fb, .int mt, .int re])), (lg, .inr (0, [.ref lc, .ref lt, .int (nI k)])), (lc, .inl (cI, 36, .inl cs)), (lt, .inl (cI, 36, .inl ts))]) [0, 1, 2, 3] rfl
  have hDc : va_D A [(h0, .inr (3, [.ref lg, .ref fs, .ref ps, .long fa, .long fb, .int mt, .int re])), (lg, .inr (0, [.ref lc, .ref lt, .int (nI k)])), (lc, .inl (cI, 36, .inl cs)), (lt, .inl (cI, 36, .inl ts))] := hD.sub (ws' := [(h0, .inr (3, [.ref lg, .ref fs, .ref ps, .long fa, .long fb, .int mt, .int re])), (lg, .inr (0, [.ref lc, .ref lt, .int (nI k)])), (lc, .inl (cI, 36, .inl cs)), (lt, .inl (cI, 36, .inl ts))]) [0, 1, 2, 3] (by decide) rfl
  have hFc := va_free (wc := [(h0, .inr (3, [.ref lg, .ref fs, .ref ps, .long fa, .long fb, .int mt, .int re])), (lg, .inr (0, [.ref lc, .ref lt, .int (nI k)])), (lc, .inl (cI, 36, .inl cs)), (lt, .inl (cI, 36, .inl ts))]) hD hS hA [0, 1, 2, 3] rfl
  refine vx_calli (vx_runV (As := [.int v, .int 3]) (rest := [.int 0, .ref ob]) ⟨hx, hb, hml, hown, hts⟩ (c_X6_textAt_3 l hltr D cI cJ s.heap.size  h0 lg lc lt fs ps fa fb mt re cs ts k (by omega) v htx) (cwV 2 hts gL_textAt_X6_textAt rfl rfl rfl (by decide +kernel) ⟨Nat.le_of_ble_eq_true rfl, Nat.le_of_ble_eq_true rfl⟩) ⟨(px_blindX pv_blind), va_recv hK hPc (ci := 3) (q0 := 0) rfl rfl, fun U hU hW => ⟨rfl, hEX.warm hW, by rw [hU]; exact hZ.to hS hW.alike hFc, by rw [hU], by rw [hU]; exact hPc, va_K.moved hW.alike hK, hDc.weaken (fun _ _ _ _ => trivial)⟩⟩ rfl rfl hl.1 rfl (lv_room (Nat.le_of_ble_eq_true rfl)) dL_textAt_5 ⟨(Nat.le_of_ble_eq_true rfl), (Nat.le_of_ble_eq_true rfl)⟩) hS (fun q _ h => hFc q h) hFc (fun q _ h => hFc q h) (fun E ce q9 u9 t9 H1 locs hth hvm hpx hB9 hz1 hk1 hS hce hcv hcl => ?_) (fun r5 u t9 H1 locs hth hvm hw5 hB9 hz1 hk1 hS => ?_)
  · obtain ⟨hb9, hP1, hK1, hD1⟩ := hB9
    rw [hth] at hP1
    obtain ⟨hP, hD⟩ := va_join (wr := [(ob, .inl (cJ, 1, .inr (.inl ov)))]) (w1 := [(h0, .inr (3, [.ref lg, .ref fs, .ref ps, .long fa, .long fb, .int mt, .int re])), (lg, .inr (0, [.ref lc, .ref lt, .int (nI k)])), (lc, .inl (cI, 36, .inl cs)), (lt, .inl (cI, 36, .inl ts))]) hP hD [0, 1, 2, 3] [4] rfl rfl (by decide) (by decide) hk1 hFc hP1 hD1
    have hP : va_P D vwCl [(h0, .inr (3, [.ref lg, .ref fs, .ref ps, .long fa, .long fb, .int mt, .int re])), (lg, .inr (0, [.ref lc, .ref lt, .int (nI k)])), (lc, .inl (cI, 36, .inl cs)), (lt, .inl (cI, 36, .inl ts)), (ob, .inl (cJ, 1, .inr (.inl ov)))] H1 := hP.sub (ws' := [(h0, .inr (3, [.ref lg, .ref fs, .ref ps, .long fa, .long fb, .int mt, .int re])), (lg, .inr (0, [.ref lc, .ref lt, .int (nI k)])), (lc, .inl (cI, 36, .inl cs)), (lt, .inl (cI, 36, .inl ts)), (ob, .inl (cJ, 1, .inr (.inl ov)))]) [1, 2, 3, 4, 0] rfl
    have hD : va_D A [(h0, .inr (3, [.ref lg, .ref fs, .ref ps, .long fa, .long fb, .int mt, .int re])), (lg, .inr (0, [.ref lc, .ref lt, .int (nI k)])), (lc, .inl (cI, 36, .inl cs)), (lt, .inl (cI, 36, .inl ts)), (ob, .inl (cJ, 1, .inr (.inl ov)))] := hD.sub (ws' := [(h0, .inr (3, [.ref lg, .ref fs, .ref ps, .long fa, .long fb, .int mt, .int re])), (lg, .inr (0, [.ref lc, .ref lt, .int (nI k)])), (lc, .inl (cI, 36, .inl cs)), (lt, .inl (cI, 36, .inl ts)), (ob, .inl (cJ, 1, .inr (.inl ov)))]) [1, 2, 3, 4, 0] (by decide) rfl
    obtain rfl : E = nIOB := hb9.1
    refine vx_catch (own := RL) (name := nIOB) hown [] ⟨0, 10, 13, 13⟩ [] (htb.trans rfl) (fun z hz => nomatch hz) (by decide) (by decide) (hts (.classLink RL 13 nIOB) (by decide +kernel)) (va_Nw.use rfl hEX.2.1) hce hcv hcl ?_
    refine lv_astore (lv' := [(4, .ref q9), (0, .ref h0), (1, .int v), (2, .int 3), (3, .ref ob)]) hx hb dL_textAt_13 hl (by decide) rfl (fun ls hl => ?_)
    refine lv_iconst (v := 1) hx hb dL_textAt_15 (by decide) ?_
    refine W.widen (k := 2) (n := 12) (Nat.le_of_ble_eq_true rfl) (Nat.le_of_ble_eq_true rfl) ?_
    refine W.iret (v := 1) hx hb hr (fun tt ht hW => ⟨⟨1, (), rfl, ?_, by rw [ht]; exact hP, va_K.moved hW.alike hK, hD⟩, hS.F ht⟩) hS.2.2 dL_textAt_16
    exact rfl
  · try dsimp only at hw5
    obtain ⟨j, tn, h1, h2, h3, h4, _⟩ := hw5; exact absurd ⟨j, h1, h2, fun h => nI_ne_m1 (by omega) (h4.symm.trans h)⟩ hbad

set_option maxHeartbeats 400000 in
set_option maxRecDepth 100000 in
theorem c_L_textAt_bad (l : Launch) (hltr : l.stackTraces = false) (D : va_G) (cI cJ : ClassId) (sz : Nat) (h0 lg lc lt fs ps : Nat) (fa fb : Int64) (mt re : Int32) (cs ts : Nat → Int32) (k : Nat) (hk : k ≤ 36) (ob : Nat) (ov : Nat → Int64) (v v2 : Int32) (h2 : ¬ (0 ≤ v2 ∧ v2 ≤ 3)) : Met l yL_textAt wsL_textAt ({ frames := 8, cells := 2, slots := 12, locals := 133 } : Room) (va_Pc [.ref h0, .int v, .int v2, .ref ob] (px_N (px_X (va_A [(h0, .inr (3, [.ref lg, .ref fs, .ref ps, .long fa, .long fb, .int mt, .int re])), (lg, .inr (0, [.ref lc, .ref lt, .int (nI k)])), (lc, .inl (cI, 36, .inl cs)), (lt, .inl (cI, 36, .inl ts)), (ob, .inl (cJ, 1, .inr (.inl ov)))] sz) (pv_C D cI cJ [(h0, .inr (3, [.ref lg, .ref fs, .ref ps, .long fa, .long fb, .int mt, .int re])), (lg, .inr (0, [.ref lc, .ref lt, .int (nI k)])), (lc, .inl (cI, 36, .inl cs)), (lt, .inl (cI, 36, .inl ts)), (ob, .inl (cJ, 1, .inr (.inl ov)))] sz)))) (va_Qi (fun (r : Int32) (u : Unit) => r = 1) (fun (u : Unit) => pv_B D cI cJ (va_A [(h0, .inr (3, [.ref lg, .ref fs, .ref ps, .long fa, .long fb, .int mt, .int re])), (lg, .inr (0, [.ref lc, .ref lt, .int (nI k)])), (lc, .inl (cI, 36, .inl cs)), (lt, .inl (cI, 36, .inl ts)), (ob, .inl (cJ, 1, .inr (.inl ov)))] sz) [(h0, .inr (3, [.ref lg, .ref fs, .ref ps, .long fa, .long fb, .int mt, .int re])), (lg, .inr (0, [.ref lc, .ref lt, .int (nI k)])), (lc, .inl (cI, 36, .inl cs)), (lt, .inl (cI, 36, .inl ts)), (ob, .inl (cJ, 1, .inr (.inl ov)))]) (va_A [(h0, .inr (3, [.ref lg, .ref fs, .ref ps, .long fa, .long fb, .int mt, .int re])), (lg, .inr (0, [.ref lc, .ref lt, .int (nI k)])), (lc, .inl (cI, 36, .inl cs)), (lt, .inl (cI, 36, .inl ts)), (ob, .inl (cJ, 1, .inr (.inl ov)))] sz)) 2 12 (va_A [(h0, .inr (3, [.ref lg, .ref fs, .ref ps, .long fa, .long fb, .int mt, .int re])), (lg, .inr (0, [.ref lc, .ref lt, .int (nI k)])), (lc, .inl (cI, 36, .inl cs)), (lt, .inl (cI, 36, .inl ts)), (ob, .inl (cJ, 1, .inr (.inl ov)))] sz) := by
  refine va_MetW (cc := cL_textAt) (maxL := 5) (ret := (some .int)) (hh := [(0, 10, 13, 13)]) (by decide) rfl ?_
  intro p e s m args below meth c s₁ B hml hv
  obtain ⟨rfl, hNC, hEN, hEX, hZ, rfl, hP, hK, hD0⟩ := hv
  have hx := B.exec
  have hb := B.bytes
  have hr := B.returns
  have hts := atoms_spec (ws := wsL_textAt) B.pre
  have hown : s.vm.findClass RL = some m.cls := findClass_of_methodNamed B.named
  have hlocks := B.notSynchronized
  have htb := vx_table (x := yL_textAt) B (hts _ (List.mem_of_getElem? (i := 0) rfl))
  have hD := hD0.self (sz := s.heap.size)
  generalize hAe : va_A [(h0, .inr (3, [.ref lg, .ref fs, .ref ps, .long fa, .long fb, .int mt, .int re])), (lg, .inr (0, [.ref lc, .ref lt, .int (nI k)])), (lc, .inl (cI, 36, .inl cs)), (lt, .inl (cI, 36, .inl ts)), (ob, .inl (cJ, 1, .inr (.inl ov)))] s.heap.size = A at hD hZ ⊢
  have hA : ∀ q : Nat, s.heap.size ≤ q → A q := fun q h => by rw [← hAe]; exact Or.inr h
  have hS : va_S A s.heap s.heap [] := va_S.rf
  have hl := lv_entry ([.ref h0, .int v, .int v2, .ref ob]) (n := 5) (Nat.le_of_ble_eq_true rfl)
  rw [lg_entry_eq]
  generalize (lg_sl ([.ref h0, .int v, .int v2, .ref ob]) ++ List.replicate (5 - (lg_sl ([.ref h0, .int v, .int v2, .ref ob])).length) Slot.unset).toArray = ls at hl ⊢
  have hl : lv_has ls 5 [(0, .ref h0), (1, .int v), (2, .int v2), (3, .ref ob)] := hl
  refine lv_aload_n hx hb dL_textAt_0 rfl (lv_at hl 3 rfl) ?_
  refine lv_iconst (v := 0) hx hb dL_textAt_1 (by decide) ?_
  refine lv_aload_n hx hb dL_textAt_2 rfl (lv_at hl 0 rfl) ?_
  refine lv_iload_n hx hb dL_textAt_3 rfl (lv_at hl 1 rfl) ?_
  refine lv_iload_n hx hb dL_textAt_4 rfl (lv_at hl 2 rfl) ?_
  have hPc : va_P D vwCl [(h0, .inr (3, [.ref lg, .ref fs, .ref ps, .long fa, .long fb, .int mt, .int re])), (lg, .inr (0, [.ref lc, .ref lt, .int (nI k)])), (lc, .inl (cI, 36, .inl cs)), (lt, .inl (cI, 36, .inl ts))] s.heap := hP.sub (ws' := [(h0, .inr (3, [.ref lg, .ref fs, .ref ps, .long fa, .long fb, .int mt, .int re])), (lg, .inr (0, [.ref lc, .ref lt, .int (nI k)])), (lc, .inl (cI, 36, .inl cs)), (lt, .inl (cI, 36, .inl ts))]) [0, 1, 2, 3] rfl
  have hDc : va_D A [(h0, .inr (3, [.ref lg, .ref fs, .ref ps, .long fa, .long fb, .int mt, .int re])), (lg, .inr (0, [.ref lc, .ref lt, .int (nI k)])), (lc, .inl (cI, 36, .inl cs)), (lt, .inl (cI, 36, .inl ts))] := hD.sub (ws' := [(h0, .inr (3, [.ref lg, .ref fs, .ref ps, .long fa, .long fb, .int mt, .int re])), (lg, .inr (0, [.ref lc, .ref lt, .int (nI k)])), (lc, .inl (cI, 36, .inl cs)), (lt, .inl (cI, 36, .inl ts))]) [0, 1, 2, 3] (by decide) rfl
  have hFc := va_free (wc := [(h0, .inr (3, [.ref lg, .ref fs, .ref ps, .long fa, .long fb, .int mt, .int re])), (lg, .inr (0, [.ref lc, .ref lt, .int (nI k)])), (lc, .inl (cI, 36, .inl cs)), (lt, .inl (cI, 36, .inl ts))]) hD hS hA [0, 1, 2, 3] rfl
  refine vx_calli (vx_runV (As := [.int v, .int v2]) (rest := [.int 0, .ref ob]) ⟨hx, hb, hml, hown, hts⟩ (c_X6_textAt_bad l hltr D cI cJ s.heap.size  h0 lg lc lt fs ps fa fb mt re cs ts k (by omega) v v2 h2) (cwV 2 hts gL_textAt_X6_textAt rfl rfl rfl (by decide +kernel) ⟨Nat.le_of_ble_eq_true rfl, Nat.le_of_ble_eq_true rfl⟩) ⟨(px_blindX pv_blind), va_recv hK hPc (ci := 3) (q0 := 0) rfl rfl, fun U hU hW => ⟨rfl, hEX.warm hW, by rw [hU]; exact hZ.to hS hW.alike hFc, by rw [hU], by rw [hU]; exact hPc, va_K.moved hW.alike hK, hDc.weaken (fun _ _ _ _ => trivial)⟩⟩ rfl rfl hl.1 rfl (lv_room (Nat.le_of_ble_eq_true rfl)) dL_textAt_5 ⟨(Nat.le_of_ble_eq_true rfl), (Nat.le_of_ble_eq_true rfl)⟩) hS (fun q _ h => hFc q h) hFc (fun q _ h => hFc q h) (fun E ce q9 u9 t9 H1 locs hth hvm hpx hB9 hz1 hk1 hS hce hcv hcl => ?_) (fun r5 u t9 H1 locs hth hvm hw5 hB9 hz1 hk1 hS => ?_)
  · obtain ⟨hb9, hP1, hK1, hD1⟩ := hB9
    rw [hth] at hP1
    obtain ⟨hP, hD⟩ := va_join (wr := [(ob, .inl (cJ, 1, .inr (.inl ov)))]) (w1 := [(h0, .inr (3, [.ref lg, .ref fs, .ref ps, .long fa, .long fb, .int mt, .int re])), (lg, .inr (0, [.ref lc, .ref lt, .int (nI k)])), (lc, .inl (cI, 36, .inl cs)), (lt, .inl (cI, 36, .inl ts))]) hP hD [0, 1, 2, 3] [4] rfl rfl (by decide) (by decide) hk1 hFc hP1 hD1
    have hP : va_P D vwCl [(h0, .inr (3, [.ref lg, .ref fs, .ref ps, .long fa, .long fb, .int mt, .int re])), (lg, .inr (0, [.ref lc, .ref lt, .int (nI k)])), (lc, .inl (cI, 36, .inl cs)), (lt, .inl (cI, 36, .inl ts)), (ob, .inl (cJ, 1, .inr (.inl ov)))] H1 := hP.sub (ws' := [(h0, .inr (3, [.ref lg, .ref fs, .ref ps, .long fa, .long fb, .int mt, .int re])), (lg, .inr (0, [.ref lc, .ref lt, .int (nI k)])), (lc, .inl (cI, 36, .inl cs)), (lt, .inl (cI, 36, .inl ts)), (ob, .inl (cJ, 1, .inr (.inl ov)))]) [1, 2, 3, 4, 0] rfl
    have hD : va_D A [(h0, .inr (3, [.ref lg, .ref fs, .ref ps, .long fa, .long fb, .int mt, .int re])), (lg, .inr (0, [.ref lc, .ref lt, .int (nI k)])), (lc, .inl (cI, 36, .inl cs)), (lt, .inl (cI, 36, .inl ts)), (ob, .inl (cJ, 1, .inr (.inl ov)))] := hD.sub (ws' := [(h0, .inr (3, [.ref lg, .ref fs, .ref ps, .long fa, .long fb, .int mt, .int re])), (lg, .inr (0, [.ref lc, .ref lt, .int (nI k)])), (lc, .inl (cI, 36, .inl cs)), (lt, .inl (cI, 36, .inl ts)), (ob, .inl (cJ, 1, .inr (.inl ov)))]) [1, 2, 3, 4, 0] (by decide) rfl
    obtain rfl : E = nIOB := hb9
    refine vx_catch (own := RL) (name := nIOB) hown [] ⟨0, 10, 13, 13⟩ [] (htb.trans rfl) (fun z hz => nomatch hz) (by decide) (by decide) (hts (.classLink RL 13 nIOB) (by decide +kernel)) (va_Nw.use rfl hEX.2.1) hce hcv hcl ?_
    refine lv_astore (lv' := [(4, .ref q9), (0, .ref h0), (1, .int v), (2, .int v2), (3, .ref ob)]) hx hb dL_textAt_13 hl (by decide) rfl (fun ls hl => ?_)
    refine lv_iconst (v := 1) hx hb dL_textAt_15 (by decide) ?_
    refine W.widen (k := 2) (n := 12) (Nat.le_of_ble_eq_true rfl) (Nat.le_of_ble_eq_true rfl) ?_
    refine W.iret (v := 1) hx hb hr (fun tt ht hW => ⟨⟨1, (), rfl, ?_, by rw [ht]; exact hP, va_K.moved hW.alike hK, hD⟩, hS.F ht⟩) hS.2.2 dL_textAt_16
    exact rfl
  · try dsimp only at hw5
    exact hw5.elim

set_option maxHeartbeats 400000 in
set_option maxRecDepth 100000 in
theorem c_L_foursBehind_ok (l : Launch) (hltr : l.stackTraces = false) (D : va_G) (cI cJ : ClassId) (sz : Nat) (h0 lg fs ps : Nat) (fa fb : Int64) (mt re : Int32) (ob : Nat) (ov : Nat → Int64) (v q y : Int32) (hok : (iside v ∧ iq q) ∧ iw y) : Met l yL_foursBehind wsL_foursBehind ({ frames := 8, cells := 3, slots := 18, locals := 134 } : Room) (va_Pc [.ref h0, .int v, .int q, .int y, .ref ob] (px_N (px_X (va_A [(h0, .inr (3, [.ref lg, .ref fs, .ref ps, .long fa, .long fb, .int mt, .int re])), (ob, .inl (cJ, 1, .inr (.inl ov)))] sz) (pv_C D cI cJ [(h0, .inr (3, [.ref lg, .ref fs, .ref ps, .long fa, .long fb, .int mt, .int re])), (ob, .inl (cJ, 1, .inr (.inl ov)))] sz)))) (va_Qi (fun (r : Int32) (u : (Int32)) => r = 0 ∧ (iside v ∧ ∃ q9 y9, q9 < 4 ∧ y9 < 2 ∧ q = nI q9 ∧ y = nI y9 ∧ u = nI (cfours (cturned (if v = 1 then fa else fb) (2 * q9 + y9)) (cturned (cempty fa fb) (2 * q9 + y9)) 5))) (fun (u : (Int32)) => pv_B D cI cJ (va_A [(h0, .inr (3, [.ref lg, .ref fs, .ref ps, .long fa, .long fb, .int mt, .int re])), (ob, .inl (cJ, 1, .inr (.inl ov)))] sz) [(h0, .inr (3, [.ref lg, .ref fs, .ref ps, .long fa, .long fb, .int mt, .int re])), (ob, .inl (cJ, 1, .inr (.inl (vp_updL ov 0 (u).toInt64))))]) (va_A [(h0, .inr (3, [.ref lg, .ref fs, .ref ps, .long fa, .long fb, .int mt, .int re])), (ob, .inl (cJ, 1, .inr (.inl ov)))] sz)) 3 18 (va_A [(h0, .inr (3, [.ref lg, .ref fs, .ref ps, .long fa, .long fb, .int mt, .int re])), (ob, .inl (cJ, 1, .inr (.inl ov)))] sz) := by
  refine va_MetW (cc := cL_foursBehind) (maxL := 6) (ret := (some .int)) (hh := [(0, 12, 15, 13), (0, 12, 19, 21)]) (by decide) rfl ?_
  intro p e s m args below meth c s₁ B hml hv
  obtain ⟨rfl, hNC, hEN, hEX, hZ, rfl, hP, hK, hD0⟩ := hv
  have hx := B.exec
  have hb := B.bytes
  have hr := B.returns
  have hts := atoms_spec (ws := wsL_foursBehind) B.pre
  have hown : s.vm.findClass RL = some m.cls := findClass_of_methodNamed B.named
  have hlocks := B.notSynchronized
  have htb := vx_table (x := yL_foursBehind) B (hts _ (List.mem_of_getElem? (i := 0) rfl))
  have hD := hD0.self (sz := s.heap.size)
  generalize hAe : va_A [(h0, .inr (3, [.ref lg, .ref fs, .ref ps, .long fa, .long fb, .int mt, .int re])), (ob, .inl (cJ, 1, .inr (.inl ov)))] s.heap.size = A at hD hZ ⊢
  have hA : ∀ q : Nat, s.heap.size ≤ q → A q := fun q h => by rw [← hAe]; exact Or.inr h
  have hS : va_S A s.heap s.heap [] := va_S.rf
  have hl := lv_entry ([.ref h0, .int v, .int q, .int y, .ref ob]) (n := 6) (Nat.le_of_ble_eq_true rfl)
  rw [lg_entry_eq]
  generalize (lg_sl ([.ref h0, .int v, .int q, .int y, .ref ob]) ++ List.replicate (6 - (lg_sl ([.ref h0, .int v, .int q, .int y, .ref ob])).length) Slot.unset).toArray = ls at hl ⊢
  have hl : lv_has ls 6 [(0, .ref h0), (1, .int v), (2, .int q), (3, .int y), (4, .ref ob)] := hl
  refine lv_aload hx hb dL_foursBehind_0 (lv_at hl 4 rfl) ?_
  refine lv_iconst (v := 0) hx hb dL_foursBehind_2 (by decide) ?_
  refine lv_aload_n hx hb dL_foursBehind_3 rfl (lv_at hl 0 rfl) ?_
  refine lv_iload_n hx hb dL_foursBehind_4 rfl (lv_at hl 1 rfl) ?_
  refine lv_iload_n hx hb dL_foursBehind_5 rfl (lv_at hl 2 rfl) ?_
  refine lv_iload_n hx hb dL_foursBehind_6 rfl (lv_at hl 3 rfl) ?_
  have hPc : va_P D vwCl [(h0, .inr (3, [.ref lg, .ref fs, .ref ps, .long fa, .long fb, .int mt, .int re]))] s.heap := hP.sub (ws' := [(h0, .inr (3, [.ref lg, .ref fs, .ref ps, .long fa, .long fb, .int mt, .int re]))]) [0] rfl
  have hDc : va_D A [(h0, .inr (3, [.ref lg, .ref fs, .ref ps, .long fa, .long fb, .int mt, .int re]))] := hD.sub (ws' := [(h0, .inr (3, [.ref lg, .ref fs, .ref ps, .long fa, .long fb, .int mt, .int re]))]) [0] (by decide) rfl
  have hFc := va_free (wc := [(h0, .inr (3, [.ref lg, .ref fs, .ref ps, .long fa, .long fb, .int mt, .int re]))]) hD hS hA [0] rfl
  refine vx_calli (vx_runV (As := [.int v, .int q, .int y]) (rest := [.int 0, .ref ob]) ⟨hx, hb, hml, hown, hts⟩ (c_X6_foursBehind l hltr D cI cJ s.heap.size  h0 lg fs ps fa fb mt re v q y) (cwV 3 hts gL_foursBehind_X6_foursBehind rfl rfl rfl (by decide +kernel) ⟨Nat.le_of_ble_eq_true rfl, Nat.le_of_ble_eq_true rfl⟩) ⟨(px_blindX pv_blind), va_recv hK hPc (ci := 3) (q0 := 0) rfl rfl, fun U hU hW => ⟨rfl, hEX.warm hW, by rw [hU]; exact hZ.to hS hW.alike hFc, by rw [hU], by rw [hU]; exact hPc, va_K.moved hW.alike hK, hDc.weaken (fun _ _ _ _ => trivial)⟩⟩ rfl rfl hl.1 rfl (lv_room (Nat.le_of_ble_eq_true rfl)) dL_foursBehind_7 ⟨(Nat.le_of_ble_eq_true rfl), (Nat.le_of_ble_eq_true rfl)⟩) hS (fun q _ h => hFc q h) hFc (fun q _ h => hFc q h) (fun E ce q9 u9 t9 H1 locs hth hvm hpx hB9 hz1 hk1 hS hce hcv hcl => ?_) (fun r7 u t9 H1 locs hth hvm hw7 hB9 hz1 hk1 hS => ?_)
  · obtain ⟨hb9, hP1, hK1, hD1⟩ := hB9
    rw [hth] at hP1
    obtain ⟨hP, hD⟩ := va_join (wr := [(ob, .inl (cJ, 1, .inr (.inl ov)))]) (w1 := [(h0, .inr (3, [.ref lg, .ref fs, .ref ps, .long fa, .long fb, .int mt, .int re]))]) hP hD [0] [1] rfl rfl (by decide) (by decide) hk1 hFc hP1 hD1
    have hP : va_P D vwCl [(h0, .inr (3, [.ref lg, .ref fs, .ref ps, .long fa, .long fb, .int mt, .int re])), (ob, .inl (cJ, 1, .inr (.inl ov)))] H1 := hP.sub (ws' := [(h0, .inr (3, [.ref lg, .ref fs, .ref ps, .long fa, .long fb, .int mt, .int re])), (ob, .inl (cJ, 1, .inr (.inl ov)))]) [1, 0] rfl
    have hD : va_D A [(h0, .inr (3, [.ref lg, .ref fs, .ref ps, .long fa, .long fb, .int mt, .int re])), (ob, .inl (cJ, 1, .inr (.inl ov)))] := hD.sub (ws' := [(h0, .inr (3, [.ref lg, .ref fs, .ref ps, .long fa, .long fb, .int mt, .int re])), (ob, .inl (cJ, 1, .inr (.inl ov)))]) [1, 0] (by decide) rfl
    exact hb9.elim (fun h => absurd hok.1 h.2) (fun h => absurd hok.2 h.2.2)
  · try dsimp only at hw7
    obtain ⟨hP1, hK1, hD1⟩ := hB9
    rw [hth] at hP1
    obtain ⟨hP, hD⟩ := va_join (wr := [(ob, .inl (cJ, 1, .inr (.inl ov)))]) (w1 := [(h0, .inr (3, [.ref lg, .ref fs, .ref ps, .long fa, .long fb, .int mt, .int re]))]) hP hD [0] [1] rfl rfl (by decide) (by decide) hk1 hFc hP1 hD1
    generalize H1 = H at hP hS ⊢
    have hP : va_P D vwCl [(h0, .inr (3, [.ref lg, .ref fs, .ref ps, .long fa, .long fb, .int mt, .int re])), (ob, .inl (cJ, 1, .inr (.inl ov)))] H := hP.sub (ws' := [(h0, .inr (3, [.ref lg, .ref fs, .ref ps, .long fa, .long fb, .int mt, .int re])), (ob, .inl (cJ, 1, .inr (.inl ov)))]) [1, 0] rfl
    have hD : va_D A [(h0, .inr (3, [.ref lg, .ref fs, .ref ps, .long fa, .long fb, .int mt, .int re])), (ob, .inl (cJ, 1, .inr (.inl ov)))] := hD.sub (ws' := [(h0, .inr (3, [.ref lg, .ref fs, .ref ps, .long fa, .long fb, .int mt, .int re])), (ob, .inl (cJ, 1, .inr (.inl ov)))]) [1, 0] (by decide) rfl
    refine lv_i2l (v := (r7 : Int32).toInt64) hx hb dL_foursBehind_10 rfl ?_
    refine lv_topl (fun x10 ex10 => ?_)
    refine va_last hx hb hK hP hD hS 1 1 rfl rfl (vp_in_nI (n := 0) (N := 1) (by omega) (by decide)) dL_foursBehind_11 (fun H locs hP hD hS => ?_)
    have hu11 : (0 : Int32).toNatClampNeg = 0 := pk_cl 0
    rw [hu11] at hP hD
    have hP : va_P D vwCl [(h0, .inr (3, [.ref lg, .ref fs, .ref ps, .long fa, .long fb, .int mt, .int re])), (ob, .inl (cJ, 1, .inr (.inl (vp_updL ov 0 x10))))] H := hP
    have hD : va_D A [(h0, .inr (3, [.ref lg, .ref fs, .ref ps, .long fa, .long fb, .int mt, .int re])), (ob, .inl (cJ, 1, .inr (.inl (vp_updL ov 0 x10))))] := hD
    refine lv_goto (tgt := 23) hx hb dL_foursBehind_12 (by decide) ?_
    refine lv_iconst (v := 0) hx hb dL_foursBehind_23 (by decide) ?_
    obtain rfl := ex10.symm
    refine W.widen (k := 3) (n := 18) (Nat.le_of_ble_eq_true rfl) (Nat.le_of_ble_eq_true rfl) ?_
    refine W.iret (v := 0) hx hb hr (fun tt ht hW => ⟨⟨0, r7, rfl, ?_, by rw [ht]; exact hP, va_K.moved hW.alike hK, hD⟩, hS.F ht⟩) hS.2.2 dL_foursBehind_24
    exact ⟨rfl, hw7⟩

set_option maxHeartbeats 400000 in
set_option maxRecDepth 100000 in
theorem c_L_foursBehind_bad1 (l : Launch) (hltr : l.stackTraces = false) (D : va_G) (cI cJ : ClassId) (sz : Nat) (h0 lg fs ps : Nat) (fa fb : Int64) (mt re : Int32) (ob : Nat) (ov : Nat → Int64) (v q y : Int32) (hbad : ¬ (iside v ∧ iq q)) : Met l yL_foursBehind wsL_foursBehind ({ frames := 8, cells := 3, slots := 18, locals := 134 } : Room) (va_Pc [.ref h0, .int v, .int q, .int y, .ref ob] (px_N (px_X (va_A [(h0, .inr (3, [.ref lg, .ref fs, .ref ps, .long fa, .long fb, .int mt, .int re])), (ob, .inl (cJ, 1, .inr (.inl ov)))] sz) (pv_C D cI cJ [(h0, .inr (3, [.ref lg, .ref fs, .ref ps, .long fa, .long fb, .int mt, .int re])), (ob, .inl (cJ, 1, .inr (.inl ov)))] sz)))) (va_Qi (fun (r : Int32) (u : Unit) => r = 1) (fun (u : Unit) => pv_B D cI cJ (va_A [(h0, .inr (3, [.ref lg, .ref fs, .ref ps, .long fa, .long fb, .int mt, .int re])), (ob, .inl (cJ, 1, .inr (.inl ov)))] sz) [(h0, .inr (3, [.ref lg, .ref fs, .ref ps, .long fa, .long fb, .int mt, .int re])), (ob, .inl (cJ, 1, .inr (.inl ov)))]) (va_A [(h0, .inr (3, [.ref lg, .ref fs, .ref ps, .long fa, .long fb, .int mt, .int re])), (ob, .inl (cJ, 1, .inr (.inl ov)))] sz)) 3 18 (va_A [(h0, .inr (3, [.ref lg, .ref fs, .ref ps, .long fa, .long fb, .int mt, .int re])), (ob, .inl (cJ, 1, .inr (.inl ov)))] sz) := by
  refine va_MetW (cc := cL_foursBehind) (maxL := 6) (ret := (some .int)) (hh := [(0, 12, 15, 13), (0, 12, 19, 21)]) (by decide) rfl ?_
  intro p e s m args below meth c s₁ B hml hv
  obtain ⟨rfl, hNC, hEN, hEX, hZ, rfl, hP, hK, hD0⟩ := hv
  have hx := B.exec
  have hb := B.bytes
  have hr := B.returns
  have hts := atoms_spec (ws := wsL_foursBehind) B.pre
  have hown : s.vm.findClass RL = some m.cls := findClass_of_methodNamed B.named
  have hlocks := B.notSynchronized
  have htb := vx_table (x := yL_foursBehind) B (hts _ (List.mem_of_getElem? (i := 0) rfl))
  have hD := hD0.self (sz := s.heap.size)
  generalize hAe : va_A [(h0, .inr (3, [.ref lg, .ref fs, .ref ps, .long fa, .long fb, .int mt, .int re])), (ob, .inl (cJ, 1, .inr (.inl ov)))] s.heap.size = A at hD hZ ⊢
  have hA : ∀ q : Nat, s.heap.size ≤ q → A q := fun q h => by rw [← hAe]; exact Or.inr h
  have hS : va_S A s.heap s.heap [] := va_S.rf
  have hl := lv_entry ([.ref h0, .int v, .int q, .int y, .ref ob]) (n := 6) (Nat.le_of_ble_eq_true rfl)
  rw [lg_entry_eq]
  generalize (lg_sl ([.ref h0, .int v, .int q, .int y, .ref ob]) ++ List.replicate (6 - (lg_sl ([.ref h0, .int v, .int q, .int y, .ref ob])).length) Slot.unset).toArray = ls at hl ⊢
  have hl : lv_has ls 6 [(0, .ref h0), (1, .int v), (2, .int q), (3, .int y), (4, .ref ob)] := hl
  refine lv_aload hx hb dL_foursBehind_0 (lv_at hl 4 rfl) ?_
  refine lv_iconst (v := 0) hx hb dL_foursBehind_2 (by decide) ?_
  refine lv_aload_n hx hb dL_foursBehind_3 rfl (lv_at hl 0 rfl) ?_
  refine lv_iload_n hx hb dL_foursBehind_4 rfl (lv_at hl 1 rfl) ?_
  refine lv_iload_n hx hb dL_foursBehind_5 rfl (lv_at hl 2 rfl) ?_
  refine lv_iload_n hx hb dL_foursBehind_6 rfl (lv_at hl 3 rfl) ?_
  have hPc : va_P D vwCl [(h0, .inr (3, [.ref lg, .ref fs, .ref ps, .long fa, .long fb, .int mt, .int re]))] s.heap := hP.sub (ws' := [(h0, .inr (3, [.ref lg, .ref fs, .ref ps, .long fa, .long fb, .int mt, .int re]))]) [0] rfl
  have hDc : va_D A [(h0, .inr (3, [.ref lg, .ref fs, .ref ps, .long fa, .long fb, .int mt, .int re]))] := hD.sub (ws' := [(h0, .inr (3, [.ref lg, .ref fs, .ref ps, .long fa, .long fb, .int mt, .int re]))]) [0] (by decide) rfl
  have hFc := va_free (wc := [(h0, .inr (3, [.ref lg, .ref fs, .ref ps, .long fa, .long fb, .int mt, .int re]))]) hD hS hA [0] rfl
  refine vx_calli (vx_runV (As := [.int v, .int q, .int y]) (rest := [.int 0, .ref ob]) ⟨hx, hb, hml, hown, hts⟩ (c_X6_foursBehind l hltr D cI cJ s.heap.size  h0 lg fs ps fa fb mt re v q y) (cwV 3 hts gL_foursBehind_X6_foursBehind rfl rfl rfl (by decide +kernel) ⟨Nat.le_of_ble_eq_true rfl, Nat.le_of_ble_eq_true rfl⟩) ⟨(px_blindX pv_blind), va_recv hK hPc (ci := 3) (q0 := 0) rfl rfl, fun U hU hW => ⟨rfl, hEX.warm hW, by rw [hU]; exact hZ.to hS hW.alike hFc, by rw [hU], by rw [hU]; exact hPc, va_K.moved hW.alike hK, hDc.weaken (fun _ _ _ _ => trivial)⟩⟩ rfl rfl hl.1 rfl (lv_room (Nat.le_of_ble_eq_true rfl)) dL_foursBehind_7 ⟨(Nat.le_of_ble_eq_true rfl), (Nat.le_of_ble_eq_true rfl)⟩) hS (fun q _ h => hFc q h) hFc (fun q _ h => hFc q h) (fun E ce q9 u9 t9 H1 locs hth hvm hpx hB9 hz1 hk1 hS hce hcv hcl => ?_) (fun r7 u t9 H1 locs hth hvm hw7 hB9 hz1 hk1 hS => ?_)
  · obtain ⟨hb9, hP1, hK1, hD1⟩ := hB9
    rw [hth] at hP1
    obtain ⟨hP, hD⟩ := va_join (wr := [(ob, .inl (cJ, 1, .inr (.inl ov)))]) (w1 := [(h0, .inr (3, [.ref lg, .ref fs, .ref ps, .long fa, .long fb, .int mt, .int re]))]) hP hD [0] [1] rfl rfl (by decide) (by decide) hk1 hFc hP1 hD1
    have hP : va_P D vwCl [(h0, .inr (3, [.ref lg, .ref fs, .ref ps, .long fa, .long fb, .int mt, .int re])), (ob, .inl (cJ, 1, .inr (.inl ov)))] H1 := hP.sub (ws' := [(h0, .inr (3, [.ref lg, .ref fs, .ref ps, .long fa, .long fb, .int mt, .int re])), (ob, .inl (cJ, 1, .inr (.inl ov)))]) [1, 0] rfl
    have hD : va_D A [(h0, .inr (3, [.ref lg, .ref fs, .ref ps, .long fa, .long fb, .int mt, .int re])), (ob, .inl (cJ, 1, .inr (.inl ov)))] := hD.sub (ws' := [(h0, .inr (3, [.ref lg, .ref fs, .ref ps, .long fa, .long fb, .int mt, .int re])), (ob, .inl (cJ, 1, .inr (.inl ov)))]) [1, 0] (by decide) rfl
    obtain rfl : E = nIOB := hb9.elim (fun h => h.1) (fun h => absurd h.2.1 hbad)
    refine vx_catch (own := RL) (name := nIOB) hown [] ⟨0, 12, 15, 13⟩ [⟨0, 12, 19, 21⟩] (htb.trans rfl) (fun z hz => nomatch hz) (by decide) (by decide) (hts (.classLink RL 13 nIOB) (by decide +kernel)) (va_Nw.use rfl hEX.2.1) hce hcv hcl ?_
    refine lv_astore (lv' := [(5, .ref q9), (0, .ref h0), (1, .int v), (2, .int q), (3, .int y), (4, .ref ob)]) hx hb dL_foursBehind_15 hl (by decide) rfl (fun ls hl => ?_)
    refine lv_iconst (v := 1) hx hb dL_foursBehind_17 (by decide) ?_
    refine W.widen (k := 3) (n := 18) (Nat.le_of_ble_eq_true rfl) (Nat.le_of_ble_eq_true rfl) ?_
    refine W.iret (v := 1) hx hb hr (fun tt ht hW => ⟨⟨1, (), rfl, ?_, by rw [ht]; exact hP, va_K.moved hW.alike hK, hD⟩, hS.F ht⟩) hS.2.2 dL_foursBehind_18
    exact rfl
  · try dsimp only at hw7
    obtain ⟨h1, q9, y9, h2, h3, h4, _⟩ := hw7; exact absurd ⟨h1, (show iq q from by rw [h4]; exact q_ok h2)⟩ hbad

set_option maxHeartbeats 400000 in
set_option maxRecDepth 100000 in
theorem c_L_foursBehind_bad2 (l : Launch) (hltr : l.stackTraces = false) (D : va_G) (cI cJ : ClassId) (sz : Nat) (h0 lg fs ps : Nat) (fa fb : Int64) (mt re : Int32) (ob : Nat) (ov : Nat → Int64) (v q y : Int32) (hc : iside v ∧ iq q) (hbad : ¬ iw y) : Met l yL_foursBehind wsL_foursBehind ({ frames := 8, cells := 3, slots := 18, locals := 134 } : Room) (va_Pc [.ref h0, .int v, .int q, .int y, .ref ob] (px_N (px_X (va_A [(h0, .inr (3, [.ref lg, .ref fs, .ref ps, .long fa, .long fb, .int mt, .int re])), (ob, .inl (cJ, 1, .inr (.inl ov)))] sz) (pv_C D cI cJ [(h0, .inr (3, [.ref lg, .ref fs, .ref ps, .long fa, .long fb, .int mt, .int re])), (ob, .inl (cJ, 1, .inr (.inl ov)))] sz)))) (va_Qi (fun (r : Int32) (u : Unit) => r = 2) (fun (u : Unit) => pv_B D cI cJ (va_A [(h0, .inr (3, [.ref lg, .ref fs, .ref ps, .long fa, .long fb, .int mt, .int re])), (ob, .inl (cJ, 1, .inr (.inl ov)))] sz) [(h0, .inr (3, [.ref lg, .ref fs, .ref ps, .long fa, .long fb, .int mt, .int re])), (ob, .inl (cJ, 1, .inr (.inl ov)))]) (va_A [(h0, .inr (3, [.ref lg, .ref fs, .ref ps, .long fa, .long fb, .int mt, .int re])), (ob, .inl (cJ, 1, .inr (.inl ov)))] sz)) 3 18 (va_A [(h0, .inr (3, [.ref lg, .ref fs, .ref ps, .long fa, .long fb, .int mt, .int re])), (ob, .inl (cJ, 1, .inr (.inl ov)))] sz) := by
  refine va_MetW (cc := cL_foursBehind) (maxL := 6) (ret := (some .int)) (hh := [(0, 12, 15, 13), (0, 12, 19, 21)]) (by decide) rfl ?_
  intro p e s m args below meth c s₁ B hml hv
  obtain ⟨rfl, hNC, hEN, hEX, hZ, rfl, hP, hK, hD0⟩ := hv
  have hx := B.exec
  have hb := B.bytes
  have hr := B.returns
  have hts := atoms_spec (ws := wsL_foursBehind) B.pre
  have hown : s.vm.findClass RL = some m.cls := findClass_of_methodNamed B.named
  have hlocks := B.notSynchronized
  have htb := vx_table (x := yL_foursBehind) B (hts _ (List.mem_of_getElem? (i := 0) rfl))
  have hD := hD0.self (sz := s.heap.size)
  generalize hAe : va_A [(h0, .inr (3, [.ref lg, .ref fs, .ref ps, .long fa, .long fb, .int mt, .int re])), (ob, .inl (cJ, 1, .inr (.inl ov)))] s.heap.size = A at hD hZ ⊢
  have hA : ∀ q : Nat, s.heap.size ≤ q → A q := fun q h => by rw [← hAe]; exact Or.inr h
  have hS : va_S A s.heap s.heap [] := va_S.rf
  have hl := lv_entry ([.ref h0, .int v, .int q, .int y, .ref ob]) (n := 6) (Nat.le_of_ble_eq_true rfl)
  rw [lg_entry_eq]
  generalize (lg_sl ([.ref h0, .int v, .int q, .int y, .ref ob]) ++ List.replicate (6 - (lg_sl ([.ref h0, .int v, .int q, .int y, .ref ob])).length) Slot.unset).toArray = ls at hl ⊢
  have hl : lv_has ls 6 [(0, .ref h0), (1, .int v), (2, .int q), (3, .int y), (4, .ref ob)] := hl
  refine lv_aload hx hb dL_foursBehind_0 (lv_at hl 4 rfl) ?_
  refine lv_iconst (v := 0) hx hb dL_foursBehind_2 (by decide) ?_
  refine lv_aload_n hx hb dL_foursBehind_3 rfl (lv_at hl 0 rfl) ?_
  refine lv_iload_n hx hb dL_foursBehind_4 rfl (lv_at hl 1 rfl) ?_
  refine lv_iload_n hx hb dL_foursBehind_5 rfl (lv_at hl 2 rfl) ?_
  refine lv_iload_n hx hb dL_foursBehind_6 rfl (lv_at hl 3 rfl) ?_
  have hPc : va_P D vwCl [(h0, .inr (3, [.ref lg, .ref fs, .ref ps, .long fa, .long fb, .int mt, .int re]))] s.heap := hP.sub (ws' := [(h0, .inr (3, [.ref lg, .ref fs, .ref ps, .long fa, .long fb, .int mt, .int re]))]) [0] rfl
  have hDc : va_D A [(h0, .inr (3, [.ref lg, .ref fs, .ref ps, .long fa, .long fb, .int mt, .int re]))] := hD.sub (ws' := [(h0, .inr (3, [.ref lg, .ref fs, .ref ps, .long fa, .long fb, .int mt, .int re]))]) [0] (by decide) rfl
  have hFc := va_free (wc := [(h0, .inr (3, [.ref lg, .ref fs, .ref ps, .long fa, .long fb, .int mt, .int re]))]) hD hS hA [0] rfl
  refine vx_calli (vx_runV (As := [.int v, .int q, .int y]) (rest := [.int 0, .ref ob]) ⟨hx, hb, hml, hown, hts⟩ (c_X6_foursBehind l hltr D cI cJ s.heap.size  h0 lg fs ps fa fb mt re v q y) (cwV 3 hts gL_foursBehind_X6_foursBehind rfl rfl rfl (by decide +kernel) ⟨Nat.le_of_ble_eq_true rfl, Nat.le_of_ble_eq_true rfl⟩) ⟨(px_blindX pv_blind), va_recv hK hPc (ci := 3) (q0 := 0) rfl rfl, fun U hU hW => ⟨rfl, hEX.warm hW, by rw [hU]; exact hZ.to hS hW.alike hFc, by rw [hU], by rw [hU]; exact hPc, va_K.moved hW.alike hK, hDc.weaken (fun _ _ _ _ => trivial)⟩⟩ rfl rfl hl.1 rfl (lv_room (Nat.le_of_ble_eq_true rfl)) dL_foursBehind_7 ⟨(Nat.le_of_ble_eq_true rfl), (Nat.le_of_ble_eq_true rfl)⟩) hS (fun q _ h => hFc q h) hFc (fun q _ h => hFc q h) (fun E ce q9 u9 t9 H1 locs hth hvm hpx hB9 hz1 hk1 hS hce hcv hcl => ?_) (fun r7 u t9 H1 locs hth hvm hw7 hB9 hz1 hk1 hS => ?_)
  · obtain ⟨hb9, hP1, hK1, hD1⟩ := hB9
    rw [hth] at hP1
    obtain ⟨hP, hD⟩ := va_join (wr := [(ob, .inl (cJ, 1, .inr (.inl ov)))]) (w1 := [(h0, .inr (3, [.ref lg, .ref fs, .ref ps, .long fa, .long fb, .int mt, .int re]))]) hP hD [0] [1] rfl rfl (by decide) (by decide) hk1 hFc hP1 hD1
    have hP : va_P D vwCl [(h0, .inr (3, [.ref lg, .ref fs, .ref ps, .long fa, .long fb, .int mt, .int re])), (ob, .inl (cJ, 1, .inr (.inl ov)))] H1 := hP.sub (ws' := [(h0, .inr (3, [.ref lg, .ref fs, .ref ps, .long fa, .long fb, .int mt, .int re])), (ob, .inl (cJ, 1, .inr (.inl ov)))]) [1, 0] rfl
    have hD : va_D A [(h0, .inr (3, [.ref lg, .ref fs, .ref ps, .long fa, .long fb, .int mt, .int re])), (ob, .inl (cJ, 1, .inr (.inl ov)))] := hD.sub (ws' := [(h0, .inr (3, [.ref lg, .ref fs, .ref ps, .long fa, .long fb, .int mt, .int re])), (ob, .inl (cJ, 1, .inr (.inl ov)))]) [1, 0] (by decide) rfl
    obtain rfl : E = nIAE := hb9.elim (fun h => absurd hc h.2) (fun h => h.1)
    refine vx_catch (own := RL) (name := nIAE) hown [⟨0, 12, 15, 13⟩] ⟨0, 12, 19, 21⟩ [] (htb.trans rfl) (fun z hz => by { obtain rfl := List.mem_singleton.mp hz; exact Or.inr ⟨by decide, nIOB, hts (.classLink RL 13 nIOB) (by decide +kernel), hNC.2.1⟩ }) (by decide) (by decide) (hts (.classLink RL 21 nIAE) (by decide +kernel)) (va_Nw.use rfl hEX.2.2.2.1) hce hcv hcl ?_
    refine lv_astore (lv' := [(5, .ref q9), (0, .ref h0), (1, .int v), (2, .int q), (3, .int y), (4, .ref ob)]) hx hb dL_foursBehind_19 hl (by decide) rfl (fun ls hl => ?_)
    refine lv_iconst (v := 2) hx hb dL_foursBehind_21 (by decide) ?_
    refine W.widen (k := 3) (n := 18) (Nat.le_of_ble_eq_true rfl) (Nat.le_of_ble_eq_true rfl) ?_
    refine W.iret (v := 2) hx hb hr (fun tt ht hW => ⟨⟨2, (), rfl, ?_, by rw [ht]; exact hP, va_K.moved hW.alike hK, hD⟩, hS.F ht⟩) hS.2.2 dL_foursBehind_22
    exact rfl
  · try dsimp only at hw7
    obtain ⟨h1, q9, y9, h2, h3, h4, h5, _⟩ := hw7; exact absurd (show iw y from by rw [h5]; exact w_ok h3) hbad

set_option maxHeartbeats 400000 in
set_option maxRecDepth 100000 in
theorem c_L_winningCells_ok (l : Launch) (hltr : l.stackTraces = false) (D : va_G) (cI cJ : ClassId) (sz : Nat) (h0 lg fs ps : Nat) (fa fb : Int64) (mt re : Int32) (ob : Nat) (ov : Nat → Int64) (hok : re = 0 ∧ mt = 0) : Met l yL_winningCells wsL_winningCells ({ frames := 8, cells := 1, slots := 6, locals := 134 } : Room) (va_Pc [.ref h0, .ref ob] (px_N (px_X (va_A [(h0, .inr (3, [.ref lg, .ref fs, .ref ps, .long fa, .long fb, .int mt, .int re])), (ob, .inl (cJ, 1, .inr (.inl ov)))] sz) (pv_C D cI cJ [(h0, .inr (3, [.ref lg, .ref fs, .ref ps, .long fa, .long fb, .int mt, .int re])), (ob, .inl (cJ, 1, .inr (.inl ov)))] sz)))) (va_Qi (fun (r : Int32) (u : (Int32)) => r = 0 ∧ (re = 0 ∧ mt = 0 ∧ u = nI (cwc (cown fa fb mt) (cempty fa fb) 36))) (fun (u : (Int32)) => pv_B D cI cJ (va_A [(h0, .inr (3, [.ref lg, .ref fs, .ref ps, .long fa, .long fb, .int mt, .int re])), (ob, .inl (cJ, 1, .inr (.inl ov)))] sz) [(h0, .inr (3, [.ref lg, .ref fs, .ref ps, .long fa, .long fb, .int mt, .int re])), (ob, .inl (cJ, 1, .inr (.inl (vp_updL ov 0 (u).toInt64))))]) (va_A [(h0, .inr (3, [.ref lg, .ref fs, .ref ps, .long fa, .long fb, .int mt, .int re])), (ob, .inl (cJ, 1, .inr (.inl ov)))] sz)) 1 6 (va_A [(h0, .inr (3, [.ref lg, .ref fs, .ref ps, .long fa, .long fb, .int mt, .int re])), (ob, .inl (cJ, 1, .inr (.inl ov)))] sz) := by
  refine va_MetW (cc := cL_winningCells) (maxL := 3) (ret := (some .int)) (hh := [(0, 8, 11, 15)]) (by decide) rfl ?_
  intro p e s m args below meth c s₁ B hml hv
  obtain ⟨rfl, hNC, hEN, hEX, hZ, rfl, hP, hK, hD0⟩ := hv
  have hx := B.exec
  have hb := B.bytes
  have hr := B.returns
  have hts := atoms_spec (ws := wsL_winningCells) B.pre
  have hown : s.vm.findClass RL = some m.cls := findClass_of_methodNamed B.named
  have hlocks := B.notSynchronized
  have htb := vx_table (x := yL_winningCells) B (hts _ (List.mem_of_getElem? (i := 0) rfl))
  have hD := hD0.self (sz := s.heap.size)
  generalize hAe : va_A [(h0, .inr (3, [.ref lg, .ref fs, .ref ps, .long fa, .long fb, .int mt, .int re])), (ob, .inl (cJ, 1, .inr (.inl ov)))] s.heap.size = A at hD hZ ⊢
  have hA : ∀ q : Nat, s.heap.size ≤ q → A q := fun q h => by rw [← hAe]; exact Or.inr h
  have hS : va_S A s.heap s.heap [] := va_S.rf
  have hl := lv_entry ([.ref h0, .ref ob]) (n := 3) (Nat.le_of_ble_eq_true rfl)
  rw [lg_entry_eq]
  generalize (lg_sl ([.ref h0, .ref ob]) ++ List.replicate (3 - (lg_sl ([.ref h0, .ref ob])).length) Slot.unset).toArray = ls at hl ⊢
  have hl : lv_has ls 3 [(0, .ref h0), (1, .ref ob)] := hl
  refine lv_aload_n hx hb dL_winningCells_0 rfl (lv_at hl 1 rfl) ?_
  refine lv_iconst (v := 0) hx hb dL_winningCells_1 (by decide) ?_
  refine lv_aload_n hx hb dL_winningCells_2 rfl (lv_at hl 0 rfl) ?_
  have hPc : va_P D vwCl [(h0, .inr (3, [.ref lg, .ref fs, .ref ps, .long fa, .long fb, .int mt, .int re]))] s.heap := hP.sub (ws' := [(h0, .inr (3, [.ref lg, .ref fs, .ref ps, .long fa, .long fb, .int mt, .int re]))]) [0] rfl
  have hDc : va_D A [(h0, .inr (3, [.ref lg, .ref fs, .ref ps, .long fa, .long fb, .int mt, .int re]))] := hD.sub (ws' := [(h0, .inr (3, [.ref lg, .ref fs, .ref ps, .long fa, .long fb, .int mt, .int re]))]) [0] (by decide) rfl
  have hFc := va_free (wc := [(h0, .inr (3, [.ref lg, .ref fs, .ref ps, .long fa, .long fb, .int mt, .int re]))]) hD hS hA [0] rfl
  refine vx_calli (vx_runV (As := []) (rest := [.int 0, .ref ob]) ⟨hx, hb, hml, hown, hts⟩ (c_X6_winningCells l hltr D cI cJ s.heap.size  h0 lg fs ps fa fb mt re ) (cwV 0 hts gL_winningCells_X6_winningCells rfl rfl rfl (by decide +kernel) ⟨Nat.le_of_ble_eq_true rfl, Nat.le_of_ble_eq_true rfl⟩) ⟨(px_blindX pv_blind), va_recv hK hPc (ci := 3) (q0 := 0) rfl rfl, fun U hU hW => ⟨rfl, hEX.warm hW, by rw [hU]; exact hZ.to hS hW.alike hFc, by rw [hU], by rw [hU]; exact hPc, va_K.moved hW.alike hK, hDc.weaken (fun _ _ _ _ => trivial)⟩⟩ rfl rfl hl.1 rfl (lv_room (Nat.le_of_ble_eq_true rfl)) dL_winningCells_3 ⟨(Nat.le_of_ble_eq_true rfl), (Nat.le_of_ble_eq_true rfl)⟩) hS (fun q _ h => hFc q h) hFc (fun q _ h => hFc q h) (fun E ce q9 u9 t9 H1 locs hth hvm hpx hB9 hz1 hk1 hS hce hcv hcl => ?_) (fun r3 u t9 H1 locs hth hvm hw3 hB9 hz1 hk1 hS => ?_)
  · obtain ⟨hb9, hP1, hK1, hD1⟩ := hB9
    rw [hth] at hP1
    obtain ⟨hP, hD⟩ := va_join (wr := [(ob, .inl (cJ, 1, .inr (.inl ov)))]) (w1 := [(h0, .inr (3, [.ref lg, .ref fs, .ref ps, .long fa, .long fb, .int mt, .int re]))]) hP hD [0] [1] rfl rfl (by decide) (by decide) hk1 hFc hP1 hD1
    have hP : va_P D vwCl [(h0, .inr (3, [.ref lg, .ref fs, .ref ps, .long fa, .long fb, .int mt, .int re])), (ob, .inl (cJ, 1, .inr (.inl ov)))] H1 := hP.sub (ws' := [(h0, .inr (3, [.ref lg, .ref fs, .ref ps, .long fa, .long fb, .int mt, .int re])), (ob, .inl (cJ, 1, .inr (.inl ov)))]) [1, 0] rfl
    have hD : va_D A [(h0, .inr (3, [.ref lg, .ref fs, .ref ps, .long fa, .long fb, .int mt, .int re])), (ob, .inl (cJ, 1, .inr (.inl ov)))] := hD.sub (ws' := [(h0, .inr (3, [.ref lg, .ref fs, .ref ps, .long fa, .long fb, .int mt, .int re])), (ob, .inl (cJ, 1, .inr (.inl ov)))]) [1, 0] (by decide) rfl
    exact (absurd hok hb9.2)
  · try dsimp only at hw3
    obtain ⟨hP1, hK1, hD1⟩ := hB9
    rw [hth] at hP1
    obtain ⟨hP, hD⟩ := va_join (wr := [(ob, .inl (cJ, 1, .inr (.inl ov)))]) (w1 := [(h0, .inr (3, [.ref lg, .ref fs, .ref ps, .long fa, .long fb, .int mt, .int re]))]) hP hD [0] [1] rfl rfl (by decide) (by decide) hk1 hFc hP1 hD1
    generalize H1 = H at hP hS ⊢
    have hP : va_P D vwCl [(h0, .inr (3, [.ref lg, .ref fs, .ref ps, .long fa, .long fb, .int mt, .int re])), (ob, .inl (cJ, 1, .inr (.inl ov)))] H := hP.sub (ws' := [(h0, .inr (3, [.ref lg, .ref fs, .ref ps, .long fa, .long fb, .int mt, .int re])), (ob, .inl (cJ, 1, .inr (.inl ov)))]) [1, 0] rfl
    have hD : va_D A [(h0, .inr (3, [.ref lg, .ref fs, .ref ps, .long fa, .long fb, .int mt, .int re])), (ob, .inl (cJ, 1, .inr (.inl ov)))] := hD.sub (ws' := [(h0, .inr (3, [.ref lg, .ref fs, .ref ps, .long fa, .long fb, .int mt, .int re])), (ob, .inl (cJ, 1, .inr (.inl ov)))]) [1, 0] (by decide) rfl
    refine lv_i2l (v := (r3 : Int32).toInt64) hx hb dL_winningCells_6 rfl ?_
    refine lv_topl (fun x6 ex6 => ?_)
    refine va_last hx hb hK hP hD hS 1 1 rfl rfl (vp_in_nI (n := 0) (N := 1) (by omega) (by decide)) dL_winningCells_7 (fun H locs hP hD hS => ?_)
    have hu7 : (0 : Int32).toNatClampNeg = 0 := pk_cl 0
    rw [hu7] at hP hD
    have hP : va_P D vwCl [(h0, .inr (3, [.ref lg, .ref fs, .ref ps, .long fa, .long fb, .int mt, .int re])), (ob, .inl (cJ, 1, .inr (.inl (vp_updL ov 0 x6))))] H := hP
    have hD : va_D A [(h0, .inr (3, [.ref lg, .ref fs, .ref ps, .long fa, .long fb, .int mt, .int re])), (ob, .inl (cJ, 1, .inr (.inl (vp_updL ov 0 x6))))] := hD
    refine lv_goto (tgt := 14) hx hb dL_winningCells_8 (by decide) ?_
    refine lv_iconst (v := 0) hx hb dL_winningCells_14 (by decide) ?_
    obtain rfl := ex6.symm
    refine W.widen (k := 1) (n := 6) (Nat.le_of_ble_eq_true rfl) (Nat.le_of_ble_eq_true rfl) ?_
    refine W.iret (v := 0) hx hb hr (fun tt ht hW => ⟨⟨0, r3, rfl, ?_, by rw [ht]; exact hP, va_K.moved hW.alike hK, hD⟩, hS.F ht⟩) hS.2.2 dL_winningCells_15
    exact ⟨rfl, hw3⟩

set_option maxHeartbeats 400000 in
set_option maxRecDepth 100000 in
theorem c_L_winningCells_bad (l : Launch) (hltr : l.stackTraces = false) (D : va_G) (cI cJ : ClassId) (sz : Nat) (h0 lg fs ps : Nat) (fa fb : Int64) (mt re : Int32) (ob : Nat) (ov : Nat → Int64) (hbad : ¬ (re = 0 ∧ mt = 0)) : Met l yL_winningCells wsL_winningCells ({ frames := 8, cells := 1, slots := 6, locals := 134 } : Room) (va_Pc [.ref h0, .ref ob] (px_N (px_X (va_A [(h0, .inr (3, [.ref lg, .ref fs, .ref ps, .long fa, .long fb, .int mt, .int re])), (ob, .inl (cJ, 1, .inr (.inl ov)))] sz) (pv_C D cI cJ [(h0, .inr (3, [.ref lg, .ref fs, .ref ps, .long fa, .long fb, .int mt, .int re])), (ob, .inl (cJ, 1, .inr (.inl ov)))] sz)))) (va_Qi (fun (r : Int32) (u : Unit) => r = 1) (fun (u : Unit) => pv_B D cI cJ (va_A [(h0, .inr (3, [.ref lg, .ref fs, .ref ps, .long fa, .long fb, .int mt, .int re])), (ob, .inl (cJ, 1, .inr (.inl ov)))] sz) [(h0, .inr (3, [.ref lg, .ref fs, .ref ps, .long fa, .long fb, .int mt, .int re])), (ob, .inl (cJ, 1, .inr (.inl ov)))]) (va_A [(h0, .inr (3, [.ref lg, .ref fs, .ref ps, .long fa, .long fb, .int mt, .int re])), (ob, .inl (cJ, 1, .inr (.inl ov)))] sz)) 1 6 (va_A [(h0, .inr (3, [.ref lg, .ref fs, .ref ps, .long fa, .long fb, .int mt, .int re])), (ob, .inl (cJ, 1, .inr (.inl ov)))] sz) := by
  refine va_MetW (cc := cL_winningCells) (maxL := 3) (ret := (some .int)) (hh := [(0, 8, 11, 15)]) (by decide) rfl ?_
  intro p e s m args below meth c s₁ B hml hv
  obtain ⟨rfl, hNC, hEN, hEX, hZ, rfl, hP, hK, hD0⟩ := hv
  have hx := B.exec
  have hb := B.bytes
  have hr := B.returns
  have hts := atoms_spec (ws := wsL_winningCells) B.pre
  have hown : s.vm.findClass RL = some m.cls := findClass_of_methodNamed B.named
  have hlocks := B.notSynchronized
  have htb := vx_table (x := yL_winningCells) B (hts _ (List.mem_of_getElem? (i := 0) rfl))
  have hD := hD0.self (sz := s.heap.size)
  generalize hAe : va_A [(h0, .inr (3, [.ref lg, .ref fs, .ref ps, .long fa, .long fb, .int mt, .int re])), (ob, .inl (cJ, 1, .inr (.inl ov)))] s.heap.size = A at hD hZ ⊢
  have hA : ∀ q : Nat, s.heap.size ≤ q → A q := fun q h => by rw [← hAe]; exact Or.inr h
  have hS : va_S A s.heap s.heap [] := va_S.rf
  have hl := lv_entry ([.ref h0, .ref ob]) (n := 3) (Nat.le_of_ble_eq_true rfl)
  rw [lg_entry_eq]
  generalize (lg_sl ([.ref h0, .ref ob]) ++ List.replicate (3 - (lg_sl ([.ref h0, .ref ob])).length) Slot.unset).toArray = ls at hl ⊢
  have hl : lv_has ls 3 [(0, .ref h0), (1, .ref ob)] := hl
  refine lv_aload_n hx hb dL_winningCells_0 rfl (lv_at hl 1 rfl) ?_
  refine lv_iconst (v := 0) hx hb dL_winningCells_1 (by decide) ?_
  refine lv_aload_n hx hb dL_winningCells_2 rfl (lv_at hl 0 rfl) ?_
  have hPc : va_P D vwCl [(h0, .inr (3, [.ref lg, .ref fs, .ref ps, .long fa, .long fb, .int mt, .int re]))] s.heap := hP.sub (ws' := [(h0, .inr (3, [.ref lg, .ref fs, .ref ps, .long fa, .long fb, .int mt, .int re]))]) [0] rfl
  have hDc : va_D A [(h0, .inr (3, [.ref lg, .ref fs, .ref ps, .long fa, .long fb, .int mt, .int re]))] := hD.sub (ws' := [(h0, .inr (3, [.ref lg, .ref fs, .ref ps, .long fa, .long fb, .int mt, .int re]))]) [0] (by decide) rfl
  have hFc := va_free (wc := [(h0, .inr (3, [.ref lg, .ref fs, .ref ps, .long fa, .long fb, .int mt, .int re]))]) hD hS hA [0] rfl
  refine vx_calli (vx_runV (As := []) (rest := [.int 0, .ref ob]) ⟨hx, hb, hml, hown, hts⟩ (c_X6_winningCells l hltr D cI cJ s.heap.size  h0 lg fs ps fa fb mt re ) (cwV 0 hts gL_winningCells_X6_winningCells rfl rfl rfl (by decide +kernel) ⟨Nat.le_of_ble_eq_true rfl, Nat.le_of_ble_eq_true rfl⟩) ⟨(px_blindX pv_blind), va_recv hK hPc (ci := 3) (q0 := 0) rfl rfl, fun U hU hW => ⟨rfl, hEX.warm hW, by rw [hU]; exact hZ.to hS hW.alike hFc, by rw [hU], by rw [hU]; exact hPc, va_K.moved hW.alike hK, hDc.weaken (fun _ _ _ _ => trivial)⟩⟩ rfl rfl hl.1 rfl (lv_room (Nat.le_of_ble_eq_true rfl)) dL_winningCells_3 ⟨(Nat.le_of_ble_eq_true rfl), (Nat.le_of_ble_eq_true rfl)⟩) hS (fun q _ h => hFc q h) hFc (fun q _ h => hFc q h) (fun E ce q9 u9 t9 H1 locs hth hvm hpx hB9 hz1 hk1 hS hce hcv hcl => ?_) (fun r3 u t9 H1 locs hth hvm hw3 hB9 hz1 hk1 hS => ?_)
  · obtain ⟨hb9, hP1, hK1, hD1⟩ := hB9
    rw [hth] at hP1
    obtain ⟨hP, hD⟩ := va_join (wr := [(ob, .inl (cJ, 1, .inr (.inl ov)))]) (w1 := [(h0, .inr (3, [.ref lg, .ref fs, .ref ps, .long fa, .long fb, .int mt, .int re]))]) hP hD [0] [1] rfl rfl (by decide) (by decide) hk1 hFc hP1 hD1
    have hP : va_P D vwCl [(h0, .inr (3, [.ref lg, .ref fs, .ref ps, .long fa, .long fb, .int mt, .int re])), (ob, .inl (cJ, 1, .inr (.inl ov)))] H1 := hP.sub (ws' := [(h0, .inr (3, [.ref lg, .ref fs, .ref ps, .long fa, .long fb, .int mt, .int re])), (ob, .inl (cJ, 1, .inr (.inl ov)))]) [1, 0] rfl
    have hD : va_D A [(h0, .inr (3, [.ref lg, .ref fs, .ref ps, .long fa, .long fb, .int mt, .int re])), (ob, .inl (cJ, 1, .inr (.inl ov)))] := hD.sub (ws' := [(h0, .inr (3, [.ref lg, .ref fs, .ref ps, .long fa, .long fb, .int mt, .int re])), (ob, .inl (cJ, 1, .inr (.inl ov)))]) [1, 0] (by decide) rfl
    obtain rfl : E = nISE := hb9.1
    refine vx_catch (own := RL) (name := nISE) hown [] ⟨0, 8, 11, 15⟩ [] (htb.trans rfl) (fun z hz => nomatch hz) (by decide) (by decide) (hts (.classLink RL 15 nISE) (by decide +kernel)) (va_Nw.use rfl hEX.2.2.1) hce hcv hcl ?_
    refine lv_astore_n (lv' := [(2, .ref q9), (0, .ref h0), (1, .ref ob)]) hx hb dL_winningCells_11 rfl hl (by decide) rfl (fun ls hl => ?_)
    refine lv_iconst (v := 1) hx hb dL_winningCells_12 (by decide) ?_
    refine W.widen (k := 1) (n := 6) (Nat.le_of_ble_eq_true rfl) (Nat.le_of_ble_eq_true rfl) ?_
    refine W.iret (v := 1) hx hb hr (fun tt ht hW => ⟨⟨1, (), rfl, ?_, by rw [ht]; exact hP, va_K.moved hW.alike hK, hD⟩, hS.F ht⟩) hS.2.2 dL_winningCells_13
    exact rfl
  · try dsimp only at hw3
    exact absurd ⟨hw3.1, hw3.2.1⟩ hbad

set_option maxHeartbeats 400000 in
set_option maxRecDepth 100000 in
theorem c_L_winningTurns_ok (l : Launch) (hltr : l.stackTraces = false) (D : va_G) (cI cJ : ClassId) (sz : Nat) (h0 lg fs ps : Nat) (fa fb : Int64) (mt re : Int32) (ob : Nat) (ov : Nat → Int64) (v : Int32) (hok : icell v ∧ re = 0 ∧ mt = 0 ∧ ¬ (cempty fa fb &&& jshl 1 v) = 0) : Met l yL_winningTurns wsL_winningTurns ({ frames := 8, cells := 3, slots := 18, locals := 139 } : Room) (va_Pc [.ref h0, .int v, .ref ob] (px_N (px_X (va_A [(h0, .inr (3, [.ref lg, .ref fs, .ref ps, .long fa, .long fb, .int mt, .int re])), (ob, .inl (cJ, 1, .inr (.inl ov)))] sz) (pv_C D cI cJ [(h0, .inr (3, [.ref lg, .ref fs, .ref ps, .long fa, .long fb, .int mt, .int re])), (ob, .inl (cJ, 1, .inr (.inl ov)))] sz)))) (va_Qi (fun (r : Int32) (u : (Int32)) => r = 0 ∧ (icell v ∧ re = 0 ∧ mt = 0 ∧ (¬ (cempty fa fb &&& jshl 1 v) = 0) ∧ u = (if cline (cown fa fb mt ||| jshl 1 v) = true then 8 else nI (cwt (cown fa fb mt ||| jshl 1 v) (coth fa fb mt) 8)))) (fun (u : (Int32)) => pv_B D cI cJ (va_A [(h0, .inr (3, [.ref lg, .ref fs, .ref ps, .long fa, .long fb, .int mt, .int re])), (ob, .inl (cJ, 1, .inr (.inl ov)))] sz) [(h0, .inr (3, [.ref lg, .ref fs, .ref ps, .long fa, .long fb, .int mt, .int re])), (ob, .inl (cJ, 1, .inr (.inl (vp_updL ov 0 (u).toInt64))))]) (va_A [(h0, .inr (3, [.ref lg, .ref fs, .ref ps, .long fa, .long fb, .int mt, .int re])), (ob, .inl (cJ, 1, .inr (.inl ov)))] sz)) 3 18 (va_A [(h0, .inr (3, [.ref lg, .ref fs, .ref ps, .long fa, .long fb, .int mt, .int re])), (ob, .inl (cJ, 1, .inr (.inl ov)))] sz) := by
  refine va_MetW (cc := cL_winningTurns) (maxL := 4) (ret := (some .int)) (hh := [(0, 9, 12, 13), (0, 9, 15, 15)]) (by decide) rfl ?_
  intro p e s m args below meth c s₁ B hml hv
  obtain ⟨rfl, hNC, hEN, hEX, hZ, rfl, hP, hK, hD0⟩ := hv
  have hx := B.exec
  have hb := B.bytes
  have hr := B.returns
  have hts := atoms_spec (ws := wsL_winningTurns) B.pre
  have hown : s.vm.findClass RL = some m.cls := findClass_of_methodNamed B.named
  have hlocks := B.notSynchronized
  have htb := vx_table (x := yL_winningTurns) B (hts _ (List.mem_of_getElem? (i := 0) rfl))
  have hD := hD0.self (sz := s.heap.size)
  generalize hAe : va_A [(h0, .inr (3, [.ref lg, .ref fs, .ref ps, .long fa, .long fb, .int mt, .int re])), (ob, .inl (cJ, 1, .inr (.inl ov)))] s.heap.size = A at hD hZ ⊢
  have hA : ∀ q : Nat, s.heap.size ≤ q → A q := fun q h => by rw [← hAe]; exact Or.inr h
  have hS : va_S A s.heap s.heap [] := va_S.rf
  have hl := lv_entry ([.ref h0, .int v, .ref ob]) (n := 4) (Nat.le_of_ble_eq_true rfl)
  rw [lg_entry_eq]
  generalize (lg_sl ([.ref h0, .int v, .ref ob]) ++ List.replicate (4 - (lg_sl ([.ref h0, .int v, .ref ob])).length) Slot.unset).toArray = ls at hl ⊢
  have hl : lv_has ls 4 [(0, .ref h0), (1, .int v), (2, .ref ob)] := hl
  refine lv_aload_n hx hb dL_winningTurns_0 rfl (lv_at hl 2 rfl) ?_
  refine lv_iconst (v := 0) hx hb dL_winningTurns_1 (by decide) ?_
  refine lv_aload_n hx hb dL_winningTurns_2 rfl (lv_at hl 0 rfl) ?_
  refine lv_iload_n hx hb dL_winningTurns_3 rfl (lv_at hl 1 rfl) ?_
  have hPc : va_P D vwCl [(h0, .inr (3, [.ref lg, .ref fs, .ref ps, .long fa, .long fb, .int mt, .int re]))] s.heap := hP.sub (ws' := [(h0, .inr (3, [.ref lg, .ref fs, .ref ps, .long fa, .long fb, .int mt, .int re]))]) [0] rfl
  have hDc : va_D A [(h0, .inr (3, [.ref lg, .ref fs, .ref ps, .long fa, .long fb, .int mt, .int re]))] := hD.sub (ws' := [(h0, .inr (3, [.ref lg, .ref fs, .ref ps, .long fa, .long fb, .int mt, .int re]))]) [0] (by decide) rfl
  have hFc := va_free (wc := [(h0, .inr (3, [.ref lg, .ref fs, .ref ps, .long fa, .long fb, .int mt, .int re]))]) hD hS hA [0] rfl
  refine vx_calli (vx_runV (As := [.int v]) (rest := [.int 0, .ref ob]) ⟨hx, hb, hml, hown, hts⟩ (c_X6_winningTurns l hltr D cI cJ s.heap.size  h0 lg fs ps fa fb mt re v) (cwV 1 hts gL_winningTurns_X6_winningTurns rfl rfl rfl (by decide +kernel) ⟨Nat.le_of_ble_eq_true rfl, Nat.le_of_ble_eq_true rfl⟩) ⟨(px_blindX pv_blind), va_recv hK hPc (ci := 3) (q0 := 0) rfl rfl, fun U hU hW => ⟨rfl, hEX.warm hW, by rw [hU]; exact hZ.to hS hW.alike hFc, by rw [hU], by rw [hU]; exact hPc, va_K.moved hW.alike hK, hDc.weaken (fun _ _ _ _ => trivial)⟩⟩ rfl rfl hl.1 rfl (lv_room (Nat.le_of_ble_eq_true rfl)) dL_winningTurns_4 ⟨(Nat.le_of_ble_eq_true rfl), (Nat.le_of_ble_eq_true rfl)⟩) hS (fun q _ h => hFc q h) hFc (fun q _ h => hFc q h) (fun E ce q9 u9 t9 H1 locs hth hvm hpx hB9 hz1 hk1 hS hce hcv hcl => ?_) (fun r4 u t9 H1 locs hth hvm hw4 hB9 hz1 hk1 hS => ?_)
  · obtain ⟨hb9, hP1, hK1, hD1⟩ := hB9
    rw [hth] at hP1
    obtain ⟨hP, hD⟩ := va_join (wr := [(ob, .inl (cJ, 1, .inr (.inl ov)))]) (w1 := [(h0, .inr (3, [.ref lg, .ref fs, .ref ps, .long fa, .long fb, .int mt, .int re]))]) hP hD [0] [1] rfl rfl (by decide) (by decide) hk1 hFc hP1 hD1
    have hP : va_P D vwCl [(h0, .inr (3, [.ref lg, .ref fs, .ref ps, .long fa, .long fb, .int mt, .int re])), (ob, .inl (cJ, 1, .inr (.inl ov)))] H1 := hP.sub (ws' := [(h0, .inr (3, [.ref lg, .ref fs, .ref ps, .long fa, .long fb, .int mt, .int re])), (ob, .inl (cJ, 1, .inr (.inl ov)))]) [1, 0] rfl
    have hD : va_D A [(h0, .inr (3, [.ref lg, .ref fs, .ref ps, .long fa, .long fb, .int mt, .int re])), (ob, .inl (cJ, 1, .inr (.inl ov)))] := hD.sub (ws' := [(h0, .inr (3, [.ref lg, .ref fs, .ref ps, .long fa, .long fb, .int mt, .int re])), (ob, .inl (cJ, 1, .inr (.inl ov)))]) [1, 0] (by decide) rfl
    exact hb9.elim (fun h => absurd hok.1 h.2) (fun h => absurd hok.2 h.2.2)
  · try dsimp only at hw4
    obtain ⟨hP1, hK1, hD1⟩ := hB9
    rw [hth] at hP1
    obtain ⟨hP, hD⟩ := va_join (wr := [(ob, .inl (cJ, 1, .inr (.inl ov)))]) (w1 := [(h0, .inr (3, [.ref lg, .ref fs, .ref ps, .long fa, .long fb, .int mt, .int re]))]) hP hD [0] [1] rfl rfl (by decide) (by decide) hk1 hFc hP1 hD1
    generalize H1 = H at hP hS ⊢
    have hP : va_P D vwCl [(h0, .inr (3, [.ref lg, .ref fs, .ref ps, .long fa, .long fb, .int mt, .int re])), (ob, .inl (cJ, 1, .inr (.inl ov)))] H := hP.sub (ws' := [(h0, .inr (3, [.ref lg, .ref fs, .ref ps, .long fa, .long fb, .int mt, .int re])), (ob, .inl (cJ, 1, .inr (.inl ov)))]) [1, 0] rfl
    have hD : va_D A [(h0, .inr (3, [.ref lg, .ref fs, .ref ps, .long fa, .long fb, .int mt, .int re])), (ob, .inl (cJ, 1, .inr (.inl ov)))] := hD.sub (ws' := [(h0, .inr (3, [.ref lg, .ref fs, .ref ps, .long fa, .long fb, .int mt, .int re])), (ob, .inl (cJ, 1, .inr (.inl ov)))]) [1, 0] (by decide) rfl
    refine lv_i2l (v := (r4 : Int32).toInt64) hx hb dL_winningTurns_7 rfl ?_
    refine lv_topl (fun x7 ex7 => ?_)
    refine va_last hx hb hK hP hD hS 1 1 rfl rfl (vp_in_nI (n := 0) (N := 1) (by omega) (by decide)) dL_winningTurns_8 (fun H locs hP hD hS => ?_)
    have hu8 : (0 : Int32).toNatClampNeg = 0 := pk_cl 0
    rw [hu8] at hP hD
    have hP : va_P D vwCl [(h0, .inr (3, [.ref lg, .ref fs, .ref ps, .long fa, .long fb, .int mt, .int re])), (ob, .inl (cJ, 1, .inr (.inl (vp_updL ov 0 x7))))] H := hP
    have hD : va_D A [(h0, .inr (3, [.ref lg, .ref fs, .ref ps, .long fa, .long fb, .int mt, .int re])), (ob, .inl (cJ, 1, .inr (.inl (vp_updL ov 0 x7))))] := hD
    refine lv_goto (tgt := 18) hx hb dL_winningTurns_9 (by decide) ?_
    refine lv_iconst (v := 0) hx hb dL_winningTurns_18 (by decide) ?_
    obtain rfl := ex7.symm
    refine W.widen (k := 3) (n := 18) (Nat.le_of_ble_eq_true rfl) (Nat.le_of_ble_eq_true rfl) ?_
    refine W.iret (v := 0) hx hb hr (fun tt ht hW => ⟨⟨0, r4, rfl, ?_, by rw [ht]; exact hP, va_K.moved hW.alike hK, hD⟩, hS.F ht⟩) hS.2.2 dL_winningTurns_19
    exact ⟨rfl, hw4⟩

set_option maxHeartbeats 400000 in
set_option maxRecDepth 100000 in
theorem c_L_winningTurns_bad1 (l : Launch) (hltr : l.stackTraces = false) (D : va_G) (cI cJ : ClassId) (sz : Nat) (h0 lg fs ps : Nat) (fa fb : Int64) (mt re : Int32) (ob : Nat) (ov : Nat → Int64) (v : Int32) (hbad : ¬ icell v) : Met l yL_winningTurns wsL_winningTurns ({ frames := 8, cells := 3, slots := 18, locals := 139 } : Room) (va_Pc [.ref h0, .int v, .ref ob] (px_N (px_X (va_A [(h0, .inr (3, [.ref lg, .ref fs, .ref ps, .long fa, .long fb, .int mt, .int re])), (ob, .inl (cJ, 1, .inr (.inl ov)))] sz) (pv_C D cI cJ [(h0, .inr (3, [.ref lg, .ref fs, .ref ps, .long fa, .long fb, .int mt, .int re])), (ob, .inl (cJ, 1, .inr (.inl ov)))] sz)))) (va_Qi (fun (r : Int32) (u : Unit) => r = 1) (fun (u : Unit) => pv_B D cI cJ (va_A [(h0, .inr (3, [.ref lg, .ref fs, .ref ps, .long fa, .long fb, .int mt, .int re])), (ob, .inl (cJ, 1, .inr (.inl ov)))] sz) [(h0, .inr (3, [.ref lg, .ref fs, .ref ps, .long fa, .long fb, .int mt, .int re])), (ob, .inl (cJ, 1, .inr (.inl ov)))]) (va_A [(h0, .inr (3, [.ref lg, .ref fs, .ref ps, .long fa, .long fb, .int mt, .int re])), (ob, .inl (cJ, 1, .inr (.inl ov)))] sz)) 3 18 (va_A [(h0, .inr (3, [.ref lg, .ref fs, .ref ps, .long fa, .long fb, .int mt, .int re])), (ob, .inl (cJ, 1, .inr (.inl ov)))] sz) := by
  refine va_MetW (cc := cL_winningTurns) (maxL := 4) (ret := (some .int)) (hh := [(0, 9, 12, 13), (0, 9, 15, 15)]) (by decide) rfl ?_
  intro p e s m args below meth c s₁ B hml hv
  obtain ⟨rfl, hNC, hEN, hEX, hZ, rfl, hP, hK, hD0⟩ := hv
  have hx := B.exec
  have hb := B.bytes
  have hr := B.returns
  have hts := atoms_spec (ws := wsL_winningTurns) B.pre
  have hown : s.vm.findClass RL = some m.cls := findClass_of_methodNamed B.named
  have hlocks := B.notSynchronized
  have htb := vx_table (x := yL_winningTurns) B (hts _ (List.mem_of_getElem? (i := 0) rfl))
  have hD := hD0.self (sz := s.heap.size)
  generalize hAe : va_A [(h0, .inr (3, [.ref lg, .ref fs, .ref ps, .long fa, .long fb, .int mt, .int re])), (ob, .inl (cJ, 1, .inr (.inl ov)))] s.heap.size = A at hD hZ ⊢
  have hA : ∀ q : Nat, s.heap.size ≤ q → A q := fun q h => by rw [← hAe]; exact Or.inr h
  have hS : va_S A s.heap s.heap [] := va_S.rf
  have hl := lv_entry ([.ref h0, .int v, .ref ob]) (n := 4) (Nat.le_of_ble_eq_true rfl)
  rw [lg_entry_eq]
  generalize (lg_sl ([.ref h0, .int v, .ref ob]) ++ List.replicate (4 - (lg_sl ([.ref h0, .int v, .ref ob])).length) Slot.unset).toArray = ls at hl ⊢
  have hl : lv_has ls 4 [(0, .ref h0), (1, .int v), (2, .ref ob)] := hl
  refine lv_aload_n hx hb dL_winningTurns_0 rfl (lv_at hl 2 rfl) ?_
  refine lv_iconst (v := 0) hx hb dL_winningTurns_1 (by decide) ?_
  refine lv_aload_n hx hb dL_winningTurns_2 rfl (lv_at hl 0 rfl) ?_
  refine lv_iload_n hx hb dL_winningTurns_3 rfl (lv_at hl 1 rfl) ?_
  have hPc : va_P D vwCl [(h0, .inr (3, [.ref lg, .ref fs, .ref ps, .long fa, .long fb, .int mt, .int re]))] s.heap := hP.sub (ws' := [(h0, .inr (3, [.ref lg, .ref fs, .ref ps, .long fa, .long fb, .int mt, .int re]))]) [0] rfl
  have hDc : va_D A [(h0, .inr (3, [.ref lg, .ref fs, .ref ps, .long fa, .long fb, .int mt, .int re]))] := hD.sub (ws' := [(h0, .inr (3, [.ref lg, .ref fs, .ref ps, .long fa, .long fb, .int mt, .int re]))]) [0] (by decide) rfl
  have hFc := va_free (wc := [(h0, .inr (3, [.ref lg, .ref fs, .ref ps, .long fa, .long fb, .int mt, .int re]))]) hD hS hA [0] rfl
  refine vx_calli (vx_runV (As := [.int v]) (rest := [.int 0, .ref ob]) ⟨hx, hb, hml, hown, hts⟩ (c_X6_winningTurns l hltr D cI cJ s.heap.size  h0 lg fs ps fa fb mt re v) (cwV 1 hts gL_winningTurns_X6_winningTurns rfl rfl rfl (by decide +kernel) ⟨Nat.le_of_ble_eq_true rfl, Nat.le_of_ble_eq_true rfl⟩) ⟨(px_blindX pv_blind), va_recv hK hPc (ci := 3) (q0 := 0) rfl rfl, fun U hU hW => ⟨rfl, hEX.warm hW, by rw [hU]; exact hZ.to hS hW.alike hFc, by rw [hU], by rw [hU]; exact hPc, va_K.moved hW.alike hK, hDc.weaken (fun _ _ _ _ => trivial)⟩⟩ rfl rfl hl.1 rfl (lv_room (Nat.le_of_ble_eq_true rfl)) dL_winningTurns_4 ⟨(Nat.le_of_ble_eq_true rfl), (Nat.le_of_ble_eq_true rfl)⟩) hS (fun q _ h => hFc q h) hFc (fun q _ h => hFc q h) (fun E ce q9 u9 t9 H1 locs hth hvm hpx hB9 hz1 hk1 hS hce hcv hcl => ?_) (fun r4 u t9 H1 locs hth hvm hw4 hB9 hz1 hk1 hS => ?_)
  · obtain ⟨hb9, hP1, hK1, hD1⟩ := hB9
    rw [hth] at hP1
    obtain ⟨hP, hD⟩ := va_join (wr := [(ob, .inl (cJ, 1, .inr (.inl ov)))]) (w1 := [(h0, .inr (3, [.ref lg, .ref fs, .ref ps, .long fa, .long fb, .int mt, .int re]))]) hP hD [0] [1] rfl rfl (by decide) (by decide) hk1 hFc hP1 hD1
    have hP : va_P D vwCl [(h0, .inr (3, [.ref lg, .ref fs, .ref ps, .long fa, .long fb, .int mt, .int re])), (ob, .inl (cJ, 1, .inr (.inl ov)))] H1 := hP.sub (ws' := [(h0, .inr (3, [.ref lg, .ref fs, .ref ps, .long fa, .long fb, .int mt, .int re])), (ob, .inl (cJ, 1, .inr (.inl ov)))]) [1, 0] rfl
    have hD : va_D A [(h0, .inr (3, [.ref lg, .ref fs, .ref ps, .long fa, .long fb, .int mt, .int re])), (ob, .inl (cJ, 1, .inr (.inl ov)))] := hD.sub (ws' := [(h0, .inr (3, [.ref lg, .ref fs, .ref ps, .long fa, .long fb, .int mt, .int re])), (ob, .inl (cJ, 1, .inr (.inl ov)))]) [1, 0] (by decide) rfl
    obtain rfl : E = nIOB := hb9.elim (fun h => h.1) (fun h => absurd h.2.1 hbad)
    refine vx_catch (own := RL) (name := nIOB) hown [] ⟨0, 9, 12, 13⟩ [⟨0, 9, 15, 15⟩] (htb.trans rfl) (fun z hz => nomatch hz) (by decide) (by decide) (hts (.classLink RL 13 nIOB) (by decide +kernel)) (va_Nw.use rfl hEX.2.1) hce hcv hcl ?_
    refine lv_astore_n (lv' := [(3, .ref q9), (0, .ref h0), (1, .int v), (2, .ref ob)]) hx hb dL_winningTurns_12 rfl hl (by decide) rfl (fun ls hl => ?_)
    refine lv_iconst (v := 1) hx hb dL_winningTurns_13 (by decide) ?_
    refine W.widen (k := 3) (n := 18) (Nat.le_of_ble_eq_true rfl) (Nat.le_of_ble_eq_true rfl) ?_
    refine W.iret (v := 1) hx hb hr (fun tt ht hW => ⟨⟨1, (), rfl, ?_, by rw [ht]; exact hP, va_K.moved hW.alike hK, hD⟩, hS.F ht⟩) hS.2.2 dL_winningTurns_14
    exact rfl
  · try dsimp only at hw4
    exact absurd hw4.1 hbad

set_option maxHeartbeats 400000 in
set_option maxRecDepth 100000 in
theorem c_L_winningTurns_bad2 (l : Launch) (hltr : l.stackTraces = false) (D : va_G) (cI cJ : ClassId) (sz : Nat) (h0 lg fs ps : Nat) (fa fb : Int64) (mt re : Int32) (ob : Nat) (ov : Nat → Int64) (v : Int32) (hc : icell v) (hbad : ¬ (re = 0 ∧ mt = 0 ∧ ¬ (cempty fa fb &&& jshl 1 v) = 0)) : Met l yL_winningTurns wsL_winningTurns ({ frames := 8, cells := 3, slots := 18, locals := 139 } : Room) (va_Pc [.ref h0, .int v, .ref ob] (px_N (px_X (va_A [(h0, .inr (3, [.ref lg, .ref fs, .ref ps, .long fa, .long fb, .int mt, .int re])), (ob, .inl (cJ, 1, .inr (.inl ov)))] sz) (pv_C D cI cJ [(h0, .inr (3, [.ref lg, .ref fs, .ref ps, .long fa, .long fb, .int mt, .int re])), (ob, .inl (cJ, 1, .inr (.inl ov)))] sz)))) (va_Qi (fun (r : Int32) (u : Unit) => r = 2) (fun (u : Unit) => pv_B D cI cJ (va_A [(h0, .inr (3, [.ref lg, .ref fs, .ref ps, .long fa, .long fb, .int mt, .int re])), (ob, .inl (cJ, 1, .inr (.inl ov)))] sz) [(h0, .inr (3, [.ref lg, .ref fs, .ref ps, .long fa, .long fb, .int mt, .int re])), (ob, .inl (cJ, 1, .inr (.inl ov)))]) (va_A [(h0, .inr (3, [.ref lg, .ref fs, .ref ps, .long fa, .long fb, .int mt, .int re])), (ob, .inl (cJ, 1, .inr (.inl ov)))] sz)) 3 18 (va_A [(h0, .inr (3, [.ref lg, .ref fs, .ref ps, .long fa, .long fb, .int mt, .int re])), (ob, .inl (cJ, 1, .inr (.inl ov)))] sz) := by
  refine va_MetW (cc := cL_winningTurns) (maxL := 4) (ret := (some .int)) (hh := [(0, 9, 12, 13), (0, 9, 15, 15)]) (by decide) rfl ?_
  intro p e s m args below meth c s₁ B hml hv
  obtain ⟨rfl, hNC, hEN, hEX, hZ, rfl, hP, hK, hD0⟩ := hv
  have hx := B.exec
  have hb := B.bytes
  have hr := B.returns
  have hts := atoms_spec (ws := wsL_winningTurns) B.pre
  have hown : s.vm.findClass RL = some m.cls := findClass_of_methodNamed B.named
  have hlocks := B.notSynchronized
  have htb := vx_table (x := yL_winningTurns) B (hts _ (List.mem_of_getElem? (i := 0) rfl))
  have hD := hD0.self (sz := s.heap.size)
  generalize hAe : va_A [(h0, .inr (3, [.ref lg, .ref fs, .ref ps, .long fa, .long fb, .int mt, .int re])), (ob, .inl (cJ, 1, .inr (.inl ov)))] s.heap.size = A at hD hZ ⊢
  have hA : ∀ q : Nat, s.heap.size ≤ q → A q := fun q h => by rw [← hAe]; exact Or.inr h
  have hS : va_S A s.heap s.heap [] := va_S.rf
  have hl := lv_entry ([.ref h0, .int v, .ref ob]) (n := 4) (Nat.le_of_ble_eq_true rfl)
  rw [lg_entry_eq]
  generalize (lg_sl ([.ref h0, .int v, .ref ob]) ++ List.replicate (4 - (lg_sl ([.ref h0, .int v, .ref ob])).length) Slot.unset).toArray = ls at hl ⊢
  have hl : lv_has ls 4 [(0, .ref h0), (1, .int v), (2, .ref ob)] := hl
  refine lv_aload_n hx hb dL_winningTurns_0 rfl (lv_at hl 2 rfl) ?_
  refine lv_iconst (v := 0) hx hb dL_winningTurns_1 (by decide) ?_
  refine lv_aload_n hx hb dL_winningTurns_2 rfl (lv_at hl 0 rfl) ?_
  refine lv_iload_n hx hb dL_winningTurns_3 rfl (lv_at hl 1 rfl) ?_
  have hPc : va_P D vwCl [(h0, .inr (3, [.ref lg, .ref fs, .ref ps, .long fa, .long fb, .int mt, .int re]))] s.heap := hP.sub (ws' := [(h0, .inr (3, [.ref lg, .ref fs, .ref ps, .long fa, .long fb, .int mt, .int re]))]) [0] rfl
  have hDc : va_D A [(h0, .inr (3, [.ref lg, .ref fs, .ref ps, .long fa, .long fb, .int mt, .int re]))] := hD.sub (ws' := [(h0, .inr (3, [.ref lg, .ref fs, .ref ps, .long fa, .long fb, .int mt, .int re]))]) [0] (by decide) rfl
  have hFc := va_free (wc := [(h0, .inr (3, [.ref lg, .ref fs, .ref ps, .long fa, .long fb, .int mt, .int re]))]) hD hS hA [0] rfl
  refine vx_calli (vx_runV (As := [.int v]) (rest := [.int 0, .ref ob]) ⟨hx, hb, hml, hown, hts⟩ (c_X6_winningTurns l hltr D cI cJ s.heap.size  h0 lg fs ps fa fb mt re v) (cwV 1 hts gL_winningTurns_X6_winningTurns rfl rfl rfl (by decide +kernel) ⟨Nat.le_of_ble_eq_true rfl, Nat.le_of_ble_eq_true rfl⟩) ⟨(px_blindX pv_blind), va_recv hK hPc (ci := 3) (q0 := 0) rfl rfl, fun U hU hW => ⟨rfl, hEX.warm hW, by rw [hU]; exact hZ.to hS hW.alike hFc, by rw [hU], by rw [hU]; exact hPc, va_K.moved hW.alike hK, hDc.weaken (fun _ _ _ _ => trivial)⟩⟩ rfl rfl hl.1 rfl (lv_room (Nat.le_of_ble_eq_true rfl)) dL_winningTurns_4 ⟨(Nat.le_of_ble_eq_true rfl), (Nat.le_of_ble_eq_true rfl)⟩) hS (fun q _ h => hFc q h) hFc (fun q _ h => hFc q h) (fun E ce q9 u9 t9 H1 locs hth hvm hpx hB9 hz1 hk1 hS hce hcv hcl => ?_) (fun r4 u t9 H1 locs hth hvm hw4 hB9 hz1 hk1 hS => ?_)
  · obtain ⟨hb9, hP1, hK1, hD1⟩ := hB9
    rw [hth] at hP1
    obtain ⟨hP, hD⟩ := va_join (wr := [(ob, .inl (cJ, 1, .inr (.inl ov)))]) (w1 := [(h0, .inr (3, [.ref lg, .ref fs, .ref ps, .long fa, .long fb, .int mt, .int re]))]) hP hD [0] [1] rfl rfl (by decide) (by decide) hk1 hFc hP1 hD1
    have hP : va_P D vwCl [(h0, .inr (3, [.ref lg, .ref fs, .ref ps, .long fa, .long fb, .int mt, .int re])), (ob, .inl (cJ, 1, .inr (.inl ov)))] H1 := hP.sub (ws' := [(h0, .inr (3, [.ref lg, .ref fs, .ref ps, .long fa, .long fb, .int mt, .int re])), (ob, .inl (cJ, 1, .inr (.inl ov)))]) [1, 0] rfl
    have hD : va_D A [(h0, .inr (3, [.ref lg, .ref fs, .ref ps, .long fa, .long fb, .int mt, .int re])), (ob, .inl (cJ, 1, .inr (.inl ov)))] := hD.sub (ws' := [(h0, .inr (3, [.ref lg, .ref fs, .ref ps, .long fa, .long fb, .int mt, .int re])), (ob, .inl (cJ, 1, .inr (.inl ov)))]) [1, 0] (by decide) rfl
    obtain rfl : E = nISE := hb9.elim (fun h => absurd hc h.2) (fun h => h.1)
    refine vx_catch (own := RL) (name := nISE) hown [⟨0, 9, 12, 13⟩] ⟨0, 9, 15, 15⟩ [] (htb.trans rfl) (fun z hz => by { obtain rfl := List.mem_singleton.mp hz; exact Or.inr ⟨by decide, nIOB, hts (.classLink RL 13 nIOB) (by decide +kernel), hNC.1⟩ }) (by decide) (by decide) (hts (.classLink RL 15 nISE) (by decide +kernel)) (va_Nw.use rfl hEX.2.2.1) hce hcv hcl ?_
    refine lv_astore_n (lv' := [(3, .ref q9), (0, .ref h0), (1, .int v), (2, .ref ob)]) hx hb dL_winningTurns_15 rfl hl (by decide) rfl (fun ls hl => ?_)
    refine lv_iconst (v := 2) hx hb dL_winningTurns_16 (by decide) ?_
    refine W.widen (k := 3) (n := 18) (Nat.le_of_ble_eq_true rfl) (Nat.le_of_ble_eq_true rfl) ?_
    refine W.iret (v := 2) hx hb hr (fun tt ht hW => ⟨⟨2, (), rfl, ?_, by rw [ht]; exact hP, va_K.moved hW.alike hK, hD⟩, hS.F ht⟩) hS.2.2 dL_winningTurns_17
    exact rfl
  · try dsimp only at hw4
    exact absurd ⟨hw4.2.1, hw4.2.2.1, hw4.2.2.2.1⟩ hbad

set_option maxHeartbeats 400000 in
set_option maxRecDepth 100000 in
theorem c_L_value_ok_0 (l : Launch) (hltr : l.stackTraces = false) (D : va_G) (cI cJ : ClassId) (sz : Nat) (h0 lg fs ps vt vf vv : Nat) (fa fb : Int64) (re : Int32) (fm : Nat → Int64) (vl : Nat → Int32) (hT : TI fm vl) (hB : re = 0 → BV (pop (cempty fa fb)) (cown fa fb 0) (coth fa fb 0))  (ob : Nat) (ov : Nat → Int64) (hok : re = 0 ∧ pop (cempty fa fb) ≤ 3) : Met l yL_value wsL_value ({ frames := 18, cells := 1, slots := 6, locals := 510 } : Room) (va_Pc [.ref h0, .ref ob] (px_N (px_X (va_A [(h0, .inr (3, [.ref lg, .ref fs, .ref ps, .long fa, .long fb, .int 0, .int re])), (fs, .inr (1, [.ref vt])), (vt, .inr (2, [.ref vf, .ref vv])), (vf, .inl (cJ, 1024, .inr (.inl fm))), (vv, .inl (cI, 1024, .inl vl)), (ob, .inl (cJ, 1, .inr (.inl ov)))] sz) (pv_C D cI cJ [(h0, .inr (3, [.ref lg, .ref fs, .ref ps, .long fa, .long fb, .int 0, .int re])), (fs, .inr (1, [.ref vt])), (vt, .inr (2, [.ref vf, .ref vv])), (vf, .inl (cJ, 1024, .inr (.inl fm))), (vv, .inl (cI, 1024, .inl vl)), (ob, .inl (cJ, 1, .inr (.inl ov)))] sz)))) (va_Qi (fun (r : Int32) (u : (Nat → Int64) × (Nat → Int32) × (Int32)) => r = 0 ∧ (re = 0 ∧ pop (cempty fa fb) ≤ 3 ∧ (u.2.2) = vturn (vput (pop (cempty fa fb))) (cown fa fb 1) (coth fa fb 1) 8 ∧ TI u.1 u.2.1)) (fun (u : (Nat → Int64) × (Nat → Int32) × (Int32)) => pv_B D cI cJ (va_A [(h0, .inr (3, [.ref lg, .ref fs, .ref ps, .long fa, .long fb, .int 0, .int re])), (fs, .inr (1, [.ref vt])), (vt, .inr (2, [.ref vf, .ref vv])), (vf, .inl (cJ, 1024, .inr (.inl fm))), (vv, .inl (cI, 1024, .inl vl)), (ob, .inl (cJ, 1, .inr (.inl ov)))] sz) [(h0, .inr (3, [.ref lg, .ref fs, .ref ps, .long fa, .long fb, .int 1, .int re])), (fs, .inr (1, [.ref vt])), (vt, .inr (2, [.ref vf, .ref vv])), (vf, .inl (cJ, 1024, .inr (.inl u.1))), (vv, .inl (cI, 1024, .inl u.2.1)), (ob, .inl (cJ, 1, .inr (.inl (vp_updL ov 0 (u.2.2).toInt64))))]) (va_A [(h0, .inr (3, [.ref lg, .ref fs, .ref ps, .long fa, .long fb, .int 0, .int re])), (fs, .inr (1, [.ref vt])), (vt, .inr (2, [.ref vf, .ref vv])), (vf, .inl (cJ, 1024, .inr (.inl fm))), (vv, .inl (cI, 1024, .inl vl)), (ob, .inl (cJ, 1, .inr (.inl ov)))] sz)) 1 6 (va_A [(h0, .inr (3, [.ref lg, .ref fs, .ref ps, .long fa, .long fb, .int 0, .int re])), (fs, .inr (1, [.ref vt])), (vt, .inr (2, [.ref vf, .ref vv])), (vf, .inl (cJ, 1024, .inr (.inl fm))), (vv, .inl (cI, 1024, .inl vl)), (ob, .inl (cJ, 1, .inr (.inl ov)))] sz) := by
  refine va_MetW (cc := cL_value) (maxL := 3) (ret := (some .int)) (hh := [(0, 8, 11, 15)]) (by decide) rfl ?_
  intro p e s m args below meth c s₁ B hml hv
  obtain ⟨rfl, hNC, hEN, hEX, hZ, rfl, hP, hK, hD0⟩ := hv
  have hx := B.exec
  have hb := B.bytes
  have hr := B.returns
  have hts := atoms_spec (ws := wsL_value) B.pre
  have hown : s.vm.findClass RL = some m.cls := findClass_of_methodNamed B.named
  have hlocks := B.notSynchronized
  have htb := vx_table (x := yL_value) B (hts _ (List.mem_of_getElem? (i := 0) rfl))
  have hD := hD0.self (sz := s.heap.size)
  generalize hAe : va_A [(h0, .inr (3, [.ref lg, .ref fs, .ref ps, .long fa, .long fb, .int 0, .int re])), (fs, .inr (1, [.ref vt])), (vt, .inr (2, [.ref vf, .ref vv])), (vf, .inl (cJ, 1024, .inr (.inl fm))), (vv, .inl (cI, 1024, .inl vl)), (ob, .inl (cJ, 1, .inr (.inl ov)))] s.heap.size = A at hD hZ ⊢
  have hA : ∀ q : Nat, s.heap.size ≤ q → A q := fun q h => by rw [← hAe]; exact Or.inr h
  have hS : va_S A s.heap s.heap [] := va_S.rf
  have hl := lv_entry ([.ref h0, .ref ob]) (n := 3) (Nat.le_of_ble_eq_true rfl)
  rw [lg_entry_eq]
  generalize (lg_sl ([.ref h0, .ref ob]) ++ List.replicate (3 - (lg_sl ([.ref h0, .ref ob])).length) Slot.unset).toArray = ls at hl ⊢
  have hl : lv_has ls 3 [(0, .ref h0), (1, .ref ob)] := hl
  refine lv_aload_n hx hb dL_value_0 rfl (lv_at hl 1 rfl) ?_
  refine lv_iconst (v := 0) hx hb dL_value_1 (by decide) ?_
  refine lv_aload_n hx hb dL_value_2 rfl (lv_at hl 0 rfl) ?_
  have hPc : va_P D vwCl [(h0, .inr (3, [.ref lg, .ref fs, .ref ps, .long fa, .long fb, .int 0, .int re])), (fs, .inr (1, [.ref vt])), (vt, .inr (2, [.ref vf, .ref vv])), (vf, .inl (cJ, 1024, .inr (.inl fm))), (vv, .inl (cI, 1024, .inl vl))] s.heap := hP.sub (ws' := [(h0, .inr (3, [.ref lg, .ref fs, .ref ps, .long fa, .long fb, .int 0, .int re])), (fs, .inr (1, [.ref vt])), (vt, .inr (2, [.ref vf, .ref vv])), (vf, .inl (cJ, 1024, .inr (.inl fm))), (vv, .inl (cI, 1024, .inl vl))]) [0, 1, 2, 3, 4] rfl
  have hDc : va_D A [(h0, .inr (3, [.ref lg, .ref fs, .ref ps, .long fa, .long fb, .int 0, .int re])), (fs, .inr (1, [.ref vt])), (vt, .inr (2, [.ref vf, .ref vv])), (vf, .inl (cJ, 1024, .inr (.inl fm))), (vv, .inl (cI, 1024, .inl vl))] := hD.sub (ws' := [(h0, .inr (3, [.ref lg, .ref fs, .ref ps, .long fa, .long fb, .int 0, .int re])), (fs, .inr (1, [.ref vt])), (vt, .inr (2, [.ref vf, .ref vv])), (vf, .inl (cJ, 1024, .inr (.inl fm))), (vv, .inl (cI, 1024, .inl vl))]) [0, 1, 2, 3, 4] (by decide) rfl
  have hFc := va_free (wc := [(h0, .inr (3, [.ref lg, .ref fs, .ref ps, .long fa, .long fb, .int 0, .int re])), (fs, .inr (1, [.ref vt])), (vt, .inr (2, [.ref vf, .ref vv])), (vf, .inl (cJ, 1024, .inr (.inl fm))), (vv, .inl (cI, 1024, .inl vl))]) hD hS hA [0, 1, 2, 3, 4] rfl
  refine vx_calli (vx_runV (As := []) (rest := [.int 0, .ref ob]) ⟨hx, hb, hml, hown, hts⟩ (c_X6_value_0 l hltr D cI cJ s.heap.size  h0 lg fs ps vt vf vv fa fb re fm vl hT hB) (cwV 0 hts gL_value_X6_value rfl rfl rfl (by decide +kernel) ⟨Nat.le_of_ble_eq_true rfl, Nat.le_of_ble_eq_true rfl⟩) ⟨(px_blindE (px_blindX pv_blind)), va_recv hK hPc (ci := 3) (q0 := 0) rfl rfl, fun U hU hW => ⟨rfl, hEN.warm hW, hEX.warm hW, by rw [hU]; exact hZ.to hS hW.alike hFc, by rw [hU], by rw [hU]; exact hPc, va_K.moved hW.alike hK, hDc.weaken (fun _ _ _ _ => trivial)⟩⟩ rfl rfl hl.1 rfl (lv_room (Nat.le_of_ble_eq_true rfl)) dL_value_3 ⟨(Nat.le_of_ble_eq_true rfl), (Nat.le_of_ble_eq_true rfl)⟩) hS (fun q _ h => hFc q h) hFc (fun q _ h => hFc q h) (fun E ce q9 u9 t9 H1 locs hth hvm hpx hB9 hz1 hk1 hS hce hcv hcl => ?_) (fun r3 u t9 H1 locs hth hvm hw3 hB9 hz1 hk1 hS => ?_)
  · obtain ⟨hb9, hP1, hK1, hD1⟩ := hB9
    rw [hth] at hP1
    obtain ⟨hP, hD⟩ := va_join (wr := [(ob, .inl (cJ, 1, .inr (.inl ov)))]) (w1 := [(h0, .inr (3, [.ref lg, .ref fs, .ref ps, .long fa, .long fb, .int 0, .int re])), (fs, .inr (1, [.ref vt])), (vt, .inr (2, [.ref vf, .ref vv])), (vf, .inl (cJ, 1024, .inr (.inl fm))), (vv, .inl (cI, 1024, .inl vl))]) hP hD [0, 1, 2, 3, 4] [5] rfl rfl (by decide) (by decide) hk1 hFc hP1 hD1
    have hP : va_P D vwCl [(h0, .inr (3, [.ref lg, .ref fs, .ref ps, .long fa, .long fb, .int 0, .int re])), (fs, .inr (1, [.ref vt])), (vt, .inr (2, [.ref vf, .ref vv])), (vf, .inl (cJ, 1024, .inr (.inl fm))), (vv, .inl (cI, 1024, .inl vl)), (ob, .inl (cJ, 1, .inr (.inl ov)))] H1 := hP.sub (ws' := [(h0, .inr (3, [.ref lg, .ref fs, .ref ps, .long fa, .long fb, .int 0, .int re])), (fs, .inr (1, [.ref vt])), (vt, .inr (2, [.ref vf, .ref vv])), (vf, .inl (cJ, 1024, .inr (.inl fm))), (vv, .inl (cI, 1024, .inl vl)), (ob, .inl (cJ, 1, .inr (.inl ov)))]) [1, 2, 3, 4, 5, 0] rfl
    have hD : va_D A [(h0, .inr (3, [.ref lg, .ref fs, .ref ps, .long fa, .long fb, .int 0, .int re])), (fs, .inr (1, [.ref vt])), (vt, .inr (2, [.ref vf, .ref vv])), (vf, .inl (cJ, 1024, .inr (.inl fm))), (vv, .inl (cI, 1024, .inl vl)), (ob, .inl (cJ, 1, .inr (.inl ov)))] := hD.sub (ws' := [(h0, .inr (3, [.ref lg, .ref fs, .ref ps, .long fa, .long fb, .int 0, .int re])), (fs, .inr (1, [.ref vt])), (vt, .inr (2, [.ref vf, .ref vv])), (vf, .inl (cJ, 1024, .inr (.inl fm))), (vv, .inl (cI, 1024, .inl vl)), (ob, .inl (cJ, 1, .inr (.inl ov)))]) [1, 2, 3, 4, 5, 0] (by decide) rfl
    exact (absurd hok hb9.2)
  · try dsimp only at hw3
    obtain ⟨fm3, vl3⟩ := u
    obtain ⟨hP1, hK1, hD1⟩ := hB9
    rw [hth] at hP1
    obtain ⟨hP, hD⟩ := va_join (wr := [(ob, .inl (cJ, 1, .inr (.inl ov)))]) (w1 := [(h0, .inr (3, [.ref lg, .ref fs, .ref ps, .long fa, .long fb, .int 0, .int re])), (fs, .inr (1, [.ref vt])), (vt, .inr (2, [.ref vf, .ref vv])), (vf, .inl (cJ, 1024, .inr (.inl fm3))), (vv, .inl (cI, 1024, .inl vl3))]) hP hD [0, 1, 2, 3, 4] [5] rfl rfl (by decide) (by decide) hk1 hFc hP1 hD1
    generalize H1 = H at hP hS ⊢
    have hP : va_P D vwCl [(h0, .inr (3, [.ref lg, .ref fs, .ref ps, .long fa, .long fb, .int 0, .int re])), (fs, .inr (1, [.ref vt])), (vt, .inr (2, [.ref vf, .ref vv])), (vf, .inl (cJ, 1024, .inr (.inl fm3))), (vv, .inl (cI, 1024, .inl vl3)), (ob, .inl (cJ, 1, .inr (.inl ov)))] H := hP.sub (ws' := [(h0, .inr (3, [.ref lg, .ref fs, .ref ps, .long fa, .long fb, .int 0, .int re])), (fs, .inr (1, [.ref vt])), (vt, .inr (2, [.ref vf, .ref vv])), (vf, .inl (cJ, 1024, .inr (.inl fm3))), (vv, .inl (cI, 1024, .inl vl3)), (ob, .inl (cJ, 1, .inr (.inl ov)))]) [1, 2, 3, 4, 5, 0] rfl
    have hD : va_D A [(h0, .inr (3, [.ref lg, .ref fs, .ref ps, .long fa, .long fb, .int 0, .int re])), (fs, .inr (1, [.ref vt])), (vt, .inr (2, [.ref vf, .ref vv])), (vf, .inl (cJ, 1024, .inr (.inl fm3))), (vv, .inl (cI, 1024, .inl vl3)), (ob, .inl (cJ, 1, .inr (.inl ov)))] := hD.sub (ws' := [(h0, .inr (3, [.ref lg, .ref fs, .ref ps, .long fa, .long fb, .int 0, .int re])), (fs, .inr (1, [.ref vt])), (vt, .inr (2, [.ref vf, .ref vv])), (vf, .inl (cJ, 1024, .inr (.inl fm3))), (vv, .inl (cI, 1024, .inl vl3)), (ob, .inl (cJ, 1, .inr (.inl ov)))]) [1, 2, 3, 4, 5, 0] (by decide) rfl
    refine lv_i2l (v := (r3 : Int32).toInt64) hx hb dL_value_6 rfl ?_
    refine lv_topl (fun x6 ex6 => ?_)
    refine va_last hx hb hK hP hD hS 5 1 rfl rfl (vp_in_nI (n := 0) (N := 1) (by omega) (by decide)) dL_value_7 (fun H locs hP hD hS => ?_)
    have hu7 : (0 : Int32).toNatClampNeg = 0 := pk_cl 0
    rw [hu7] at hP hD
    have hP : va_P D vwCl [(h0, .inr (3, [.ref lg, .ref fs, .ref ps, .long fa, .long fb, .int 0, .int re])), (fs, .inr (1, [.ref vt])), (vt, .inr (2, [.ref vf, .ref vv])), (vf, .inl (cJ, 1024, .inr (.inl fm3))), (vv, .inl (cI, 1024, .inl vl3)), (ob, .inl (cJ, 1, .inr (.inl (vp_updL ov 0 x6))))] H := hP
    have hD : va_D A [(h0, .inr (3, [.ref lg, .ref fs, .ref ps, .long fa, .long fb, .int 0, .int re])), (fs, .inr (1, [.ref vt])), (vt, .inr (2, [.ref vf, .ref vv])), (vf, .inl (cJ, 1024, .inr (.inl fm3))), (vv, .inl (cI, 1024, .inl vl3)), (ob, .inl (cJ, 1, .inr (.inl (vp_updL ov 0 x6))))] := hD
    refine lv_goto (tgt := 14) hx hb dL_value_8 (by decide) ?_
    refine lv_iconst (v := 0) hx hb dL_value_14 (by decide) ?_
    obtain rfl := ex6.symm
    refine W.widen (k := 1) (n := 6) (Nat.le_of_ble_eq_true rfl) (Nat.le_of_ble_eq_true rfl) ?_
    refine W.iret (v := 0) hx hb hr (fun tt ht hW => ⟨⟨0, (fm3, vl3, r3), rfl, ?_, by rw [ht]; exact hP, va_K.moved hW.alike hK, hD⟩, hS.F ht⟩) hS.2.2 dL_value_15
    exact ⟨rfl, hw3⟩

set_option maxHeartbeats 400000 in
set_option maxRecDepth 100000 in
theorem c_L_value_bad_0 (l : Launch) (hltr : l.stackTraces = false) (D : va_G) (cI cJ : ClassId) (sz : Nat) (h0 lg fs ps vt vf vv : Nat) (fa fb : Int64) (re : Int32) (fm : Nat → Int64) (vl : Nat → Int32) (hT : TI fm vl) (hB : re = 0 → BV (pop (cempty fa fb)) (cown fa fb 0) (coth fa fb 0))  (ob : Nat) (ov : Nat → Int64) (hbad : ¬ (re = 0 ∧ pop (cempty fa fb) ≤ 3)) : Met l yL_value wsL_value ({ frames := 18, cells := 1, slots := 6, locals := 510 } : Room) (va_Pc [.ref h0, .ref ob] (px_N (px_X (va_A [(h0, .inr (3, [.ref lg, .ref fs, .ref ps, .long fa, .long fb, .int 0, .int re])), (fs, .inr (1, [.ref vt])), (vt, .inr (2, [.ref vf, .ref vv])), (vf, .inl (cJ, 1024, .inr (.inl fm))), (vv, .inl (cI, 1024, .inl vl)), (ob, .inl (cJ, 1, .inr (.inl ov)))] sz) (pv_C D cI cJ [(h0, .inr (3, [.ref lg, .ref fs, .ref ps, .long fa, .long fb, .int 0, .int re])), (fs, .inr (1, [.ref vt])), (vt, .inr (2, [.ref vf, .ref vv])), (vf, .inl (cJ, 1024, .inr (.inl fm))), (vv, .inl (cI, 1024, .inl vl)), (ob, .inl (cJ, 1, .inr (.inl ov)))] sz)))) (va_Qi (fun (r : Int32) (u : Unit) => r = 1) (fun (u : Unit) => pv_B D cI cJ (va_A [(h0, .inr (3, [.ref lg, .ref fs, .ref ps, .long fa, .long fb, .int 0, .int re])), (fs, .inr (1, [.ref vt])), (vt, .inr (2, [.ref vf, .ref vv])), (vf, .inl (cJ, 1024, .inr (.inl fm))), (vv, .inl (cI, 1024, .inl vl)), (ob, .inl (cJ, 1, .inr (.inl ov)))] sz) [(h0, .inr (3, [.ref lg, .ref fs, .ref ps, .long fa, .long fb, .int 0, .int re])), (fs, .inr (1, [.ref vt])), (vt, .inr (2, [.ref vf, .ref vv])), (vf, .inl (cJ, 1024, .inr (.inl fm))), (vv, .inl (cI, 1024, .inl vl)), (ob, .inl (cJ, 1, .inr (.inl ov)))]) (va_A [(h0, .inr (3, [.ref lg, .ref fs, .ref ps, .long fa, .long fb, .int 0, .int re])), (fs, .inr (1, [.ref vt])), (vt, .inr (2, [.ref vf, .ref vv])), (vf, .inl (cJ, 1024, .inr (.inl fm))), (vv, .inl (cI, 1024, .inl vl)), (ob, .inl (cJ, 1, .inr (.inl ov)))] sz)) 1 6 (va_A [(h0, .inr (3, [.ref lg, .ref fs, .ref ps, .long fa, .long fb, .int 0, .int re])), (fs, .inr (1, [.ref vt])), (vt, .inr (2, [.ref vf, .ref vv])), (vf, .inl (cJ, 1024, .inr (.inl fm))), (vv, .inl (cI, 1024, .inl vl)), (ob, .inl (cJ, 1, .inr (.inl ov)))] sz) := by
  refine va_MetW (cc := cL_value) (maxL := 3) (ret := (some .int)) (hh := [(0, 8, 11, 15)]) (by decide) rfl ?_
  intro p e s m args below meth c s₁ B hml hv
  obtain ⟨rfl, hNC, hEN, hEX, hZ, rfl, hP, hK, hD0⟩ := hv
  have hx := B.exec
  have hb := B.bytes
  have hr := B.returns
  have hts := atoms_spec (ws := wsL_value) B.pre
  have hown : s.vm.findClass RL = some m.cls := findClass_of_methodNamed B.named
  have hlocks := B.notSynchronized
  have htb := vx_table (x := yL_value) B (hts _ (List.mem_of_getElem? (i := 0) rfl))
  have hD := hD0.self (sz := s.heap.size)
  generalize hAe : va_A [(h0, .inr (3, [.ref lg, .ref fs, .ref ps, .long fa, .long fb, .int 0, .int re])), (fs, .inr (1, [.ref vt])), (vt, .inr (2, [.ref vf, .ref vv])), (vf, .inl (cJ, 1024, .inr (.inl fm))), (vv, .inl (cI, 1024, .inl vl)), (ob, .inl (cJ, 1, .inr (.inl ov)))] s.heap.size = A at hD hZ ⊢
  have hA : ∀ q : Nat, s.heap.size ≤ q → A q := fun q h => by rw [← hAe]; exact Or.inr h
  have hS : va_S A s.heap s.heap [] := va_S.rf
  have hl := lv_entry ([.ref h0, .ref ob]) (n := 3) (Nat.le_of_ble_eq_true rfl)
  rw [lg_entry_eq]
  generalize (lg_sl ([.ref h0, .ref ob]) ++ List.replicate (3 - (lg_sl ([.ref h0, .ref ob])).length) Slot.unset).toArray = ls at hl ⊢
  have hl : lv_has ls 3 [(0, .ref h0), (1, .ref ob)] := hl
  refine lv_aload_n hx hb dL_value_0 rfl (lv_at hl 1 rfl) ?_
  refine lv_iconst (v := 0) hx hb dL_value_1 (by decide) ?_
  refine lv_aload_n hx hb dL_value_2 rfl (lv_at hl 0 rfl) ?_
  have hPc : va_P D vwCl [(h0, .inr (3, [.ref lg, .ref fs, .ref ps, .long fa, .long fb, .int 0, .int re])), (fs, .inr (1, [.ref vt])), (vt, .inr (2, [.ref vf, .ref vv])), (vf, .inl (cJ, 1024, .inr (.inl fm))), (vv, .inl (cI, 1024, .inl vl))] s.heap := hP.sub (ws' := [(h0, .inr (3, [.ref lg, .ref fs, .ref ps, .long fa, .long fb, .int 0, .int re])), (fs, .inr (1, [.ref vt])), (vt, .inr (2, [.ref vf, .ref vv])), (vf, .inl (cJ, 1024, .inr (.inl fm))), (vv, .inl (cI, 1024, .inl vl))]) [0, 1, 2, 3, 4] rfl
  have hDc : va_D A [(h0, .inr (3, [.ref lg, .ref fs, .ref ps, .long fa, .long fb, .int 0, .int re])), (fs, .inr (1, [.ref vt])), (vt, .inr (2, [.ref vf, .ref vv])), (vf, .inl (cJ, 1024, .inr (.inl fm))), (vv, .inl (cI, 1024, .inl vl))] := hD.sub (ws' := [(h0, .inr (3, [.ref lg, .ref fs, .ref ps, .long fa, .long fb, .int 0, .int re])), (fs, .inr (1, [.ref vt])), (vt, .inr (2, [.ref vf, .ref vv])), (vf, .inl (cJ, 1024, .inr (.inl fm))), (vv, .inl (cI, 1024, .inl vl))]) [0, 1, 2, 3, 4] (by decide) rfl
  have hFc := va_free (wc := [(h0, .inr (3, [.ref lg, .ref fs, .ref ps, .long fa, .long fb, .int 0, .int re])), (fs, .inr (1, [.ref vt])), (vt, .inr (2, [.ref vf, .ref vv])), (vf, .inl (cJ, 1024, .inr (.inl fm))), (vv, .inl (cI, 1024, .inl vl))]) hD hS hA [0, 1, 2, 3, 4] rfl
  refine vx_calli (vx_runV (As := []) (rest := [.int 0, .ref ob]) ⟨hx, hb, hml, hown, hts⟩ (c_X6_value_0 l hltr D cI cJ s.heap.size  h0 lg fs ps vt vf vv fa fb re fm vl hT hB) (cwV 0 hts gL_value_X6_value rfl rfl rfl (by decide +kernel) ⟨Nat.le_of_ble_eq_true rfl, Nat.le_of_ble_eq_true rfl⟩) ⟨(px_blindE (px_blindX pv_blind)), va_recv hK hPc (ci := 3) (q0 := 0) rfl rfl, fun U hU hW => ⟨rfl, hEN.warm hW, hEX.warm hW, by rw [hU]; exact hZ.to hS hW.alike hFc, by rw [hU], by rw [hU]; exact hPc, va_K.moved hW.alike hK, hDc.weaken (fun _ _ _ _ => trivial)⟩⟩ rfl rfl hl.1 rfl (lv_room (Nat.le_of_ble_eq_true rfl)) dL_value_3 ⟨(Nat.le_of_ble_eq_true rfl), (Nat.le_of_ble_eq_true rfl)⟩) hS (fun q _ h => hFc q h) hFc (fun q _ h => hFc q h) (fun E ce q9 u9 t9 H1 locs hth hvm hpx hB9 hz1 hk1 hS hce hcv hcl => ?_) (fun r3 u t9 H1 locs hth hvm hw3 hB9 hz1 hk1 hS => ?_)
  · obtain ⟨hb9, hP1, hK1, hD1⟩ := hB9
    rw [hth] at hP1
    obtain ⟨hP, hD⟩ := va_join (wr := [(ob, .inl (cJ, 1, .inr (.inl ov)))]) (w1 := [(h0, .inr (3, [.ref lg, .ref fs, .ref ps, .long fa, .long fb, .int 0, .int re])), (fs, .inr (1, [.ref vt])), (vt, .inr (2, [.ref vf, .ref vv])), (vf, .inl (cJ, 1024, .inr (.inl fm))), (vv, .inl (cI, 1024, .inl vl))]) hP hD [0, 1, 2, 3, 4] [5] rfl rfl (by decide) (by decide) hk1 hFc hP1 hD1
    have hP : va_P D vwCl [(h0, .inr (3, [.ref lg, .ref fs, .ref ps, .long fa, .long fb, .int 0, .int re])), (fs, .inr (1, [.ref vt])), (vt, .inr (2, [.ref vf, .ref vv])), (vf, .inl (cJ, 1024, .inr (.inl fm))), (vv, .inl (cI, 1024, .inl vl)), (ob, .inl (cJ, 1, .inr (.inl ov)))] H1 := hP.sub (ws' := [(h0, .inr (3, [.ref lg, .ref fs, .ref ps, .long fa, .long fb, .int 0, .int re])), (fs, .inr (1, [.ref vt])), (vt, .inr (2, [.ref vf, .ref vv])), (vf, .inl (cJ, 1024, .inr (.inl fm))), (vv, .inl (cI, 1024, .inl vl)), (ob, .inl (cJ, 1, .inr (.inl ov)))]) [1, 2, 3, 4, 5, 0] rfl
    have hD : va_D A [(h0, .inr (3, [.ref lg, .ref fs, .ref ps, .long fa, .long fb, .int 0, .int re])), (fs, .inr (1, [.ref vt])), (vt, .inr (2, [.ref vf, .ref vv])), (vf, .inl (cJ, 1024, .inr (.inl fm))), (vv, .inl (cI, 1024, .inl vl)), (ob, .inl (cJ, 1, .inr (.inl ov)))] := hD.sub (ws' := [(h0, .inr (3, [.ref lg, .ref fs, .ref ps, .long fa, .long fb, .int 0, .int re])), (fs, .inr (1, [.ref vt])), (vt, .inr (2, [.ref vf, .ref vv])), (vf, .inl (cJ, 1024, .inr (.inl fm))), (vv, .inl (cI, 1024, .inl vl)), (ob, .inl (cJ, 1, .inr (.inl ov)))]) [1, 2, 3, 4, 5, 0] (by decide) rfl
    obtain rfl : E = nISE := hb9.1
    refine vx_catch (own := RL) (name := nISE) hown [] ⟨0, 8, 11, 15⟩ [] (htb.trans rfl) (fun z hz => nomatch hz) (by decide) (by decide) (hts (.classLink RL 15 nISE) (by decide +kernel)) (va_Nw.use rfl hEX.2.2.1) hce hcv hcl ?_
    refine lv_astore_n (lv' := [(2, .ref q9), (0, .ref h0), (1, .ref ob)]) hx hb dL_value_11 rfl hl (by decide) rfl (fun ls hl => ?_)
    refine lv_iconst (v := 1) hx hb dL_value_12 (by decide) ?_
    refine W.widen (k := 1) (n := 6) (Nat.le_of_ble_eq_true rfl) (Nat.le_of_ble_eq_true rfl) ?_
    refine W.iret (v := 1) hx hb hr (fun tt ht hW => ⟨⟨1, (), rfl, ?_, by rw [ht]; exact hP, va_K.moved hW.alike hK, hD⟩, hS.F ht⟩) hS.2.2 dL_value_13
    exact rfl
  · try dsimp only at hw3
    exact absurd ⟨hw3.1, hw3.2.1⟩ hbad

set_option maxHeartbeats 400000 in
set_option maxRecDepth 100000 in
theorem c_L_bestMove_ok_0 (l : Launch) (hltr : l.stackTraces = false) (D : va_G) (cI cJ : ClassId) (sz : Nat) (h0 lg fs ps vt vf vv : Nat) (fa fb : Int64) (re : Int32) (fm : Nat → Int64) (vl : Nat → Int32) (hT : TI fm vl) (hpos : re = 0 → 0 < pop (cempty fa fb)) (hB : re = 0 → BV (pop (cempty fa fb)) (cown fa fb 0) (coth fa fb 0))  (ob : Nat) (ov : Nat → Int64) (hok : re = 0 ∧ pop (cempty fa fb) ≤ 3) : Met l yL_bestMove wsL_bestMove ({ frames := 17, cells := 1, slots := 6, locals := 491 } : Room) (va_Pc [.ref h0, .ref ob] (px_N (px_X (va_A [(h0, .inr (3, [.ref lg, .ref fs, .ref ps, .long fa, .long fb, .int 0, .int re])), (fs, .inr (1, [.ref vt])), (vt, .inr (2, [.ref vf, .ref vv])), (vf, .inl (cJ, 1024, .inr (.inl fm))), (vv, .inl (cI, 1024, .inl vl)), (ob, .inl (cJ, 1, .inr (.inl ov)))] sz) (pv_C D cI cJ [(h0, .inr (3, [.ref lg, .ref fs, .ref ps, .long fa, .long fb, .int 0, .int re])), (fs, .inr (1, [.ref vt])), (vt, .inr (2, [.ref vf, .ref vv])), (vf, .inl (cJ, 1024, .inr (.inl fm))), (vv, .inl (cI, 1024, .inl vl)), (ob, .inl (cJ, 1, .inr (.inl ov)))] sz)))) (va_Qi (fun (r : Int32) (u : (Nat → Int64) × (Nat → Int32) × (Int32)) => r = 0 ∧ (re = 0 ∧ pop (cempty fa fb) ≤ 3 ∧ (u.2.2) = cbest (pop (cempty fa fb)) fa fb 1 ∧ TI u.1 u.2.1)) (fun (u : (Nat → Int64) × (Nat → Int32) × (Int32)) => pv_B D cI cJ (va_A [(h0, .inr (3, [.ref lg, .ref fs, .ref ps, .long fa, .long fb, .int 0, .int re])), (fs, .inr (1, [.ref vt])), (vt, .inr (2, [.ref vf, .ref vv])), (vf, .inl (cJ, 1024, .inr (.inl fm))), (vv, .inl (cI, 1024, .inl vl)), (ob, .inl (cJ, 1, .inr (.inl ov)))] sz) [(h0, .inr (3, [.ref lg, .ref fs, .ref ps, .long fa, .long fb, .int 1, .int re])), (fs, .inr (1, [.ref vt])), (vt, .inr (2, [.ref vf, .ref vv])), (vf, .inl (cJ, 1024, .inr (.inl u.1))), (vv, .inl (cI, 1024, .inl u.2.1)), (ob, .inl (cJ, 1, .inr (.inl (vp_updL ov 0 (u.2.2).toInt64))))]) (va_A [(h0, .inr (3, [.ref lg, .ref fs, .ref ps, .long fa, .long fb, .int 0, .int re])), (fs, .inr (1, [.ref vt])), (vt, .inr (2, [.ref vf, .ref vv])), (vf, .inl (cJ, 1024, .inr (.inl fm))), (vv, .inl (cI, 1024, .inl vl)), (ob, .inl (cJ, 1, .inr (.inl ov)))] sz)) 1 6 (va_A [(h0, .inr (3, [.ref lg, .ref fs, .ref ps, .long fa, .long fb, .int 0, .int re])), (fs, .inr (1, [.ref vt])), (vt, .inr (2, [.ref vf, .ref vv])), (vf, .inl (cJ, 1024, .inr (.inl fm))), (vv, .inl (cI, 1024, .inl vl)), (ob, .inl (cJ, 1, .inr (.inl ov)))] sz) := by
  refine va_MetW (cc := cL_bestMove) (maxL := 3) (ret := (some .int)) (hh := [(0, 8, 11, 15)]) (by decide) rfl ?_
  intro p e s m args below meth c s₁ B hml hv
  obtain ⟨rfl, hNC, hEN, hEX, hZ, rfl, hP, hK, hD0⟩ := hv
  have hx := B.exec
  have hb := B.bytes
  have hr := B.returns
  have hts := atoms_spec (ws := wsL_bestMove) B.pre
  have hown : s.vm.findClass RL = some m.cls := findClass_of_methodNamed B.named
  have hlocks := B.notSynchronized
  have htb := vx_table (x := yL_bestMove) B (hts _ (List.mem_of_getElem? (i := 0) rfl))
  have hD := hD0.self (sz := s.heap.size)
  generalize hAe : va_A [(h0, .inr (3, [.ref lg, .ref fs, .ref ps, .long fa, .long fb, .int 0, .int re])), (fs, .inr (1, [.ref vt])), (vt, .inr (2, [.ref vf, .ref vv])), (vf, .inl (cJ, 1024, .inr (.inl fm))), (vv, .inl (cI, 1024, .inl vl)), (ob, .inl (cJ, 1, .inr (.inl ov)))] s.heap.size = A at hD hZ ⊢
  have hA : ∀ q : Nat, s.heap.size ≤ q → A q := fun q h => by rw [← hAe]; exact Or.inr h
  have hS : va_S A s.heap s.heap [] := va_S.rf
  have hl := lv_entry ([.ref h0, .ref ob]) (n := 3) (Nat.le_of_ble_eq_true rfl)
  rw [lg_entry_eq]
  generalize (lg_sl ([.ref h0, .ref ob]) ++ List.replicate (3 - (lg_sl ([.ref h0, .ref ob])).length) Slot.unset).toArray = ls at hl ⊢
  have hl : lv_has ls 3 [(0, .ref h0), (1, .ref ob)] := hl
  refine lv_aload_n hx hb dL_bestMove_0 rfl (lv_at hl 1 rfl) ?_
  refine lv_iconst (v := 0) hx hb dL_bestMove_1 (by decide) ?_
  refine lv_aload_n hx hb dL_bestMove_2 rfl (lv_at hl 0 rfl) ?_
  have hPc : va_P D vwCl [(h0, .inr (3, [.ref lg, .ref fs, .ref ps, .long fa, .long fb, .int 0, .int re])), (fs, .inr (1, [.ref vt])), (vt, .inr (2, [.ref vf, .ref vv])), (vf, .inl (cJ, 1024, .inr (.inl fm))), (vv, .inl (cI, 1024, .inl vl))] s.heap := hP.sub (ws' := [(h0, .inr (3, [.ref lg, .ref fs, .ref ps, .long fa, .long fb, .int 0, .int re])), (fs, .inr (1, [.ref vt])), (vt, .inr (2, [.ref vf, .ref vv])), (vf, .inl (cJ, 1024, .inr (.inl fm))), (vv, .inl (cI, 1024, .inl vl))]) [0, 1, 2, 3, 4] rfl
  have hDc : va_D A [(h0, .inr (3, [.ref lg, .ref fs, .ref ps, .long fa, .long fb, .int 0, .int re])), (fs, .inr (1, [.ref vt])), (vt, .inr (2, [.ref vf, .ref vv])), (vf, .inl (cJ, 1024, .inr (.inl fm))), (vv, .inl (cI, 1024, .inl vl))] := hD.sub (ws' := [(h0, .inr (3, [.ref lg, .ref fs, .ref ps, .long fa, .long fb, .int 0, .int re])), (fs, .inr (1, [.ref vt])), (vt, .inr (2, [.ref vf, .ref vv])), (vf, .inl (cJ, 1024, .inr (.inl fm))), (vv, .inl (cI, 1024, .inl vl))]) [0, 1, 2, 3, 4] (by decide) rfl
  have hFc := va_free (wc := [(h0, .inr (3, [.ref lg, .ref fs, .ref ps, .long fa, .long fb, .int 0, .int re])), (fs, .inr (1, [.ref vt])), (vt, .inr (2, [.ref vf, .ref vv])), (vf, .inl (cJ, 1024, .inr (.inl fm))), (vv, .inl (cI, 1024, .inl vl))]) hD hS hA [0, 1, 2, 3, 4] rfl
  refine vx_calli (vx_runV (As := []) (rest := [.int 0, .ref ob]) ⟨hx, hb, hml, hown, hts⟩ (c_X6_bestMove_0 l hltr D cI cJ s.heap.size  h0 lg fs ps vt vf vv fa fb re fm vl hT hpos hB) (cwV 0 hts gL_bestMove_X6_bestMove rfl rfl rfl (by decide +kernel) ⟨Nat.le_of_ble_eq_true rfl, Nat.le_of_ble_eq_true rfl⟩) ⟨(px_blindE (px_blindX pv_blind)), va_recv hK hPc (ci := 3) (q0 := 0) rfl rfl, fun U hU hW => ⟨rfl, hEN.warm hW, hEX.warm hW, by rw [hU]; exact hZ.to hS hW.alike hFc, by rw [hU], by rw [hU]; exact hPc, va_K.moved hW.alike hK, hDc.weaken (fun _ _ _ _ => trivial)⟩⟩ rfl rfl hl.1 rfl (lv_room (Nat.le_of_ble_eq_true rfl)) dL_bestMove_3 ⟨(Nat.le_of_ble_eq_true rfl), (Nat.le_of_ble_eq_true rfl)⟩) hS (fun q _ h => hFc q h) hFc (fun q _ h => hFc q h) (fun E ce q9 u9 t9 H1 locs hth hvm hpx hB9 hz1 hk1 hS hce hcv hcl => ?_) (fun r3 u t9 H1 locs hth hvm hw3 hB9 hz1 hk1 hS => ?_)
  · obtain ⟨hb9, hP1, hK1, hD1⟩ := hB9
    rw [hth] at hP1
    obtain ⟨hP, hD⟩ := va_join (wr := [(ob, .inl (cJ, 1, .inr (.inl ov)))]) (w1 := [(h0, .inr (3, [.ref lg, .ref fs, .ref ps, .long fa, .long fb, .int 0, .int re])), (fs, .inr (1, [.ref vt])), (vt, .inr (2, [.ref vf, .ref vv])), (vf, .inl (cJ, 1024, .inr (.inl fm))), (vv, .inl (cI, 1024, .inl vl))]) hP hD [0, 1, 2, 3, 4] [5] rfl rfl (by decide) (by decide) hk1 hFc hP1 hD1
    have hP : va_P D vwCl [(h0, .inr (3, [.ref lg, .ref fs, .ref ps, .long fa, .long fb, .int 0, .int re])), (fs, .inr (1, [.ref vt])), (vt, .inr (2, [.ref vf, .ref vv])), (vf, .inl (cJ, 1024, .inr (.inl fm))), (vv, .inl (cI, 1024, .inl vl)), (ob, .inl (cJ, 1, .inr (.inl ov)))] H1 := hP.sub (ws' := [(h0, .inr (3, [.ref lg, .ref fs, .ref ps, .long fa, .long fb, .int 0, .int re])), (fs, .inr (1, [.ref vt])), (vt, .inr (2, [.ref vf, .ref vv])), (vf, .inl (cJ, 1024, .inr (.inl fm))), (vv, .inl (cI, 1024, .inl vl)), (ob, .inl (cJ, 1, .inr (.inl ov)))]) [1, 2, 3, 4, 5, 0] rfl
    have hD : va_D A [(h0, .inr (3, [.ref lg, .ref fs, .ref ps, .long fa, .long fb, .int 0, .int re])), (fs, .inr (1, [.ref vt])), (vt, .inr (2, [.ref vf, .ref vv])), (vf, .inl (cJ, 1024, .inr (.inl fm))), (vv, .inl (cI, 1024, .inl vl)), (ob, .inl (cJ, 1, .inr (.inl ov)))] := hD.sub (ws' := [(h0, .inr (3, [.ref lg, .ref fs, .ref ps, .long fa, .long fb, .int 0, .int re])), (fs, .inr (1, [.ref vt])), (vt, .inr (2, [.ref vf, .ref vv])), (vf, .inl (cJ, 1024, .inr (.inl fm))), (vv, .inl (cI, 1024, .inl vl)), (ob, .inl (cJ, 1, .inr (.inl ov)))]) [1, 2, 3, 4, 5, 0] (by decide) rfl
    exact (absurd hok hb9.2)
  · try dsimp only at hw3
    obtain ⟨fm3, vl3⟩ := u
    obtain ⟨hP1, hK1, hD1⟩ := hB9
    rw [hth] at hP1
    obtain ⟨hP, hD⟩ := va_join (wr := [(ob, .inl (cJ, 1, .inr (.inl ov)))]) (w1 := [(h0, .inr (3, [.ref lg, .ref fs, .ref ps, .long fa, .long fb, .int 0, .int re])), (fs, .inr (1, [.ref vt])), (vt, .inr (2, [.ref vf, .ref vv])), (vf, .inl (cJ, 1024, .inr (.inl fm3))), (vv, .inl (cI, 1024, .inl vl3))]) hP hD [0, 1, 2, 3, 4] [5] rfl rfl (by decide) (by decide) hk1 hFc hP1 hD1
    generalize H1 = H at hP hS ⊢
    have hP : va_P D vwCl [(h0, .inr (3, [.ref lg, .ref fs, .ref ps, .long fa, .long fb, .int 0, .int re])), (fs, .inr (1, [.ref vt])), (vt, .inr (2, [.ref vf, .ref vv])), (vf, .inl (cJ, 1024, .inr (.inl fm3))), (vv, .inl (cI, 1024, .inl vl3)), (ob, .inl (cJ, 1, .inr (.inl ov)))] H := hP.sub (ws' := [(h0, .inr (3, [.ref lg, .ref fs, .ref ps, .long fa, .long fb, .int 0, .int re])), (fs, .inr (1, [.ref vt])), (vt, .inr (2, [.ref vf, .ref vv])), (vf, .inl (cJ, 1024, .inr (.inl fm3))), (vv, .inl (cI, 1024, .inl vl3)), (ob, .inl (cJ, 1, .inr (.inl ov)))]) [1, 2, 3, 4, 5, 0] rfl
    have hD : va_D A [(h0, .inr (3, [.ref lg, .ref fs, .ref ps, .long fa, .long fb, .int 0, .int re])), (fs, .inr (1, [.ref vt])), (vt, .inr (2, [.ref vf, .ref vv])), (vf, .inl (cJ, 1024, .inr (.inl fm3))), (vv, .inl (cI, 1024, .inl vl3)), (ob, .inl (cJ, 1, .inr (.inl ov)))] := hD.sub (ws' := [(h0, .inr (3, [.ref lg, .ref fs, .ref ps, .long fa, .long fb, .int 0, .int re])), (fs, .inr (1, [.ref vt])), (vt, .inr (2, [.ref vf, .ref vv])), (vf, .inl (cJ, 1024, .inr (.inl fm3))), (vv, .inl (cI, 1024, .inl vl3)), (ob, .inl (cJ, 1, .inr (.inl ov)))]) [1, 2, 3, 4, 5, 0] (by decide) rfl
    refine lv_i2l (v := (r3 : Int32).toInt64) hx hb dL_bestMove_6 rfl ?_
    refine lv_topl (fun x6 ex6 => ?_)
    refine va_last hx hb hK hP hD hS 5 1 rfl rfl (vp_in_nI (n := 0) (N := 1) (by omega) (by decide)) dL_bestMove_7 (fun H locs hP hD hS => ?_)
    have hu7 : (0 : Int32).toNatClampNeg = 0 := pk_cl 0
    rw [hu7] at hP hD
    have hP : va_P D vwCl [(h0, .inr (3, [.ref lg, .ref fs, .ref ps, .long fa, .long fb, .int 0, .int re])), (fs, .inr (1, [.ref vt])), (vt, .inr (2, [.ref vf, .ref vv])), (vf, .inl (cJ, 1024, .inr (.inl fm3))), (vv, .inl (cI, 1024, .inl vl3)), (ob, .inl (cJ, 1, .inr (.inl (vp_updL ov 0 x6))))] H := hP
    have hD : va_D A [(h0, .inr (3, [.ref lg, .ref fs, .ref ps, .long fa, .long fb, .int 0, .int re])), (fs, .inr (1, [.ref vt])), (vt, .inr (2, [.ref vf, .ref vv])), (vf, .inl (cJ, 1024, .inr (.inl fm3))), (vv, .inl (cI, 1024, .inl vl3)), (ob, .inl (cJ, 1, .inr (.inl (vp_updL ov 0 x6))))] := hD
    refine lv_goto (tgt := 14) hx hb dL_bestMove_8 (by decide) ?_
    refine lv_iconst (v := 0) hx hb dL_bestMove_14 (by decide) ?_
    obtain rfl := ex6.symm
    refine W.widen (k := 1) (n := 6) (Nat.le_of_ble_eq_true rfl) (Nat.le_of_ble_eq_true rfl) ?_
    refine W.iret (v := 0) hx hb hr (fun tt ht hW => ⟨⟨0, (fm3, vl3, r3), rfl, ?_, by rw [ht]; exact hP, va_K.moved hW.alike hK, hD⟩, hS.F ht⟩) hS.2.2 dL_bestMove_15
    exact ⟨rfl, hw3⟩

set_option maxHeartbeats 400000 in
set_option maxRecDepth 100000 in
theorem c_L_bestMove_bad_0 (l : Launch) (hltr : l.stackTraces = false) (D : va_G) (cI cJ : ClassId) (sz : Nat) (h0 lg fs ps vt vf vv : Nat) (fa fb : Int64) (re : Int32) (fm : Nat → Int64) (vl : Nat → Int32) (hT : TI fm vl) (hpos : re = 0 → 0 < pop (cempty fa fb)) (hB : re = 0 → BV (pop (cempty fa fb)) (cown fa fb 0) (coth fa fb 0))  (ob : Nat) (ov : Nat → Int64) (hbad : ¬ (re = 0 ∧ pop (cempty fa fb) ≤ 3)) : Met l yL_bestMove wsL_bestMove ({ frames := 17, cells := 1, slots := 6, locals := 491 } : Room) (va_Pc [.ref h0, .ref ob] (px_N (px_X (va_A [(h0, .inr (3, [.ref lg, .ref fs, .ref ps, .long fa, .long fb, .int 0, .int re])), (fs, .inr (1, [.ref vt])), (vt, .inr (2, [.ref vf, .ref vv])), (vf, .inl (cJ, 1024, .inr (.inl fm))), (vv, .inl (cI, 1024, .inl vl)), (ob, .inl (cJ, 1, .inr (.inl ov)))] sz) (pv_C D cI cJ [(h0, .inr (3, [.ref lg, .ref fs, .ref ps, .long fa, .long fb, .int 0, .int re])), (fs, .inr (1, [.ref vt])), (vt, .inr (2, [.ref vf, .ref vv])), (vf, .inl (cJ, 1024, .inr (.inl fm))), (vv, .inl (cI, 1024, .inl vl)), (ob, .inl (cJ, 1, .inr (.inl ov)))] sz)))) (va_Qi (fun (r : Int32) (u : Unit) => r = 1) (fun (u : Unit) => pv_B D cI cJ (va_A [(h0, .inr (3, [.ref lg, .ref fs, .ref ps, .long fa, .long fb, .int 0, .int re])), (fs, .inr (1, [.ref vt])), (vt, .inr (2, [.ref vf, .ref vv])), (vf, .inl (cJ, 1024, .inr (.inl fm))), (vv, .inl (cI, 1024, .inl vl)), (ob, .inl (cJ, 1, .inr (.inl ov)))] sz) [(h0, .inr (3, [.ref lg, .ref fs, .ref ps, .long fa, .long fb, .int 0, .int re])), (fs, .inr (1, [.ref vt])), (vt, .inr (2, [.ref vf, .ref vv])), (vf, .inl (cJ, 1024, .inr (.inl fm))), (vv, .inl (cI, 1024, .inl vl)), (ob, .inl (cJ, 1, .inr (.inl ov)))]) (va_A [(h0, .inr (3, [.ref lg, .ref fs, .ref ps, .long fa, .long fb, .int 0, .int re])), (fs, .inr (1, [.ref vt])), (vt, .inr (2, [.ref vf, .ref vv])), (vf, .inl (cJ, 1024, .inr (.inl fm))), (vv, .inl (cI, 1024, .inl vl)), (ob, .inl (cJ, 1, .inr (.inl ov)))] sz)) 1 6 (va_A [(h0, .inr (3, [.ref lg, .ref fs, .ref ps, .long fa, .long fb, .int 0, .int re])), (fs, .inr (1, [.ref vt])), (vt, .inr (2, [.ref vf, .ref vv])), (vf, .inl (cJ, 1024, .inr (.inl fm))), (vv, .inl (cI, 1024, .inl vl)), (ob, .inl (cJ, 1, .inr (.inl ov)))] sz) := by
  refine va_MetW (cc := cL_bestMove) (maxL := 3) (ret := (some .int)) (hh := [(0, 8, 11, 15)]) (by decide) rfl ?_
  intro p e s m args below meth c s₁ B hml hv
  obtain ⟨rfl, hNC, hEN, hEX, hZ, rfl, hP, hK, hD0⟩ := hv
  have hx := B.exec
  have hb := B.bytes
  have hr := B.returns
  have hts := atoms_spec (ws := wsL_bestMove) B.pre
  have hown : s.vm.findClass RL = some m.cls := findClass_of_methodNamed B.named
  have hlocks := B.notSynchronized
  have htb := vx_table (x := yL_bestMove) B (hts _ (List.mem_of_getElem? (i := 0) rfl))
  have hD := hD0.self (sz := s.heap.size)
  generalize hAe : va_A [(h0, .inr (3, [.ref lg, .ref fs, .ref ps, .long fa, .long fb, .int 0, .int re])), (fs, .inr (1, [.ref vt])), (vt, .inr (2, [.ref vf, .ref vv])), (vf, .inl (cJ, 1024, .inr (.inl fm))), (vv, .inl (cI, 1024, .inl vl)), (ob, .inl (cJ, 1, .inr (.inl ov)))] s.heap.size = A at hD hZ ⊢
  have hA : ∀ q : Nat, s.heap.size ≤ q → A q := fun q h => by rw [← hAe]; exact Or.inr h
  have hS : va_S A s.heap s.heap [] := va_S.rf
  have hl := lv_entry ([.ref h0, .ref ob]) (n := 3) (Nat.le_of_ble_eq_true rfl)
  rw [lg_entry_eq]
  generalize (lg_sl ([.ref h0, .ref ob]) ++ List.replicate (3 - (lg_sl ([.ref h0, .ref ob])).length) Slot.unset).toArray = ls at hl ⊢
  have hl : lv_has ls 3 [(0, .ref h0), (1, .ref ob)] := hl
  refine lv_aload_n hx hb dL_bestMove_0 rfl (lv_at hl 1 rfl) ?_
  refine lv_iconst (v := 0) hx hb dL_bestMove_1 (by decide) ?_
  refine lv_aload_n hx hb dL_bestMove_2 rfl (lv_at hl 0 rfl) ?_
  have hPc : va_P D vwCl [(h0, .inr (3, [.ref lg, .ref fs, .ref ps, .long fa, .long fb, .int 0, .int re])), (fs, .inr (1, [.ref vt])), (vt, .inr (2, [.ref vf, .ref vv])), (vf, .inl (cJ, 1024, .inr (.inl fm))), (vv, .inl (cI, 1024, .inl vl))] s.heap := hP.sub (ws' := [(h0, .inr (3, [.ref lg, .ref fs, .ref ps, .long fa, .long fb, .int 0, .int re])), (fs, .inr (1, [.ref vt])), (vt, .inr (2, [.ref vf, .ref vv])), (vf, .inl (cJ, 1024, .inr (.inl fm))), (vv, .inl (cI, 1024, .inl vl))]) [0, 1, 2, 3, 4] rfl
  have hDc : va_D A [(h0, .inr (3, [.ref lg, .ref fs, .ref ps, .long fa, .long fb, .int 0, .int re])), (fs, .inr (1, [.ref vt])), (vt, .inr (2, [.ref vf, .ref vv])), (vf, .inl (cJ, 1024, .inr (.inl fm))), (vv, .inl (cI, 1024, .inl vl))] := hD.sub (ws' := [(h0, .inr (3, [.ref lg, .ref fs, .ref ps, .long fa, .long fb, .int 0, .int re])), (fs, .inr (1, [.ref vt])), (vt, .inr (2, [.ref vf, .ref vv])), (vf, .inl (cJ, 1024, .inr (.inl fm))), (vv, .inl (cI, 1024, .inl vl))]) [0, 1, 2, 3, 4] (by decide) rfl
  have hFc := va_free (wc := [(h0, .inr (3, [.ref lg, .ref fs, .ref ps, .long fa, .long fb, .int 0, .int re])), (fs, .inr (1, [.ref vt])), (vt, .inr (2, [.ref vf, .ref vv])), (vf, .inl (cJ, 1024, .inr (.inl fm))), (vv, .inl (cI, 1024, .inl vl))]) hD hS hA [0, 1, 2, 3, 4] rfl
  refine vx_calli (vx_runV (As := []) (rest := [.int 0, .ref ob]) ⟨hx, hb, hml, hown, hts⟩ (c_X6_bestMove_0 l hltr D cI cJ s.heap.size  h0 lg fs ps vt vf vv fa fb re fm vl hT hpos hB) (cwV 0 hts gL_bestMove_X6_bestMove rfl rfl rfl (by decide +kernel) ⟨Nat.le_of_ble_eq_true rfl, Nat.le_of_ble_eq_true rfl⟩) ⟨(px_blindE (px_blindX pv_blind)), va_recv hK hPc (ci := 3) (q0 := 0) rfl rfl, fun U hU hW => ⟨rfl, hEN.warm hW, hEX.warm hW, by rw [hU]; exact hZ.to hS hW.alike hFc, by rw [hU], by rw [hU]; exact hPc, va_K.moved hW.alike hK, hDc.weaken (fun _ _ _ _ => trivial)⟩⟩ rfl rfl hl.1 rfl (lv_room (Nat.le_of_ble_eq_true rfl)) dL_bestMove_3 ⟨(Nat.le_of_ble_eq_true rfl), (Nat.le_of_ble_eq_true rfl)⟩) hS (fun q _ h => hFc q h) hFc (fun q _ h => hFc q h) (fun E ce q9 u9 t9 H1 locs hth hvm hpx hB9 hz1 hk1 hS hce hcv hcl => ?_) (fun r3 u t9 H1 locs hth hvm hw3 hB9 hz1 hk1 hS => ?_)
  · obtain ⟨hb9, hP1, hK1, hD1⟩ := hB9
    rw [hth] at hP1
    obtain ⟨hP, hD⟩ := va_join (wr := [(ob, .inl (cJ, 1, .inr (.inl ov)))]) (w1 := [(h0, .inr (3, [.ref lg, .ref fs, .ref ps, .long fa, .long fb, .int 0, .int re])), (fs, .inr (1, [.ref vt])), (vt, .inr (2, [.ref vf, .ref vv])), (vf, .inl (cJ, 1024, .inr (.inl fm))), (vv, .inl (cI, 1024, .inl vl))]) hP hD [0, 1, 2, 3, 4] [5] rfl rfl (by decide) (by decide) hk1 hFc hP1 hD1
    have hP : va_P D vwCl [(h0, .inr (3, [.ref lg, .ref fs, .ref ps, .long fa, .long fb, .int 0, .int re])), (fs, .inr (1, [.ref vt])), (vt, .inr (2, [.ref vf, .ref vv])), (vf, .inl (cJ, 1024, .inr (.inl fm))), (vv, .inl (cI, 1024, .inl vl)), (ob, .inl (cJ, 1, .inr (.inl ov)))] H1 := hP.sub (ws' := [(h0, .inr (3, [.ref lg, .ref fs, .ref ps, .long fa, .long fb, .int 0, .int re])), (fs, .inr (1, [.ref vt])), (vt, .inr (2, [.ref vf, .ref vv])), (vf, .inl (cJ, 1024, .inr (.inl fm))), (vv, .inl (cI, 1024, .inl vl)), (ob, .inl (cJ, 1, .inr (.inl ov)))]) [1, 2, 3, 4, 5, 0] rfl
    have hD : va_D A [(h0, .inr (3, [.ref lg, .ref fs, .ref ps, .long fa, .long fb, .int 0, .int re])), (fs, .inr (1, [.ref vt])), (vt, .inr (2, [.ref vf, .ref vv])), (vf, .inl (cJ, 1024, .inr (.inl fm))), (vv, .inl (cI, 1024, .inl vl)), (ob, .inl (cJ, 1, .inr (.inl ov)))] := hD.sub (ws' := [(h0, .inr (3, [.ref lg, .ref fs, .ref ps, .long fa, .long fb, .int 0, .int re])), (fs, .inr (1, [.ref vt])), (vt, .inr (2, [.ref vf, .ref vv])), (vf, .inl (cJ, 1024, .inr (.inl fm))), (vv, .inl (cI, 1024, .inl vl)), (ob, .inl (cJ, 1, .inr (.inl ov)))]) [1, 2, 3, 4, 5, 0] (by decide) rfl
    obtain rfl : E = nISE := hb9.1
    refine vx_catch (own := RL) (name := nISE) hown [] ⟨0, 8, 11, 15⟩ [] (htb.trans rfl) (fun z hz => nomatch hz) (by decide) (by decide) (hts (.classLink RL 15 nISE) (by decide +kernel)) (va_Nw.use rfl hEX.2.2.1) hce hcv hcl ?_
    refine lv_astore_n (lv' := [(2, .ref q9), (0, .ref h0), (1, .ref ob)]) hx hb dL_bestMove_11 rfl hl (by decide) rfl (fun ls hl => ?_)
    refine lv_iconst (v := 1) hx hb dL_bestMove_12 (by decide) ?_
    refine W.widen (k := 1) (n := 6) (Nat.le_of_ble_eq_true rfl) (Nat.le_of_ble_eq_true rfl) ?_
    refine W.iret (v := 1) hx hb hr (fun tt ht hW => ⟨⟨1, (), rfl, ?_, by rw [ht]; exact hP, va_K.moved hW.alike hK, hD⟩, hS.F ht⟩) hS.2.2 dL_bestMove_13
    exact rfl
  · try dsimp only at hw3
    exact absurd ⟨hw3.1, hw3.2.1⟩ hbad

set_option maxHeartbeats 400000 in
set_option maxRecDepth 100000 in
theorem c_L_valueOnBoards_ok_0 (l : Launch) (hltr : l.stackTraces = false) (D : va_G) (cI cJ : ClassId) (sz : Nat) (h0 lg fs ps : Nat) (fa fb : Int64) (re : Int32)  (ob : Nat) (ov : Nat → Int64) (hok : re = 0 ∧ pop (cempty fa fb) ≤ 3) : Met l yL_valueOnBoards wsL_valueOnBoards ({ frames := 18, cells := 1, slots := 6, locals := 510 } : Room) (va_Pc [.ref h0, .ref ob] (px_N (px_X (va_A [(h0, .inr (3, [.ref lg, .ref fs, .ref ps, .long fa, .long fb, .int 0, .int re])), (ps, .inr (1, [.null])), (ob, .inl (cJ, 1, .inr (.inl ov)))] sz) (pv_C D cI cJ [(h0, .inr (3, [.ref lg, .ref fs, .ref ps, .long fa, .long fb, .int 0, .int re])), (ps, .inr (1, [.null])), (ob, .inl (cJ, 1, .inr (.inl ov)))] sz)))) (va_Qi (fun (r : Int32) (u : (Int32)) => r = 0 ∧ (re = 0 ∧ pop (cempty fa fb) ≤ 3 ∧ u = vturn (vput (pop (cempty fa fb))) (cown fa fb 1) (coth fa fb 1) 8)) (fun (u : (Int32)) => pv_B D cI cJ (va_A [(h0, .inr (3, [.ref lg, .ref fs, .ref ps, .long fa, .long fb, .int 0, .int re])), (ps, .inr (1, [.null])), (ob, .inl (cJ, 1, .inr (.inl ov)))] sz) [(h0, .inr (3, [.ref lg, .ref fs, .ref ps, .long fa, .long fb, .int 0, .int re])), (ps, .inr (1, [.null])), (ob, .inl (cJ, 1, .inr (.inl (vp_updL ov 0 (u).toInt64))))]) (va_A [(h0, .inr (3, [.ref lg, .ref fs, .ref ps, .long fa, .long fb, .int 0, .int re])), (ps, .inr (1, [.null])), (ob, .inl (cJ, 1, .inr (.inl ov)))] sz)) 1 6 (va_A [(h0, .inr (3, [.ref lg, .ref fs, .ref ps, .long fa, .long fb, .int 0, .int re])), (ps, .inr (1, [.null])), (ob, .inl (cJ, 1, .inr (.inl ov)))] sz) := by
  refine va_MetW (cc := cL_valueOnBoards) (maxL := 3) (ret := (some .int)) (hh := [(0, 8, 11, 15)]) (by decide) rfl ?_
  intro p e s m args below meth c s₁ B hml hv
  obtain ⟨rfl, hNC, hEN, hEX, hZ, rfl, hP, hK, hD0⟩ := hv
  have hx := B.exec
  have hb := B.bytes
  have hr := B.returns
  have hts := atoms_spec (ws := wsL_valueOnBoards) B.pre
  have hown : s.vm.findClass RL = some m.cls := findClass_of_methodNamed B.named
  have hlocks := B.notSynchronized
  have htb := vx_table (x := yL_valueOnBoards) B (hts _ (List.mem_of_getElem? (i := 0) rfl))
  have hD := hD0.self (sz := s.heap.size)
  generalize hAe : va_A [(h0, .inr (3, [.ref lg, .ref fs, .ref ps, .long fa, .long fb, .int 0, .int re])), (ps, .inr (1, [.null])), (ob, .inl (cJ, 1, .inr (.inl ov)))] s.heap.size = A at hD hZ ⊢
  have hA : ∀ q : Nat, s.heap.size ≤ q → A q := fun q h => by rw [← hAe]; exact Or.inr h
  have hS : va_S A s.heap s.heap [] := va_S.rf
  have hl := lv_entry ([.ref h0, .ref ob]) (n := 3) (Nat.le_of_ble_eq_true rfl)
  rw [lg_entry_eq]
  generalize (lg_sl ([.ref h0, .ref ob]) ++ List.replicate (3 - (lg_sl ([.ref h0, .ref ob])).length) Slot.unset).toArray = ls at hl ⊢
  have hl : lv_has ls 3 [(0, .ref h0), (1, .ref ob)] := hl
  refine lv_aload_n hx hb dL_valueOnBoards_0 rfl (lv_at hl 1 rfl) ?_
  refine lv_iconst (v := 0) hx hb dL_valueOnBoards_1 (by decide) ?_
  refine lv_aload_n hx hb dL_valueOnBoards_2 rfl (lv_at hl 0 rfl) ?_
  have hPc : va_P D vwCl [(h0, .inr (3, [.ref lg, .ref fs, .ref ps, .long fa, .long fb, .int 0, .int re])), (ps, .inr (1, [.null]))] s.heap := hP.sub (ws' := [(h0, .inr (3, [.ref lg, .ref fs, .ref ps, .long fa, .long fb, .int 0, .int re])), (ps, .inr (1, [.null]))]) [0, 1] rfl
  have hDc : va_D A [(h0, .inr (3, [.ref lg, .ref fs, .ref ps, .long fa, .long fb, .int 0, .int re])), (ps, .inr (1, [.null]))] := hD.sub (ws' := [(h0, .inr (3, [.ref lg, .ref fs, .ref ps, .long fa, .long fb, .int 0, .int re])), (ps, .inr (1, [.null]))]) [0, 1] (by decide) rfl
  have hFc := va_free (wc := [(h0, .inr (3, [.ref lg, .ref fs, .ref ps, .long fa, .long fb, .int 0, .int re])), (ps, .inr (1, [.null]))]) hD hS hA [0, 1] rfl
  refine vx_calli (vx_runV (As := []) (rest := [.int 0, .ref ob]) ⟨hx, hb, hml, hown, hts⟩ (c_X6_valueOnBoards_0 l hltr D cI cJ s.heap.size  h0 lg fs ps fa fb re) (cwV 0 hts gL_valueOnBoards_X6_valueOnBoards rfl rfl rfl (by decide +kernel) ⟨Nat.le_of_ble_eq_true rfl, Nat.le_of_ble_eq_true rfl⟩) ⟨(px_blindE (px_blindX pv_blind)), va_recv hK hPc (ci := 3) (q0 := 0) rfl rfl, fun U hU hW => ⟨rfl, hEN.warm hW, hEX.warm hW, by rw [hU]; exact hZ.to hS hW.alike hFc, by rw [hU], by rw [hU]; exact hPc, va_K.moved hW.alike hK, hDc.weaken (fun _ _ _ _ => trivial)⟩⟩ rfl rfl hl.1 rfl (lv_room (Nat.le_of_ble_eq_true rfl)) dL_valueOnBoards_3 ⟨(Nat.le_of_ble_eq_true rfl), (Nat.le_of_ble_eq_true rfl)⟩) hS (fun q _ h => hFc q h) hFc (fun q _ h => hFc q h) (fun E ce q9 u9 t9 H1 locs hth hvm hpx hB9 hz1 hk1 hS hce hcv hcl => ?_) (fun r3 u t9 H1 locs hth hvm hw3 hB9 hz1 hk1 hS => ?_)
  · obtain ⟨hb9, hP1, hK1, hD1⟩ := hB9
    rw [hth] at hP1
    obtain ⟨hP, hD⟩ := va_join (wr := [(ob, .inl (cJ, 1, .inr (.inl ov)))]) (w1 := [(h0, .inr (3, [.ref lg, .ref fs, .ref ps, .long fa, .long fb, .int 0, .int re])), (ps, .inr (1, [.null]))]) hP hD [0, 1] [2] rfl rfl (by decide) (by decide) hk1 hFc hP1 hD1
    have hP : va_P D vwCl [(h0, .inr (3, [.ref lg, .ref fs, .ref ps, .long fa, .long fb, .int 0, .int re])), (ps, .inr (1, [.null])), (ob, .inl (cJ, 1, .inr (.inl ov)))] H1 := hP.sub (ws' := [(h0, .inr (3, [.ref lg, .ref fs, .ref ps, .long fa, .long fb, .int 0, .int re])), (ps, .inr (1, [.null])), (ob, .inl (cJ, 1, .inr (.inl ov)))]) [1, 2, 0] rfl
    have hD : va_D A [(h0, .inr (3, [.ref lg, .ref fs, .ref ps, .long fa, .long fb, .int 0, .int re])), (ps, .inr (1, [.null])), (ob, .inl (cJ, 1, .inr (.inl ov)))] := hD.sub (ws' := [(h0, .inr (3, [.ref lg, .ref fs, .ref ps, .long fa, .long fb, .int 0, .int re])), (ps, .inr (1, [.null])), (ob, .inl (cJ, 1, .inr (.inl ov)))]) [1, 2, 0] (by decide) rfl
    exact (absurd hok hb9.2)
  · try dsimp only at hw3
    obtain ⟨hP1, hK1, hD1⟩ := hB9
    rw [hth] at hP1
    obtain ⟨hP, hD⟩ := va_join (wr := [(ob, .inl (cJ, 1, .inr (.inl ov)))]) (w1 := [(h0, .inr (3, [.ref lg, .ref fs, .ref ps, .long fa, .long fb, .int 0, .int re])), (ps, .inr (1, [.null]))]) hP hD [0, 1] [2] rfl rfl (by decide) (by decide) hk1 hFc hP1 hD1
    generalize H1 = H at hP hS ⊢
    have hP : va_P D vwCl [(h0, .inr (3, [.ref lg, .ref fs, .ref ps, .long fa, .long fb, .int 0, .int re])), (ps, .inr (1, [.null])), (ob, .inl (cJ, 1, .inr (.inl ov)))] H := hP.sub (ws' := [(h0, .inr (3, [.ref lg, .ref fs, .ref ps, .long fa, .long fb, .int 0, .int re])), (ps, .inr (1, [.null])), (ob, .inl (cJ, 1, .inr (.inl ov)))]) [1, 2, 0] rfl
    have hD : va_D A [(h0, .inr (3, [.ref lg, .ref fs, .ref ps, .long fa, .long fb, .int 0, .int re])), (ps, .inr (1, [.null])), (ob, .inl (cJ, 1, .inr (.inl ov)))] := hD.sub (ws' := [(h0, .inr (3, [.ref lg, .ref fs, .ref ps, .long fa, .long fb, .int 0, .int re])), (ps, .inr (1, [.null])), (ob, .inl (cJ, 1, .inr (.inl ov)))]) [1, 2, 0] (by decide) rfl
    refine lv_i2l (v := (r3 : Int32).toInt64) hx hb dL_valueOnBoards_6 rfl ?_
    refine lv_topl (fun x6 ex6 => ?_)
    refine va_last hx hb hK hP hD hS 2 1 rfl rfl (vp_in_nI (n := 0) (N := 1) (by omega) (by decide)) dL_valueOnBoards_7 (fun H locs hP hD hS => ?_)
    have hu7 : (0 : Int32).toNatClampNeg = 0 := pk_cl 0
    rw [hu7] at hP hD
    have hP : va_P D vwCl [(h0, .inr (3, [.ref lg, .ref fs, .ref ps, .long fa, .long fb, .int 0, .int re])), (ps, .inr (1, [.null])), (ob, .inl (cJ, 1, .inr (.inl (vp_updL ov 0 x6))))] H := hP
    have hD : va_D A [(h0, .inr (3, [.ref lg, .ref fs, .ref ps, .long fa, .long fb, .int 0, .int re])), (ps, .inr (1, [.null])), (ob, .inl (cJ, 1, .inr (.inl (vp_updL ov 0 x6))))] := hD
    refine lv_goto (tgt := 14) hx hb dL_valueOnBoards_8 (by decide) ?_
    refine lv_iconst (v := 0) hx hb dL_valueOnBoards_14 (by decide) ?_
    obtain rfl := ex6.symm
    refine W.widen (k := 1) (n := 6) (Nat.le_of_ble_eq_true rfl) (Nat.le_of_ble_eq_true rfl) ?_
    refine W.iret (v := 0) hx hb hr (fun tt ht hW => ⟨⟨0, r3, rfl, ?_, by rw [ht]; exact hP, va_K.moved hW.alike hK, hD⟩, hS.F ht⟩) hS.2.2 dL_valueOnBoards_15
    exact ⟨rfl, hw3⟩

set_option maxHeartbeats 400000 in
set_option maxRecDepth 100000 in
theorem c_L_valueOnBoards_bad_0 (l : Launch) (hltr : l.stackTraces = false) (D : va_G) (cI cJ : ClassId) (sz : Nat) (h0 lg fs ps : Nat) (fa fb : Int64) (re : Int32)  (ob : Nat) (ov : Nat → Int64) (hbad : ¬ (re = 0 ∧ pop (cempty fa fb) ≤ 3)) : Met l yL_valueOnBoards wsL_valueOnBoards ({ frames := 18, cells := 1, slots := 6, locals := 510 } : Room) (va_Pc [.ref h0, .ref ob] (px_N (px_X (va_A [(h0, .inr (3, [.ref lg, .ref fs, .ref ps, .long fa, .long fb, .int 0, .int re])), (ps, .inr (1, [.null])), (ob, .inl (cJ, 1, .inr (.inl ov)))] sz) (pv_C D cI cJ [(h0, .inr (3, [.ref lg, .ref fs, .ref ps, .long fa, .long fb, .int 0, .int re])), (ps, .inr (1, [.null])), (ob, .inl (cJ, 1, .inr (.inl ov)))] sz)))) (va_Qi (fun (r : Int32) (u : Unit) => r = 1) (fun (u : Unit) => pv_B D cI cJ (va_A [(h0, .inr (3, [.ref lg, .ref fs, .ref ps, .long fa, .long fb, .int 0, .int re])), (ps, .inr (1, [.null])), (ob, .inl (cJ, 1, .inr (.inl ov)))] sz) [(h0, .inr (3, [.ref lg, .ref fs, .ref ps, .long fa, .long fb, .int 0, .int re])), (ps, .inr (1, [.null])), (ob, .inl (cJ, 1, .inr (.inl ov)))]) (va_A [(h0, .inr (3, [.ref lg, .ref fs, .ref ps, .long fa, .long fb, .int 0, .int re])), (ps, .inr (1, [.null])), (ob, .inl (cJ, 1, .inr (.inl ov)))] sz)) 1 6 (va_A [(h0, .inr (3, [.ref lg, .ref fs, .ref ps, .long fa, .long fb, .int 0, .int re])), (ps, .inr (1, [.null])), (ob, .inl (cJ, 1, .inr (.inl ov)))] sz) := by
  refine va_MetW (cc := cL_valueOnBoards) (maxL := 3) (ret := (some .int)) (hh := [(0, 8, 11, 15)]) (by decide) rfl ?_
  intro p e s m args below meth c s₁ B hml hv
  obtain ⟨rfl, hNC, hEN, hEX, hZ, rfl, hP, hK, hD0⟩ := hv
  have hx := B.exec
  have hb := B.bytes
  have hr := B.returns
  have hts := atoms_spec (ws := wsL_valueOnBoards) B.pre
  have hown : s.vm.findClass RL = some m.cls := findClass_of_methodNamed B.named
  have hlocks := B.notSynchronized
  have htb := vx_table (x := yL_valueOnBoards) B (hts _ (List.mem_of_getElem? (i := 0) rfl))
  have hD := hD0.self (sz := s.heap.size)
  generalize hAe : va_A [(h0, .inr (3, [.ref lg, .ref fs, .ref ps, .long fa, .long fb, .int 0, .int re])), (ps, .inr (1, [.null])), (ob, .inl (cJ, 1, .inr (.inl ov)))] s.heap.size = A at hD hZ ⊢
  have hA : ∀ q : Nat, s.heap.size ≤ q → A q := fun q h => by rw [← hAe]; exact Or.inr h
  have hS : va_S A s.heap s.heap [] := va_S.rf
  have hl := lv_entry ([.ref h0, .ref ob]) (n := 3) (Nat.le_of_ble_eq_true rfl)
  rw [lg_entry_eq]
  generalize (lg_sl ([.ref h0, .ref ob]) ++ List.replicate (3 - (lg_sl ([.ref h0, .ref ob])).length) Slot.unset).toArray = ls at hl ⊢
  have hl : lv_has ls 3 [(0, .ref h0), (1, .ref ob)] := hl
  refine lv_aload_n hx hb dL_valueOnBoards_0 rfl (lv_at hl 1 rfl) ?_
  refine lv_iconst (v := 0) hx hb dL_valueOnBoards_1 (by decide) ?_
  refine lv_aload_n hx hb dL_valueOnBoards_2 rfl (lv_at hl 0 rfl) ?_
  have hPc : va_P D vwCl [(h0, .inr (3, [.ref lg, .ref fs, .ref ps, .long fa, .long fb, .int 0, .int re])), (ps, .inr (1, [.null]))] s.heap := hP.sub (ws' := [(h0, .inr (3, [.ref lg, .ref fs, .ref ps, .long fa, .long fb, .int 0, .int re])), (ps, .inr (1, [.null]))]) [0, 1] rfl
  have hDc : va_D A [(h0, .inr (3, [.ref lg, .ref fs, .ref ps, .long fa, .long fb, .int 0, .int re])), (ps, .inr (1, [.null]))] := hD.sub (ws' := [(h0, .inr (3, [.ref lg, .ref fs, .ref ps, .long fa, .long fb, .int 0, .int re])), (ps, .inr (1, [.null]))]) [0, 1] (by decide) rfl
  have hFc := va_free (wc := [(h0, .inr (3, [.ref lg, .ref fs, .ref ps, .long fa, .long fb, .int 0, .int re])), (ps, .inr (1, [.null]))]) hD hS hA [0, 1] rfl
  refine vx_calli (vx_runV (As := []) (rest := [.int 0, .ref ob]) ⟨hx, hb, hml, hown, hts⟩ (c_X6_valueOnBoards_0 l hltr D cI cJ s.heap.size  h0 lg fs ps fa fb re) (cwV 0 hts gL_valueOnBoards_X6_valueOnBoards rfl rfl rfl (by decide +kernel) ⟨Nat.le_of_ble_eq_true rfl, Nat.le_of_ble_eq_true rfl⟩) ⟨(px_blindE (px_blindX pv_blind)), va_recv hK hPc (ci := 3) (q0 := 0) rfl rfl, fun U hU hW => ⟨rfl, hEN.warm hW, hEX.warm hW, by rw [hU]; exact hZ.to hS hW.alike hFc, by rw [hU], by rw [hU]; exact hPc, va_K.moved hW.alike hK, hDc.weaken (fun _ _ _ _ => trivial)⟩⟩ rfl rfl hl.1 rfl (lv_room (Nat.le_of_ble_eq_true rfl)) dL_valueOnBoards_3 ⟨(Nat.le_of_ble_eq_true rfl), (Nat.le_of_ble_eq_true rfl)⟩) hS (fun q _ h => hFc q h) hFc (fun q _ h => hFc q h) (fun E ce q9 u9 t9 H1 locs hth hvm hpx hB9 hz1 hk1 hS hce hcv hcl => ?_) (fun r3 u t9 H1 locs hth hvm hw3 hB9 hz1 hk1 hS => ?_)
  · obtain ⟨hb9, hP1, hK1, hD1⟩ := hB9
    rw [hth] at hP1
    obtain ⟨hP, hD⟩ := va_join (wr := [(ob, .inl (cJ, 1, .inr (.inl ov)))]) (w1 := [(h0, .inr (3, [.ref lg, .ref fs, .ref ps, .long fa, .long fb, .int 0, .int re])), (ps, .inr (1, [.null]))]) hP hD [0, 1] [2] rfl rfl (by decide) (by decide) hk1 hFc hP1 hD1
    have hP : va_P D vwCl [(h0, .inr (3, [.ref lg, .ref fs, .ref ps, .long fa, .long fb, .int 0, .int re])), (ps, .inr (1, [.null])), (ob, .inl (cJ, 1, .inr (.inl ov)))] H1 := hP.sub (ws' := [(h0, .inr (3, [.ref lg, .ref fs, .ref ps, .long fa, .long fb, .int 0, .int re])), (ps, .inr (1, [.null])), (ob, .inl (cJ, 1, .inr (.inl ov)))]) [1, 2, 0] rfl
    have hD : va_D A [(h0, .inr (3, [.ref lg, .ref fs, .ref ps, .long fa, .long fb, .int 0, .int re])), (ps, .inr (1, [.null])), (ob, .inl (cJ, 1, .inr (.inl ov)))] := hD.sub (ws' := [(h0, .inr (3, [.ref lg, .ref fs, .ref ps, .long fa, .long fb, .int 0, .int re])), (ps, .inr (1, [.null])), (ob, .inl (cJ, 1, .inr (.inl ov)))]) [1, 2, 0] (by decide) rfl
    obtain rfl : E = nISE := hb9.1
    refine vx_catch (own := RL) (name := nISE) hown [] ⟨0, 8, 11, 15⟩ [] (htb.trans rfl) (fun z hz => nomatch hz) (by decide) (by decide) (hts (.classLink RL 15 nISE) (by decide +kernel)) (va_Nw.use rfl hEX.2.2.1) hce hcv hcl ?_
    refine lv_astore_n (lv' := [(2, .ref q9), (0, .ref h0), (1, .ref ob)]) hx hb dL_valueOnBoards_11 rfl hl (by decide) rfl (fun ls hl => ?_)
    refine lv_iconst (v := 1) hx hb dL_valueOnBoards_12 (by decide) ?_
    refine W.widen (k := 1) (n := 6) (Nat.le_of_ble_eq_true rfl) (Nat.le_of_ble_eq_true rfl) ?_
    refine W.iret (v := 1) hx hb hr (fun tt ht hW => ⟨⟨1, (), rfl, ?_, by rw [ht]; exact hP, va_K.moved hW.alike hK, hD⟩, hS.F ht⟩) hS.2.2 dL_valueOnBoards_13
    exact rfl
  · try dsimp only at hw3
    exact absurd ⟨hw3.1, hw3.2.1⟩ hbad

set_option maxHeartbeats 400000 in
set_option maxRecDepth 100000 in
theorem c_L_value_ok_1 (l : Launch) (hltr : l.stackTraces = false) (D : va_G) (cI cJ : ClassId) (sz : Nat) (h0 lg fs ps vt vf vv : Nat) (fa fb : Int64) (re : Int32) (fm : Nat → Int64) (vl : Nat → Int32) (hT : TI fm vl) (hp : 0 < pop (fa ||| fb)) (hB : re = 0 → BH (pop (cempty fa fb)) (cown fa fb 1) (coth fa fb 1))  (ob : Nat) (ov : Nat → Int64) (hok : re = 0 ∧ pop (cempty fa fb) ≤ 3) : Met l yL_value wsL_value ({ frames := 18, cells := 1, slots := 6, locals := 510 } : Room) (va_Pc [.ref h0, .ref ob] (px_N (px_X (va_A [(h0, .inr (3, [.ref lg, .ref fs, .ref ps, .long fa, .long fb, .int 1, .int re])), (fs, .inr (1, [.ref vt])), (vt, .inr (2, [.ref vf, .ref vv])), (vf, .inl (cJ, 1024, .inr (.inl fm))), (vv, .inl (cI, 1024, .inl vl)), (ob, .inl (cJ, 1, .inr (.inl ov)))] sz) (pv_C D cI cJ [(h0, .inr (3, [.ref lg, .ref fs, .ref ps, .long fa, .long fb, .int 1, .int re])), (fs, .inr (1, [.ref vt])), (vt, .inr (2, [.ref vf, .ref vv])), (vf, .inl (cJ, 1024, .inr (.inl fm))), (vv, .inl (cI, 1024, .inl vl)), (ob, .inl (cJ, 1, .inr (.inl ov)))] sz)))) (va_Qi (fun (r : Int32) (u : (Nat → Int64) × (Nat → Int32) × (Int32)) => r = 0 ∧ (re = 0 ∧ pop (cempty fa fb) ≤ 3 ∧ (u.2.2) = vturn (vput (pop (cempty fa fb))) (cown fa fb 1) (coth fa fb 1) 8 ∧ TI u.1 u.2.1)) (fun (u : (Nat → Int64) × (Nat → Int32) × (Int32)) => pv_B D cI cJ (va_A [(h0, .inr (3, [.ref lg, .ref fs, .ref ps, .long fa, .long fb, .int 1, .int re])), (fs, .inr (1, [.ref vt])), (vt, .inr (2, [.ref vf, .ref vv])), (vf, .inl (cJ, 1024, .inr (.inl fm))), (vv, .inl (cI, 1024, .inl vl)), (ob, .inl (cJ, 1, .inr (.inl ov)))] sz) [(h0, .inr (3, [.ref lg, .ref fs, .ref ps, .long fa, .long fb, .int 1, .int re])), (fs, .inr (1, [.ref vt])), (vt, .inr (2, [.ref vf, .ref vv])), (vf, .inl (cJ, 1024, .inr (.inl u.1))), (vv, .inl (cI, 1024, .inl u.2.1)), (ob, .inl (cJ, 1, .inr (.inl (vp_updL ov 0 (u.2.2).toInt64))))]) (va_A [(h0, .inr (3, [.ref lg, .ref fs, .ref ps, .long fa, .long fb, .int 1, .int re])), (fs, .inr (1, [.ref vt])), (vt, .inr (2, [.ref vf, .ref vv])), (vf, .inl (cJ, 1024, .inr (.inl fm))), (vv, .inl (cI, 1024, .inl vl)), (ob, .inl (cJ, 1, .inr (.inl ov)))] sz)) 1 6 (va_A [(h0, .inr (3, [.ref lg, .ref fs, .ref ps, .long fa, .long fb, .int 1, .int re])), (fs, .inr (1, [.ref vt])), (vt, .inr (2, [.ref vf, .ref vv])), (vf, .inl (cJ, 1024, .inr (.inl fm))), (vv, .inl (cI, 1024, .inl vl)), (ob, .inl (cJ, 1, .inr (.inl ov)))] sz) := by
  refine va_MetW (cc := cL_value) (maxL := 3) (ret := (some .int)) (hh := [(0, 8, 11, 15)]) (by decide) rfl ?_
  intro p e s m args below meth c s₁ B hml hv
  obtain ⟨rfl, hNC, hEN, hEX, hZ, rfl, hP, hK, hD0⟩ := hv
  have hx := B.exec
  have hb := B.bytes
  have hr := B.returns
  have hts := atoms_spec (ws := wsL_value) B.pre
  have hown : s.vm.findClass RL = some m.cls := findClass_of_methodNamed B.named
  have hlocks := B.notSynchronized
  have htb := vx_table (x := yL_value) B (hts _ (List.mem_of_getElem? (i := 0) rfl))
  have hD := hD0.self (sz := s.heap.size)
  generalize hAe : va_A [(h0, .inr (3, [.ref lg, .ref fs, .ref ps, .long fa, .long fb, .int 1, .int re])), (fs, .inr (1, [.ref vt])), (vt, .inr (2, [.ref vf, .ref vv])), (vf, .inl (cJ, 1024, .inr (.inl fm))), (vv, .inl (cI, 1024, .inl vl)), (ob, .inl (cJ, 1, .inr (.inl ov)))] s.heap.size = A at hD hZ ⊢
  have hA : ∀ q : Nat, s.heap.size ≤ q → A q := fun q h => by rw [← hAe]; exact Or.inr h
  have hS : va_S A s.heap s.heap [] := va_S.rf
  have hl := lv_entry ([.ref h0, .ref ob]) (n := 3) (Nat.le_of_ble_eq_true rfl)
  rw [lg_entry_eq]
  generalize (lg_sl ([.ref h0, .ref ob]) ++ List.replicate (3 - (lg_sl ([.ref h0, .ref ob])).length) Slot.unset).toArray = ls at hl ⊢
  have hl : lv_has ls 3 [(0, .ref h0), (1, .ref ob)] := hl
  refine lv_aload_n hx hb dL_value_0 rfl (lv_at hl 1 rfl) ?_
  refine lv_iconst (v := 0) hx hb dL_value_1 (by decide) ?_
  refine lv_aload_n hx hb dL_value_2 rfl (lv_at hl 0 rfl) ?_
  have hPc : va_P D vwCl [(h0, .inr (3, [.ref lg, .ref fs, .ref ps, .long fa, .long fb, .int 1, .int re])), (fs, .inr (1, [.ref vt])), (vt, .inr (2, [.ref vf, .ref vv])), (vf, .inl (cJ, 1024, .inr (.inl fm))), (vv, .inl (cI, 1024, .inl vl))] s.heap := hP.sub (ws' := [(h0, .inr (3, [.ref lg, .ref fs, .ref ps, .long fa, .long fb, .int 1, .int re])), (fs, .inr (1, [.ref vt])), (vt, .inr (2, [.ref vf, .ref vv])), (vf, .inl (cJ, 1024, .inr (.inl fm))), (vv, .inl (cI, 1024, .inl vl))]) [0, 1, 2, 3, 4] rfl
  have hDc : va_D A [(h0, .inr (3, [.ref lg, .ref fs, .ref ps, .long fa, .long fb, .int 1, .int re])), (fs, .inr (1, [.ref vt])), (vt, .inr (2, [.ref vf, .ref vv])), (vf, .inl (cJ, 1024, .inr (.inl fm))), (vv, .inl (cI, 1024, .inl vl))] := hD.sub (ws' := [(h0, .inr (3, [.ref lg, .ref fs, .ref ps, .long fa, .long fb, .int 1, .int re])), (fs, .inr (1, [.ref vt])), (vt, .inr (2, [.ref vf, .ref vv])), (vf, .inl (cJ, 1024, .inr (.inl fm))), (vv, .inl (cI, 1024, .inl vl))]) [0, 1, 2, 3, 4] (by decide) rfl
  have hFc := va_free (wc := [(h0, .inr (3, [.ref lg, .ref fs, .ref ps, .long fa, .long fb, .int 1, .int re])), (fs, .inr (1, [.ref vt])), (vt, .inr (2, [.ref vf, .ref vv])), (vf, .inl (cJ, 1024, .inr (.inl fm))), (vv, .inl (cI, 1024, .inl vl))]) hD hS hA [0, 1, 2, 3, 4] rfl
  refine vx_calli (vx_runV (As := []) (rest := [.int 0, .ref ob]) ⟨hx, hb, hml, hown, hts⟩ (c_X6_value_1 l hltr D cI cJ s.heap.size  h0 lg fs ps vt vf vv fa fb re fm vl hT hp hB) (cwV 0 hts gL_value_X6_value rfl rfl rfl (by decide +kernel) ⟨Nat.le_of_ble_eq_true rfl, Nat.le_of_ble_eq_true rfl⟩) ⟨(px_blindE (px_blindX pv_blind)), va_recv hK hPc (ci := 3) (q0 := 0) rfl rfl, fun U hU hW => ⟨rfl, hEN.warm hW, hEX.warm hW, by rw [hU]; exact hZ.to hS hW.alike hFc, by rw [hU], by rw [hU]; exact hPc, va_K.moved hW.alike hK, hDc.weaken (fun _ _ _ _ => trivial)⟩⟩ rfl rfl hl.1 rfl (lv_room (Nat.le_of_ble_eq_true rfl)) dL_value_3 ⟨(Nat.le_of_ble_eq_true rfl), (Nat.le_of_ble_eq_true rfl)⟩) hS (fun q _ h => hFc q h) hFc (fun q _ h => hFc q h) (fun E ce q9 u9 t9 H1 locs hth hvm hpx hB9 hz1 hk1 hS hce hcv hcl => ?_) (fun r3 u t9 H1 locs hth hvm hw3 hB9 hz1 hk1 hS => ?_)
  · obtain ⟨hb9, hP1, hK1, hD1⟩ := hB9
    rw [hth] at hP1
    obtain ⟨hP, hD⟩ := va_join (wr := [(ob, .inl (cJ, 1, .inr (.inl ov)))]) (w1 := [(h0, .inr (3, [.ref lg, .ref fs, .ref ps, .long fa, .long fb, .int 1, .int re])), (fs, .inr (1, [.ref vt])), (vt, .inr (2, [.ref vf, .ref vv])), (vf, .inl (cJ, 1024, .inr (.inl fm))), (vv, .inl (cI, 1024, .inl vl))]) hP hD [0, 1, 2, 3, 4] [5] rfl rfl (by decide) (by decide) hk1 hFc hP1 hD1
    have hP : va_P D vwCl [(h0, .inr (3, [.ref lg, .ref fs, .ref ps, .long fa, .long fb, .int 1, .int re])), (fs, .inr (1, [.ref vt])), (vt, .inr (2, [.ref vf, .ref vv])), (vf, .inl (cJ, 1024, .inr (.inl fm))), (vv, .inl (cI, 1024, .inl vl)), (ob, .inl (cJ, 1, .inr (.inl ov)))] H1 := hP.sub (ws' := [(h0, .inr (3, [.ref lg, .ref fs, .ref ps, .long fa, .long fb, .int 1, .int re])), (fs, .inr (1, [.ref vt])), (vt, .inr (2, [.ref vf, .ref vv])), (vf, .inl (cJ, 1024, .inr (.inl fm))), (vv, .inl (cI, 1024, .inl vl)), (ob, .inl (cJ, 1, .inr (.inl ov)))]) [1, 2, 3, 4, 5, 0] rfl
    have hD : va_D A [(h0, .inr (3, [.ref lg, .ref fs, .ref ps, .long fa, .long fb, .int 1, .int re])), (fs, .inr (1, [.ref vt])), (vt, .inr (2, [.ref vf, .ref vv])), (vf, .inl (cJ, 1024, .inr (.inl fm))), (vv, .inl (cI, 1024, .inl vl)), (ob, .inl (cJ, 1, .inr (.inl ov)))] := hD.sub (ws' := [(h0, .inr (3, [.ref lg, .ref fs, .ref ps, .long fa, .long fb, .int 1, .int re])), (fs, .inr (1, [.ref vt])), (vt, .inr (2, [.ref vf, .ref vv])), (vf, .inl (cJ, 1024, .inr (.inl fm))), (vv, .inl (cI, 1024, .inl vl)), (ob, .inl (cJ, 1, .inr (.inl ov)))]) [1, 2, 3, 4, 5, 0] (by decide) rfl
    exact (absurd hok hb9.2)
  · try dsimp only at hw3
    obtain ⟨fm3, vl3⟩ := u
    obtain ⟨hP1, hK1, hD1⟩ := hB9
    rw [hth] at hP1
    obtain ⟨hP, hD⟩ := va_join (wr := [(ob, .inl (cJ, 1, .inr (.inl ov)))]) (w1 := [(h0, .inr (3, [.ref lg, .ref fs, .ref ps, .long fa, .long fb, .int 1, .int re])), (fs, .inr (1, [.ref vt])), (vt, .inr (2, [.ref vf, .ref vv])), (vf, .inl (cJ, 1024, .inr (.inl fm3))), (vv, .inl (cI, 1024, .inl vl3))]) hP hD [0, 1, 2, 3, 4] [5] rfl rfl (by decide) (by decide) hk1 hFc hP1 hD1
    generalize H1 = H at hP hS ⊢
    have hP : va_P D vwCl [(h0, .inr (3, [.ref lg, .ref fs, .ref ps, .long fa, .long fb, .int 1, .int re])), (fs, .inr (1, [.ref vt])), (vt, .inr (2, [.ref vf, .ref vv])), (vf, .inl (cJ, 1024, .inr (.inl fm3))), (vv, .inl (cI, 1024, .inl vl3)), (ob, .inl (cJ, 1, .inr (.inl ov)))] H := hP.sub (ws' := [(h0, .inr (3, [.ref lg, .ref fs, .ref ps, .long fa, .long fb, .int 1, .int re])), (fs, .inr (1, [.ref vt])), (vt, .inr (2, [.ref vf, .ref vv])), (vf, .inl (cJ, 1024, .inr (.inl fm3))), (vv, .inl (cI, 1024, .inl vl3)), (ob, .inl (cJ, 1, .inr (.inl ov)))]) [1, 2, 3, 4, 5, 0] rfl
    have hD : va_D A [(h0, .inr (3, [.ref lg, .ref fs, .ref ps, .long fa, .long fb, .int 1, .int re])), (fs, .inr (1, [.ref vt])), (vt, .inr (2, [.ref vf, .ref vv])), (vf, .inl (cJ, 1024, .inr (.inl fm3))), (vv, .inl (cI, 1024, .inl vl3)), (ob, .inl (cJ, 1, .inr (.inl ov)))] := hD.sub (ws' := [(h0, .inr (3, [.ref lg, .ref fs, .ref ps, .long fa, .long fb, .int 1, .int re])), (fs, .inr (1, [.ref vt])), (vt, .inr (2, [.ref vf, .ref vv])), (vf, .inl (cJ, 1024, .inr (.inl fm3))), (vv, .inl (cI, 1024, .inl vl3)), (ob, .inl (cJ, 1, .inr (.inl ov)))]) [1, 2, 3, 4, 5, 0] (by decide) rfl
    refine lv_i2l (v := (r3 : Int32).toInt64) hx hb dL_value_6 rfl ?_
    refine lv_topl (fun x6 ex6 => ?_)
    refine va_last hx hb hK hP hD hS 5 1 rfl rfl (vp_in_nI (n := 0) (N := 1) (by omega) (by decide)) dL_value_7 (fun H locs hP hD hS => ?_)
    have hu7 : (0 : Int32).toNatClampNeg = 0 := pk_cl 0
    rw [hu7] at hP hD
    have hP : va_P D vwCl [(h0, .inr (3, [.ref lg, .ref fs, .ref ps, .long fa, .long fb, .int 1, .int re])), (fs, .inr (1, [.ref vt])), (vt, .inr (2, [.ref vf, .ref vv])), (vf, .inl (cJ, 1024, .inr (.inl fm3))), (vv, .inl (cI, 1024, .inl vl3)), (ob, .inl (cJ, 1, .inr (.inl (vp_updL ov 0 x6))))] H := hP
    have hD : va_D A [(h0, .inr (3, [.ref lg, .ref fs, .ref ps, .long fa, .long fb, .int 1, .int re])), (fs, .inr (1, [.ref vt])), (vt, .inr (2, [.ref vf, .ref vv])), (vf, .inl (cJ, 1024, .inr (.inl fm3))), (vv, .inl (cI, 1024, .inl vl3)), (ob, .inl (cJ, 1, .inr (.inl (vp_updL ov 0 x6))))] := hD
    refine lv_goto (tgt := 14) hx hb dL_value_8 (by decide) ?_
    refine lv_iconst (v := 0) hx hb dL_value_14 (by decide) ?_
    obtain rfl := ex6.symm
    refine W.widen (k := 1) (n := 6) (Nat.le_of_ble_eq_true rfl) (Nat.le_of_ble_eq_true rfl) ?_
    refine W.iret (v := 0) hx hb hr (fun tt ht hW => ⟨⟨0, (fm3, vl3, r3), rfl, ?_, by rw [ht]; exact hP, va_K.moved hW.alike hK, hD⟩, hS.F ht⟩) hS.2.2 dL_value_15
    exact ⟨rfl, hw3⟩

set_option maxHeartbeats 400000 in
set_option maxRecDepth 100000 in
theorem c_L_value_bad_1 (l : Launch) (hltr : l.stackTraces = false) (D : va_G) (cI cJ : ClassId) (sz : Nat) (h0 lg fs ps vt vf vv : Nat) (fa fb : Int64) (re : Int32) (fm : Nat → Int64) (vl : Nat → Int32) (hT : TI fm vl) (hp : 0 < pop (fa ||| fb)) (hB : re = 0 → BH (pop (cempty fa fb)) (cown fa fb 1) (coth fa fb 1))  (ob : Nat) (ov : Nat → Int64) (hbad : ¬ (re = 0 ∧ pop (cempty fa fb) ≤ 3)) : Met l yL_value wsL_value ({ frames := 18, cells := 1, slots := 6, locals := 510 } : Room) (va_Pc [.ref h0, .ref ob] (px_N (px_X (va_A [(h0, .inr (3, [.ref lg, .ref fs, .ref ps, .long fa, .long fb, .int 1, .int re])), (fs, .inr (1, [.ref vt])), (vt, .inr (2, [.ref vf, .ref vv])), (vf, .inl (cJ, 1024, .inr (.inl fm))), (vv, .inl (cI, 1024, .inl vl)), (ob, .inl (cJ, 1, .inr (.inl ov)))] sz) (pv_C D cI cJ [(h0, .inr (3, [.ref lg, .ref fs, .ref ps, .long fa, .long fb, .int 1, .int re])), (fs, .inr (1, [.ref vt])), (vt, .inr (2, [.ref vf, .ref vv])), (vf, .inl (cJ, 1024, .inr (.inl fm))), (vv, .inl (cI, 1024, .inl vl)), (ob, .inl (cJ, 1, .inr (.inl ov)))] sz)))) (va_Qi (fun (r : Int32) (u : Unit) => r = 1) (fun (u : Unit) => pv_B D cI cJ (va_A [(h0, .inr (3, [.ref lg, .ref fs, .ref ps, .long fa, .long fb, .int 1, .int re])), (fs, .inr (1, [.ref vt])), (vt, .inr (2, [.ref vf, .ref vv])), (vf, .inl (cJ, 1024, .inr (.inl fm))), (vv, .inl (cI, 1024, .inl vl)), (ob, .inl (cJ, 1, .inr (.inl ov)))] sz) [(h0, .inr (3, [.ref lg, .ref fs, .ref ps, .long fa, .long fb, .int 1, .int re])), (fs, .inr (1, [.ref vt])), (vt, .inr (2, [.ref vf, .ref vv])), (vf, .inl (cJ, 1024, .inr (.inl fm))), (vv, .inl (cI, 1024, .inl vl)), (ob, .inl (cJ, 1, .inr (.inl ov)))]) (va_A [(h0, .inr (3, [.ref lg, .ref fs, .ref ps, .long fa, .long fb, .int 1, .int re])), (fs, .inr (1, [.ref vt])), (vt, .inr (2, [.ref vf, .ref vv])), (vf, .inl (cJ, 1024, .inr (.inl fm))), (vv, .inl (cI, 1024, .inl vl)), (ob, .inl (cJ, 1, .inr (.inl ov)))] sz)) 1 6 (va_A [(h0, .inr (3, [.ref lg, .ref fs, .ref ps, .long fa, .long fb, .int 1, .int re])), (fs, .inr (1, [.ref vt])), (vt, .inr (2, [.ref vf, .ref vv])), (vf, .inl (cJ, 1024, .inr (.inl fm))), (vv, .inl (cI, 1024, .inl vl)), (ob, .inl (cJ, 1, .inr (.inl ov)))] sz) := by
  refine va_MetW (cc := cL_value) (maxL := 3) (ret := (some .int)) (hh := [(0, 8, 11, 15)]) (by decide) rfl ?_
  intro p e s m args below meth c s₁ B hml hv
  obtain ⟨rfl, hNC, hEN, hEX, hZ, rfl, hP, hK, hD0⟩ := hv
  have hx := B.exec
  have hb := B.bytes
  have hr := B.returns
  have hts := atoms_spec (ws := wsL_value) B.pre
  have hown : s.vm.findClass RL = some m.cls := findClass_of_methodNamed B.named
  have hlocks := B.notSynchronized
  have htb := vx_table (x := yL_value) B (hts _ (List.mem_of_getElem? (i := 0) rfl))
  have hD := hD0.self (sz := s.heap.size)
  generalize hAe : va_A [(h0, .inr (3, [.ref lg, .ref fs, .ref ps, .long fa, .long fb, .int 1, .int re])), (fs, .inr (1, [.ref vt])), (vt, .inr (2, [.ref vf, .ref vv])), (vf, .inl (cJ, 1024, .inr (.inl fm))), (vv, .inl (cI, 1024, .inl vl)), (ob, .inl (cJ, 1, .inr (.inl ov)))] s.heap.size = A at hD hZ ⊢
  have hA : ∀ q : Nat, s.heap.size ≤ q → A q := fun q h => by rw [← hAe]; exact Or.inr h
  have hS : va_S A s.heap s.heap [] := va_S.rf
  have hl := lv_entry ([.ref h0, .ref ob]) (n := 3) (Nat.le_of_ble_eq_true rfl)
  rw [lg_entry_eq]
  generalize (lg_sl ([.ref h0, .ref ob]) ++ List.replicate (3 - (lg_sl ([.ref h0, .ref ob])).length) Slot.unset).toArray = ls at hl ⊢
  have hl : lv_has ls 3 [(0, .ref h0), (1, .ref ob)] := hl
  refine lv_aload_n hx hb dL_value_0 rfl (lv_at hl 1 rfl) ?_
  refine lv_iconst (v := 0) hx hb dL_value_1 (by decide) ?_
  refine lv_aload_n hx hb dL_value_2 rfl (lv_at hl 0 rfl) ?_
  have hPc : va_P D vwCl [(h0, .inr (3, [.ref lg, .ref fs, .ref ps, .long fa, .long fb, .int 1, .int re])), (fs, .inr (1, [.ref vt])), (vt, .inr (2, [.ref vf, .ref vv])), (vf, .inl (cJ, 1024, .inr (.inl fm))), (vv, .inl (cI, 1024, .inl vl))] s.heap := hP.sub (ws' := [(h0, .inr (3, [.ref lg, .ref fs, .ref ps, .long fa, .long fb, .int 1, .int re])), (fs, .inr (1, [.ref vt])), (vt, .inr (2, [.ref vf, .ref vv])), (vf, .inl (cJ, 1024, .inr (.inl fm))), (vv, .inl (cI, 1024, .inl vl))]) [0, 1, 2, 3, 4] rfl
  have hDc : va_D A [(h0, .inr (3, [.ref lg, .ref fs, .ref ps, .long fa, .long fb, .int 1, .int re])), (fs, .inr (1, [.ref vt])), (vt, .inr (2, [.ref vf, .ref vv])), (vf, .inl (cJ, 1024, .inr (.inl fm))), (vv, .inl (cI, 1024, .inl vl))] := hD.sub (ws' := [(h0, .inr (3, [.ref lg, .ref fs, .ref ps, .long fa, .long fb, .int 1, .int re])), (fs, .inr (1, [.ref vt])), (vt, .inr (2, [.ref vf, .ref vv])), (vf, .inl (cJ, 1024, .inr (.inl fm))), (vv, .inl (cI, 1024, .inl vl))]) [0, 1, 2, 3, 4] (by decide) rfl
  have hFc := va_free (wc := [(h0, .inr (3, [.ref lg, .ref fs, .ref ps, .long fa, .long fb, .int 1, .int re])), (fs, .inr (1, [.ref vt])), (vt, .inr (2, [.ref vf, .ref vv])), (vf, .inl (cJ, 1024, .inr (.inl fm))), (vv, .inl (cI, 1024, .inl vl))]) hD hS hA [0, 1, 2, 3, 4] rfl
  refine vx_calli (vx_runV (As := []) (rest := [.int 0, .ref ob]) ⟨hx, hb, hml, hown, hts⟩ (c_X6_value_1 l hltr D cI cJ s.heap.size  h0 lg fs ps vt vf vv fa fb re fm vl hT hp hB) (cwV 0 hts gL_value_X6_value rfl rfl rfl (by decide +kernel) ⟨Nat.le_of_ble_eq_true rfl, Nat.le_of_ble_eq_true rfl⟩) ⟨(px_blindE (px_blindX pv_blind)), va_recv hK hPc (ci := 3) (q0 := 0) rfl rfl, fun U hU hW => ⟨rfl, hEN.warm hW, hEX.warm hW, by rw [hU]; exact hZ.to hS hW.alike hFc, by rw [hU], by rw [hU]; exact hPc, va_K.moved hW.alike hK, hDc.weaken (fun _ _ _ _ => trivial)⟩⟩ rfl rfl hl.1 rfl (lv_room (Nat.le_of_ble_eq_true rfl)) dL_value_3 ⟨(Nat.le_of_ble_eq_true rfl), (Nat.le_of_ble_eq_true rfl)⟩) hS (fun q _ h => hFc q h) hFc (fun q _ h => hFc q h) (fun E ce q9 u9 t9 H1 locs hth hvm hpx hB9 hz1 hk1 hS hce hcv hcl => ?_) (fun r3 u t9 H1 locs hth hvm hw3 hB9 hz1 hk1 hS => ?_)
  · obtain ⟨hb9, hP1, hK1, hD1⟩ := hB9
    rw [hth] at hP1
    obtain ⟨hP, hD⟩ := va_join (wr := [(ob, .inl (cJ, 1, .inr (.inl ov)))]) (w1 := [(h0, .inr (3, [.ref lg, .ref fs, .ref ps, .long fa, .long fb, .int 1, .int re])), (fs, .inr (1, [.ref vt])), (vt, .inr (2, [.ref vf, .ref vv])), (vf, .inl (cJ, 1024, .inr (.inl fm))), (vv, .inl (cI, 1024, .inl vl))]) hP hD [0, 1, 2, 3, 4] [5] rfl rfl (by decide) (by decide) hk1 hFc hP1 hD1
    have hP : va_P D vwCl [(h0, .inr (3, [.ref lg, .ref fs, .ref ps, .long fa, .long fb, .int 1, .int re])), (fs, .inr (1, [.ref vt])), (vt, .inr (2, [.ref vf, .ref vv])), (vf, .inl (cJ, 1024, .inr (.inl fm))), (vv, .inl (cI, 1024, .inl vl)), (ob, .inl (cJ, 1, .inr (.inl ov)))] H1 := hP.sub (ws' := [(h0, .inr (3, [.ref lg, .ref fs, .ref ps, .long fa, .long fb, .int 1, .int re])), (fs, .inr (1, [.ref vt])), (vt, .inr (2, [.ref vf, .ref vv])), (vf, .inl (cJ, 1024, .inr (.inl fm))), (vv, .inl (cI, 1024, .inl vl)), (ob, .inl (cJ, 1, .inr (.inl ov)))]) [1, 2, 3, 4, 5, 0] rfl
    have hD : va_D A [(h0, .inr (3, [.ref lg, .ref fs, .ref ps, .long fa, .long fb, .int 1, .int re])), (fs, .inr (1, [.ref vt])), (vt, .inr (2, [.ref vf, .ref vv])), (vf, .inl (cJ, 1024, .inr (.inl fm))), (vv, .inl (cI, 1024, .inl vl)), (ob, .inl (cJ, 1, .inr (.inl ov)))] := hD.sub (ws' := [(h0, .inr (3, [.ref lg, .ref fs, .ref ps, .long fa, .long fb, .int 1, .int re])), (fs, .inr (1, [.ref vt])), (vt, .inr (2, [.ref vf, .ref vv])), (vf, .inl (cJ, 1024, .inr (.inl fm))), (vv, .inl (cI, 1024, .inl vl)), (ob, .inl (cJ, 1, .inr (.inl ov)))]) [1, 2, 3, 4, 5, 0] (by decide) rfl
    obtain rfl : E = nISE := hb9.1
    refine vx_catch (own := RL) (name := nISE) hown [] ⟨0, 8, 11, 15⟩ [] (htb.trans rfl) (fun z hz => nomatch hz) (by decide) (by decide) (hts (.classLink RL 15 nISE) (by decide +kernel)) (va_Nw.use rfl hEX.2.2.1) hce hcv hcl ?_
    refine lv_astore_n (lv' := [(2, .ref q9), (0, .ref h0), (1, .ref ob)]) hx hb dL_value_11 rfl hl (by decide) rfl (fun ls hl => ?_)
    refine lv_iconst (v := 1) hx hb dL_value_12 (by decide) ?_
    refine W.widen (k := 1) (n := 6) (Nat.le_of_ble_eq_true rfl) (Nat.le_of_ble_eq_true rfl) ?_
    refine W.iret (v := 1) hx hb hr (fun tt ht hW => ⟨⟨1, (), rfl, ?_, by rw [ht]; exact hP, va_K.moved hW.alike hK, hD⟩, hS.F ht⟩) hS.2.2 dL_value_13
    exact rfl
  · try dsimp only at hw3
    exact absurd ⟨hw3.1, hw3.2.1⟩ hbad

set_option maxHeartbeats 400000 in
set_option maxRecDepth 100000 in
theorem c_L_bestMove_ok_1 (l : Launch) (hltr : l.stackTraces = false) (D : va_G) (cI cJ : ClassId) (sz : Nat) (h0 lg fs ps vt vf vv : Nat) (fa fb : Int64) (re : Int32) (fm : Nat → Int64) (vl : Nat → Int32) (hT : TI fm vl) (hp : 0 < pop (fa ||| fb)) (hB : re = 0 → BH (pop (cempty fa fb)) (cown fa fb 1) (coth fa fb 1))  (ob : Nat) (ov : Nat → Int64) (hok : re = 0 ∧ pop (cempty fa fb) ≤ 3) : Met l yL_bestMove wsL_bestMove ({ frames := 17, cells := 1, slots := 6, locals := 491 } : Room) (va_Pc [.ref h0, .ref ob] (px_N (px_X (va_A [(h0, .inr (3, [.ref lg, .ref fs, .ref ps, .long fa, .long fb, .int 1, .int re])), (fs, .inr (1, [.ref vt])), (vt, .inr (2, [.ref vf, .ref vv])), (vf, .inl (cJ, 1024, .inr (.inl fm))), (vv, .inl (cI, 1024, .inl vl)), (ob, .inl (cJ, 1, .inr (.inl ov)))] sz) (pv_C D cI cJ [(h0, .inr (3, [.ref lg, .ref fs, .ref ps, .long fa, .long fb, .int 1, .int re])), (fs, .inr (1, [.ref vt])), (vt, .inr (2, [.ref vf, .ref vv])), (vf, .inl (cJ, 1024, .inr (.inl fm))), (vv, .inl (cI, 1024, .inl vl)), (ob, .inl (cJ, 1, .inr (.inl ov)))] sz)))) (va_Qi (fun (r : Int32) (u : (Nat → Int64) × (Nat → Int32) × (Int32)) => r = 0 ∧ (re = 0 ∧ pop (cempty fa fb) ≤ 3 ∧ (u.2.2) = cbest (pop (cempty fa fb)) fa fb 1 ∧ TI u.1 u.2.1)) (fun (u : (Nat → Int64) × (Nat → Int32) × (Int32)) => pv_B D cI cJ (va_A [(h0, .inr (3, [.ref lg, .ref fs, .ref ps, .long fa, .long fb, .int 1, .int re])), (fs, .inr (1, [.ref vt])), (vt, .inr (2, [.ref vf, .ref vv])), (vf, .inl (cJ, 1024, .inr (.inl fm))), (vv, .inl (cI, 1024, .inl vl)), (ob, .inl (cJ, 1, .inr (.inl ov)))] sz) [(h0, .inr (3, [.ref lg, .ref fs, .ref ps, .long fa, .long fb, .int 1, .int re])), (fs, .inr (1, [.ref vt])), (vt, .inr (2, [.ref vf, .ref vv])), (vf, .inl (cJ, 1024, .inr (.inl u.1))), (vv, .inl (cI, 1024, .inl u.2.1)), (ob, .inl (cJ, 1, .inr (.inl (vp_updL ov 0 (u.2.2).toInt64))))]) (va_A [(h0, .inr (3, [.ref lg, .ref fs, .ref ps, .long fa, .long fb, .int 1, .int re])), (fs, .inr (1, [.ref vt])), (vt, .inr (2, [.ref vf, .ref vv])), (vf, .inl (cJ, 1024, .inr (.inl fm))), (vv, .inl (cI, 1024, .inl vl)), (ob, .inl (cJ, 1, .inr (.inl ov)))] sz)) 1 6 (va_A [(h0, .inr (3, [.ref lg, .ref fs, .ref ps, .long fa, .long fb, .int 1, .int re])), (fs, .inr (1, [.ref vt])), (vt, .inr (2, [.ref vf, .ref vv])), (vf, .inl (cJ, 1024, .inr (.inl fm))), (vv, .inl (cI, 1024, .inl vl)), (ob, .inl (cJ, 1, .inr (.inl ov)))] sz) := by
  refine va_MetW (cc := cL_bestMove) (maxL := 3) (ret := (some .int)) (hh := [(0, 8, 11, 15)]) (by decide) rfl ?_
  intro p e s m args below meth c s₁ B hml hv
  obtain ⟨rfl, hNC, hEN, hEX, hZ, rfl, hP, hK, hD0⟩ := hv
  have hx := B.exec
  have hb := B.bytes
  have hr := B.returns
  have hts := atoms_spec (ws := wsL_bestMove) B.pre
  have hown : s.vm.findClass RL = some m.cls := findClass_of_methodNamed B.named
  have hlocks := B.notSynchronized
  have htb := vx_table (x := yL_bestMove) B (hts _ (List.mem_of_getElem? (i := 0) rfl))
  have hD := hD0.self (sz := s.heap.size)
  generalize hAe : va_A [(h0, .inr (3, [.ref lg, .ref fs, .ref ps, .long fa, .long fb, .int 1, .int re])), (fs, .inr (1, [.ref vt])), (vt, .inr (2, [.ref vf, .ref vv])), (vf, .inl (cJ, 1024, .inr (.inl fm))), (vv, .inl (cI, 1024, .inl vl)), (ob, .inl (cJ, 1, .inr (.inl ov)))] s.heap.size = A at hD hZ ⊢
  have hA : ∀ q : Nat, s.heap.size ≤ q → A q := fun q h => by rw [← hAe]; exact Or.inr h
  have hS : va_S A s.heap s.heap [] := va_S.rf
  have hl := lv_entry ([.ref h0, .ref ob]) (n := 3) (Nat.le_of_ble_eq_true rfl)
  rw [lg_entry_eq]
  generalize (lg_sl ([.ref h0, .ref ob]) ++ List.replicate (3 - (lg_sl ([.ref h0, .ref ob])).length) Slot.unset).toArray = ls at hl ⊢
  have hl : lv_has ls 3 [(0, .ref h0), (1, .ref ob)] := hl
  refine lv_aload_n hx hb dL_bestMove_0 rfl (lv_at hl 1 rfl) ?_
  refine lv_iconst (v := 0) hx hb dL_bestMove_1 (by decide) ?_
  refine lv_aload_n hx hb dL_bestMove_2 rfl (lv_at hl 0 rfl) ?_
  have hPc : va_P D vwCl [(h0, .inr (3, [.ref lg, .ref fs, .ref ps, .long fa, .long fb, .int 1, .int re])), (fs, .inr (1, [.ref vt])), (vt, .inr (2, [.ref vf, .ref vv])), (vf, .inl (cJ, 1024, .inr (.inl fm))), (vv, .inl (cI, 1024, .inl vl))] s.heap := hP.sub (ws' := [(h0, .inr (3, [.ref lg, .ref fs, .ref ps, .long fa, .long fb, .int 1, .int re])), (fs, .inr (1, [.ref vt])), (vt, .inr (2, [.ref vf, .ref vv])), (vf, .inl (cJ, 1024, .inr (.inl fm))), (vv, .inl (cI, 1024, .inl vl))]) [0, 1, 2, 3, 4] rfl
  have hDc : va_D A [(h0, .inr (3, [.ref lg, .ref fs, .ref ps, .long fa, .long fb, .int 1, .int re])), (fs, .inr (1, [.ref vt])), (vt, .inr (2, [.ref vf, .ref vv])), (vf, .inl (cJ, 1024, .inr (.inl fm))), (vv, .inl (cI, 1024, .inl vl))] := hD.sub (ws' := [(h0, .inr (3, [.ref lg, .ref fs, .ref ps, .long fa, .long fb, .int 1, .int re])), (fs, .inr (1, [.ref vt])), (vt, .inr (2, [.ref vf, .ref vv])), (vf, .inl (cJ, 1024, .inr (.inl fm))), (vv, .inl (cI, 1024, .inl vl))]) [0, 1, 2, 3, 4] (by decide) rfl
  have hFc := va_free (wc := [(h0, .inr (3, [.ref lg, .ref fs, .ref ps, .long fa, .long fb, .int 1, .int re])), (fs, .inr (1, [.ref vt])), (vt, .inr (2, [.ref vf, .ref vv])), (vf, .inl (cJ, 1024, .inr (.inl fm))), (vv, .inl (cI, 1024, .inl vl))]) hD hS hA [0, 1, 2, 3, 4] rfl
  refine vx_calli (vx_runV (As := []) (rest := [.int 0, .ref ob]) ⟨hx, hb, hml, hown, hts⟩ (c_X6_bestMove_1 l hltr D cI cJ s.heap.size  h0 lg fs ps vt vf vv fa fb re fm vl hT hp hB) (cwV 0 hts gL_bestMove_X6_bestMove rfl rfl rfl (by decide +kernel) ⟨Nat.le_of_ble_eq_true rfl, Nat.le_of_ble_eq_true rfl⟩) ⟨(px_blindE (px_blindX pv_blind)), va_recv hK hPc (ci := 3) (q0 := 0) rfl rfl, fun U hU hW => ⟨rfl, hEN.warm hW, hEX.warm hW, by rw [hU]; exact hZ.to hS hW.alike hFc, by rw [hU], by rw [hU]; exact hPc, va_K.moved hW.alike hK, hDc.weaken (fun _ _ _ _ => trivial)⟩⟩ rfl rfl hl.1 rfl (lv_room (Nat.le_of_ble_eq_true rfl)) dL_bestMove_3 ⟨(Nat.le_of_ble_eq_true rfl), (Nat.le_of_ble_eq_true rfl)⟩) hS (fun q _ h => hFc q h) hFc (fun q _ h => hFc q h) (fun E ce q9 u9 t9 H1 locs hth hvm hpx hB9 hz1 hk1 hS hce hcv hcl => ?_) (fun r3 u t9 H1 locs hth hvm hw3 hB9 hz1 hk1 hS => ?_)
  · obtain ⟨hb9, hP1, hK1, hD1⟩ := hB9
    rw [hth] at hP1
    obtain ⟨hP, hD⟩ := va_join (wr := [(ob, .inl (cJ, 1, .inr (.inl ov)))]) (w1 := [(h0, .inr (3, [.ref lg, .ref fs, .ref ps, .long fa, .long fb, .int 1, .int re])), (fs, .inr (1, [.ref vt])), (vt, .inr (2, [.ref vf, .ref vv])), (vf, .inl (cJ, 1024, .inr (.inl fm))), (vv, .inl (cI, 1024, .inl vl))]) hP hD [0, 1, 2, 3, 4] [5] rfl rfl (by decide) (by decide) hk1 hFc hP1 hD1
    have hP : va_P D vwCl [(h0, .inr (3, [.ref lg, .ref fs, .ref ps, .long fa, .long fb, .int 1, .int re])), (fs, .inr (1, [.ref vt])), (vt, .inr (2, [.ref vf, .ref vv])), (vf, .inl (cJ, 1024, .inr (.inl fm))), (vv, .inl (cI, 1024, .inl vl)), (ob, .inl (cJ, 1, .inr (.inl ov)))] H1 := hP.sub (ws' := [(h0, .inr (3, [.ref lg, .ref fs, .ref ps, .long fa, .long fb, .int 1, .int re])), (fs, .inr (1, [.ref vt])), (vt, .inr (2, [.ref vf, .ref vv])), (vf, .inl (cJ, 1024, .inr (.inl fm))), (vv, .inl (cI, 1024, .inl vl)), (ob, .inl (cJ, 1, .inr (.inl ov)))]) [1, 2, 3, 4, 5, 0] rfl
    have hD : va_D A [(h0, .inr (3, [.ref lg, .ref fs, .ref ps, .long fa, .long fb, .int 1, .int re])), (fs, .inr (1, [.ref vt])), (vt, .inr (2, [.ref vf, .ref vv])), (vf, .inl (cJ, 1024, .inr (.inl fm))), (vv, .inl (cI, 1024, .inl vl)), (ob, .inl (cJ, 1, .inr (.inl ov)))] := hD.sub (ws' := [(h0, .inr (3, [.ref lg, .ref fs, .ref ps, .long fa, .long fb, .int 1, .int re])), (fs, .inr (1, [.ref vt])), (vt, .inr (2, [.ref vf, .ref vv])), (vf, .inl (cJ, 1024, .inr (.inl fm))), (vv, .inl (cI, 1024, .inl vl)), (ob, .inl (cJ, 1, .inr (.inl ov)))]) [1, 2, 3, 4, 5, 0] (by decide) rfl
    exact (absurd hok hb9.2)
  · try dsimp only at hw3
    obtain ⟨fm3, vl3⟩ := u
    obtain ⟨hP1, hK1, hD1⟩ := hB9
    rw [hth] at hP1
    obtain ⟨hP, hD⟩ := va_join (wr := [(ob, .inl (cJ, 1, .inr (.inl ov)))]) (w1 := [(h0, .inr (3, [.ref lg, .ref fs, .ref ps, .long fa, .long fb, .int 1, .int re])), (fs, .inr (1, [.ref vt])), (vt, .inr (2, [.ref vf, .ref vv])), (vf, .inl (cJ, 1024, .inr (.inl fm3))), (vv, .inl (cI, 1024, .inl vl3))]) hP hD [0, 1, 2, 3, 4] [5] rfl rfl (by decide) (by decide) hk1 hFc hP1 hD1
    generalize H1 = H at hP hS ⊢
    have hP : va_P D vwCl [(h0, .inr (3, [.ref lg, .ref fs, .ref ps, .long fa, .long fb, .int 1, .int re])), (fs, .inr (1, [.ref vt])), (vt, .inr (2, [.ref vf, .ref vv])), (vf, .inl (cJ, 1024, .inr (.inl fm3))), (vv, .inl (cI, 1024, .inl vl3)), (ob, .inl (cJ, 1, .inr (.inl ov)))] H := hP.sub (ws' := [(h0, .inr (3, [.ref lg, .ref fs, .ref ps, .long fa, .long fb, .int 1, .int re])), (fs, .inr (1, [.ref vt])), (vt, .inr (2, [.ref vf, .ref vv])), (vf, .inl (cJ, 1024, .inr (.inl fm3))), (vv, .inl (cI, 1024, .inl vl3)), (ob, .inl (cJ, 1, .inr (.inl ov)))]) [1, 2, 3, 4, 5, 0] rfl
    have hD : va_D A [(h0, .inr (3, [.ref lg, .ref fs, .ref ps, .long fa, .long fb, .int 1, .int re])), (fs, .inr (1, [.ref vt])), (vt, .inr (2, [.ref vf, .ref vv])), (vf, .inl (cJ, 1024, .inr (.inl fm3))), (vv, .inl (cI, 1024, .inl vl3)), (ob, .inl (cJ, 1, .inr (.inl ov)))] := hD.sub (ws' := [(h0, .inr (3, [.ref lg, .ref fs, .ref ps, .long fa, .long fb, .int 1, .int re])), (fs, .inr (1, [.ref vt])), (vt, .inr (2, [.ref vf, .ref vv])), (vf, .inl (cJ, 1024, .inr (.inl fm3))), (vv, .inl (cI, 1024, .inl vl3)), (ob, .inl (cJ, 1, .inr (.inl ov)))]) [1, 2, 3, 4, 5, 0] (by decide) rfl
    refine lv_i2l (v := (r3 : Int32).toInt64) hx hb dL_bestMove_6 rfl ?_
    refine lv_topl (fun x6 ex6 => ?_)
    refine va_last hx hb hK hP hD hS 5 1 rfl rfl (vp_in_nI (n := 0) (N := 1) (by omega) (by decide)) dL_bestMove_7 (fun H locs hP hD hS => ?_)
    have hu7 : (0 : Int32).toNatClampNeg = 0 := pk_cl 0
    rw [hu7] at hP hD
    have hP : va_P D vwCl [(h0, .inr (3, [.ref lg, .ref fs, .ref ps, .long fa, .long fb, .int 1, .int re])), (fs, .inr (1, [.ref vt])), (vt, .inr (2, [.ref vf, .ref vv])), (vf, .inl (cJ, 1024, .inr (.inl fm3))), (vv, .inl (cI, 1024, .inl vl3)), (ob, .inl (cJ, 1, .inr (.inl (vp_updL ov 0 x6))))] H := hP
    have hD : va_D A [(h0, .inr (3, [.ref lg, .ref fs, .ref ps, .long fa, .long fb, .int 1, .int re])), (fs, .inr (1, [.ref vt])), (vt, .inr (2, [.ref vf, .ref vv])), (vf, .inl (cJ, 1024, .inr (.inl fm3))), (vv, .inl (cI, 1024, .inl vl3)), (ob, .inl (cJ, 1, .inr (.inl (vp_updL ov 0 x6))))] := hD
    refine lv_goto (tgt := 14) hx hb dL_bestMove_8 (by decide) ?_
    refine lv_iconst (v := 0) hx hb dL_bestMove_14 (by decide) ?_
    obtain rfl := ex6.symm
    refine W.widen (k := 1) (n := 6) (Nat.le_of_ble_eq_true rfl) (Nat.le_of_ble_eq_true rfl) ?_
    refine W.iret (v := 0) hx hb hr (fun tt ht hW => ⟨⟨0, (fm3, vl3, r3), rfl, ?_, by rw [ht]; exact hP, va_K.moved hW.alike hK, hD⟩, hS.F ht⟩) hS.2.2 dL_bestMove_15
    exact ⟨rfl, hw3⟩

set_option maxHeartbeats 400000 in
set_option maxRecDepth 100000 in
theorem c_L_bestMove_bad_1 (l : Launch) (hltr : l.stackTraces = false) (D : va_G) (cI cJ : ClassId) (sz : Nat) (h0 lg fs ps vt vf vv : Nat) (fa fb : Int64) (re : Int32) (fm : Nat → Int64) (vl : Nat → Int32) (hT : TI fm vl) (hp : 0 < pop (fa ||| fb)) (hB : re = 0 → BH (pop (cempty fa fb)) (cown fa fb 1) (coth fa fb 1))  (ob : Nat) (ov : Nat → Int64) (hbad : ¬ (re = 0 ∧ pop (cempty fa fb) ≤ 3)) : Met l yL_bestMove wsL_bestMove ({ frames := 17, cells := 1, slots := 6, locals := 491 } : Room) (va_Pc [.ref h0, .ref ob] (px_N (px_X (va_A [(h0, .inr (3, [.ref lg, .ref fs, .ref ps, .long fa, .long fb, .int 1, .int re])), (fs, .inr (1, [.ref vt])), (vt, .inr (2, [.ref vf, .ref vv])), (vf, .inl (cJ, 1024, .inr (.inl fm))), (vv, .inl (cI, 1024, .inl vl)), (ob, .inl (cJ, 1, .inr (.inl ov)))] sz) (pv_C D cI cJ [(h0, .inr (3, [.ref lg, .ref fs, .ref ps, .long fa, .long fb, .int 1, .int re])), (fs, .inr (1, [.ref vt])), (vt, .inr (2, [.ref vf, .ref vv])), (vf, .inl (cJ, 1024, .inr (.inl fm))), (vv, .inl (cI, 1024, .inl vl)), (ob, .inl (cJ, 1, .inr (.inl ov)))] sz)))) (va_Qi (fun (r : Int32) (u : Unit) => r = 1) (fun (u : Unit) => pv_B D cI cJ (va_A [(h0, .inr (3, [.ref lg, .ref fs, .ref ps, .long fa, .long fb, .int 1, .int re])), (fs, .inr (1, [.ref vt])), (vt, .inr (2, [.ref vf, .ref vv])), (vf, .inl (cJ, 1024, .inr (.inl fm))), (vv, .inl (cI, 1024, .inl vl)), (ob, .inl (cJ, 1, .inr (.inl ov)))] sz) [(h0, .inr (3, [.ref lg, .ref fs, .ref ps, .long fa, .long fb, .int 1, .int re])), (fs, .inr (1, [.ref vt])), (vt, .inr (2, [.ref vf, .ref vv])), (vf, .inl (cJ, 1024, .inr (.inl fm))), (vv, .inl (cI, 1024, .inl vl)), (ob, .inl (cJ, 1, .inr (.inl ov)))]) (va_A [(h0, .inr (3, [.ref lg, .ref fs, .ref ps, .long fa, .long fb, .int 1, .int re])), (fs, .inr (1, [.ref vt])), (vt, .inr (2, [.ref vf, .ref vv])), (vf, .inl (cJ, 1024, .inr (.inl fm))), (vv, .inl (cI, 1024, .inl vl)), (ob, .inl (cJ, 1, .inr (.inl ov)))] sz)) 1 6 (va_A [(h0, .inr (3, [.ref lg, .ref fs, .ref ps, .long fa, .long fb, .int 1, .int re])), (fs, .inr (1, [.ref vt])), (vt, .inr (2, [.ref vf, .ref vv])), (vf, .inl (cJ, 1024, .inr (.inl fm))), (vv, .inl (cI, 1024, .inl vl)), (ob, .inl (cJ, 1, .inr (.inl ov)))] sz) := by
  refine va_MetW (cc := cL_bestMove) (maxL := 3) (ret := (some .int)) (hh := [(0, 8, 11, 15)]) (by decide) rfl ?_
  intro p e s m args below meth c s₁ B hml hv
  obtain ⟨rfl, hNC, hEN, hEX, hZ, rfl, hP, hK, hD0⟩ := hv
  have hx := B.exec
  have hb := B.bytes
  have hr := B.returns
  have hts := atoms_spec (ws := wsL_bestMove) B.pre
  have hown : s.vm.findClass RL = some m.cls := findClass_of_methodNamed B.named
  have hlocks := B.notSynchronized
  have htb := vx_table (x := yL_bestMove) B (hts _ (List.mem_of_getElem? (i := 0) rfl))
  have hD := hD0.self (sz := s.heap.size)
  generalize hAe : va_A [(h0, .inr (3, [.ref lg, .ref fs, .ref ps, .long fa, .long fb, .int 1, .int re])), (fs, .inr (1, [.ref vt])), (vt, .inr (2, [.ref vf, .ref vv])), (vf, .inl (cJ, 1024, .inr (.inl fm))), (vv, .inl (cI, 1024, .inl vl)), (ob, .inl (cJ, 1, .inr (.inl ov)))] s.heap.size = A at hD hZ ⊢
  have hA : ∀ q : Nat, s.heap.size ≤ q → A q := fun q h => by rw [← hAe]; exact Or.inr h
  have hS : va_S A s.heap s.heap [] := va_S.rf
  have hl := lv_entry ([.ref h0, .ref ob]) (n := 3) (Nat.le_of_ble_eq_true rfl)
  rw [lg_entry_eq]
  generalize (lg_sl ([.ref h0, .ref ob]) ++ List.replicate (3 - (lg_sl ([.ref h0, .ref ob])).length) Slot.unset).toArray = ls at hl ⊢
  have hl : lv_has ls 3 [(0, .ref h0), (1, .ref ob)] := hl
  refine lv_aload_n hx hb dL_bestMove_0 rfl (lv_at hl 1 rfl) ?_
  refine lv_iconst (v := 0) hx hb dL_bestMove_1 (by decide) ?_
  refine lv_aload_n hx hb dL_bestMove_2 rfl (lv_at hl 0 rfl) ?_
  have hPc : va_P D vwCl [(h0, .inr (3, [.ref lg, .ref fs, .ref ps, .long fa, .long fb, .int 1, .int re])), (fs, .inr (1, [.ref vt])), (vt, .inr (2, [.ref vf, .ref vv])), (vf, .inl (cJ, 1024, .inr (.inl fm))), (vv, .inl (cI, 1024, .inl vl))] s.heap := hP.sub (ws' := [(h0, .inr (3, [.ref lg, .ref fs, .ref ps, .long fa, .long fb, .int 1, .int re])), (fs, .inr (1, [.ref vt])), (vt, .inr (2, [.ref vf, .ref vv])), (vf, .inl (cJ, 1024, .inr (.inl fm))), (vv, .inl (cI, 1024, .inl vl))]) [0, 1, 2, 3, 4] rfl
  have hDc : va_D A [(h0, .inr (3, [.ref lg, .ref fs, .ref ps, .long fa, .long fb, .int 1, .int re])), (fs, .inr (1, [.ref vt])), (vt, .inr (2, [.ref vf, .ref vv])), (vf, .inl (cJ, 1024, .inr (.inl fm))), (vv, .inl (cI, 1024, .inl vl))] := hD.sub (ws' := [(h0, .inr (3, [.ref lg, .ref fs, .ref ps, .long fa, .long fb, .int 1, .int re])), (fs, .inr (1, [.ref vt])), (vt, .inr (2, [.ref vf, .ref vv])), (vf, .inl (cJ, 1024, .inr (.inl fm))), (vv, .inl (cI, 1024, .inl vl))]) [0, 1, 2, 3, 4] (by decide) rfl
  have hFc := va_free (wc := [(h0, .inr (3, [.ref lg, .ref fs, .ref ps, .long fa, .long fb, .int 1, .int re])), (fs, .inr (1, [.ref vt])), (vt, .inr (2, [.ref vf, .ref vv])), (vf, .inl (cJ, 1024, .inr (.inl fm))), (vv, .inl (cI, 1024, .inl vl))]) hD hS hA [0, 1, 2, 3, 4] rfl
  refine vx_calli (vx_runV (As := []) (rest := [.int 0, .ref ob]) ⟨hx, hb, hml, hown, hts⟩ (c_X6_bestMove_1 l hltr D cI cJ s.heap.size  h0 lg fs ps vt vf vv fa fb re fm vl hT hp hB) (cwV 0 hts gL_bestMove_X6_bestMove rfl rfl rfl (by decide +kernel) ⟨Nat.le_of_ble_eq_true rfl, Nat.le_of_ble_eq_true rfl⟩) ⟨(px_blindE (px_blindX pv_blind)), va_recv hK hPc (ci := 3) (q0 := 0) rfl rfl, fun U hU hW => ⟨rfl, hEN.warm hW, hEX.warm hW, by rw [hU]; exact hZ.to hS hW.alike hFc, by rw [hU], by rw [hU]; exact hPc, va_K.moved hW.alike hK, hDc.weaken (fun _ _ _ _ => trivial)⟩⟩ rfl rfl hl.1 rfl (lv_room (Nat.le_of_ble_eq_true rfl)) dL_bestMove_3 ⟨(Nat.le_of_ble_eq_true rfl), (Nat.le_of_ble_eq_true rfl)⟩) hS (fun q _ h => hFc q h) hFc (fun q _ h => hFc q h) (fun E ce q9 u9 t9 H1 locs hth hvm hpx hB9 hz1 hk1 hS hce hcv hcl => ?_) (fun r3 u t9 H1 locs hth hvm hw3 hB9 hz1 hk1 hS => ?_)
  · obtain ⟨hb9, hP1, hK1, hD1⟩ := hB9
    rw [hth] at hP1
    obtain ⟨hP, hD⟩ := va_join (wr := [(ob, .inl (cJ, 1, .inr (.inl ov)))]) (w1 := [(h0, .inr (3, [.ref lg, .ref fs, .ref ps, .long fa, .long fb, .int 1, .int re])), (fs, .inr (1, [.ref vt])), (vt, .inr (2, [.ref vf, .ref vv])), (vf, .inl (cJ, 1024, .inr (.inl fm))), (vv, .inl (cI, 1024, .inl vl))]) hP hD [0, 1, 2, 3, 4] [5] rfl rfl (by decide) (by decide) hk1 hFc hP1 hD1
    have hP : va_P D vwCl [(h0, .inr (3, [.ref lg, .ref fs, .ref ps, .long fa, .long fb, .int 1, .int re])), (fs, .inr (1, [.ref vt])), (vt, .inr (2, [.ref vf, .ref vv])), (vf, .inl (cJ, 1024, .inr (.inl fm))), (vv, .inl (cI, 1024, .inl vl)), (ob, .inl (cJ, 1, .inr (.inl ov)))] H1 := hP.sub (ws' := [(h0, .inr (3, [.ref lg, .ref fs, .ref ps, .long fa, .long fb, .int 1, .int re])), (fs, .inr (1, [.ref vt])), (vt, .inr (2, [.ref vf, .ref vv])), (vf, .inl (cJ, 1024, .inr (.inl fm))), (vv, .inl (cI, 1024, .inl vl)), (ob, .inl (cJ, 1, .inr (.inl ov)))]) [1, 2, 3, 4, 5, 0] rfl
    have hD : va_D A [(h0, .inr (3, [.ref lg, .ref fs, .ref ps, .long fa, .long fb, .int 1, .int re])), (fs, .inr (1, [.ref vt])), (vt, .inr (2, [.ref vf, .ref vv])), (vf, .inl (cJ, 1024, .inr (.inl fm))), (vv, .inl (cI, 1024, .inl vl)), (ob, .inl (cJ, 1, .inr (.inl ov)))] := hD.sub (ws' := [(h0, .inr (3, [.ref lg, .ref fs, .ref ps, .long fa, .long fb, .int 1, .int re])), (fs, .inr (1, [.ref vt])), (vt, .inr (2, [.ref vf, .ref vv])), (vf, .inl (cJ, 1024, .inr (.inl fm))), (vv, .inl (cI, 1024, .inl vl)), (ob, .inl (cJ, 1, .inr (.inl ov)))]) [1, 2, 3, 4, 5, 0] (by decide) rfl
    obtain rfl : E = nISE := hb9.1
    refine vx_catch (own := RL) (name := nISE) hown [] ⟨0, 8, 11, 15⟩ [] (htb.trans rfl) (fun z hz => nomatch hz) (by decide) (by decide) (hts (.classLink RL 15 nISE) (by decide +kernel)) (va_Nw.use rfl hEX.2.2.1) hce hcv hcl ?_
    refine lv_astore_n (lv' := [(2, .ref q9), (0, .ref h0), (1, .ref ob)]) hx hb dL_bestMove_11 rfl hl (by decide) rfl (fun ls hl => ?_)
    refine lv_iconst (v := 1) hx hb dL_bestMove_12 (by decide) ?_
    refine W.widen (k := 1) (n := 6) (Nat.le_of_ble_eq_true rfl) (Nat.le_of_ble_eq_true rfl) ?_
    refine W.iret (v := 1) hx hb hr (fun tt ht hW => ⟨⟨1, (), rfl, ?_, by rw [ht]; exact hP, va_K.moved hW.alike hK, hD⟩, hS.F ht⟩) hS.2.2 dL_bestMove_13
    exact rfl
  · try dsimp only at hw3
    exact absurd ⟨hw3.1, hw3.2.1⟩ hbad

set_option maxHeartbeats 400000 in
set_option maxRecDepth 100000 in
theorem c_L_valueOnBoards_ok_1 (l : Launch) (hltr : l.stackTraces = false) (D : va_G) (cI cJ : ClassId) (sz : Nat) (h0 lg fs ps : Nat) (fa fb : Int64) (re : Int32) (hp : 0 < pop (fa ||| fb))  (ob : Nat) (ov : Nat → Int64) (hok : re = 0 ∧ pop (cempty fa fb) ≤ 3) : Met l yL_valueOnBoards wsL_valueOnBoards ({ frames := 18, cells := 1, slots := 6, locals := 510 } : Room) (va_Pc [.ref h0, .ref ob] (px_N (px_X (va_A [(h0, .inr (3, [.ref lg, .ref fs, .ref ps, .long fa, .long fb, .int 1, .int re])), (ps, .inr (1, [.null])), (ob, .inl (cJ, 1, .inr (.inl ov)))] sz) (pv_C D cI cJ [(h0, .inr (3, [.ref lg, .ref fs, .ref ps, .long fa, .long fb, .int 1, .int re])), (ps, .inr (1, [.null])), (ob, .inl (cJ, 1, .inr (.inl ov)))] sz)))) (va_Qi (fun (r : Int32) (u : (Int32)) => r = 0 ∧ (re = 0 ∧ pop (cempty fa fb) ≤ 3 ∧ u = vturn (vput (pop (cempty fa fb))) (cown fa fb 1) (coth fa fb 1) 8)) (fun (u : (Int32)) => pv_B D cI cJ (va_A [(h0, .inr (3, [.ref lg, .ref fs, .ref ps, .long fa, .long fb, .int 1, .int re])), (ps, .inr (1, [.null])), (ob, .inl (cJ, 1, .inr (.inl ov)))] sz) [(h0, .inr (3, [.ref lg, .ref fs, .ref ps, .long fa, .long fb, .int 1, .int re])), (ps, .inr (1, [.null])), (ob, .inl (cJ, 1, .inr (.inl (vp_updL ov 0 (u).toInt64))))]) (va_A [(h0, .inr (3, [.ref lg, .ref fs, .ref ps, .long fa, .long fb, .int 1, .int re])), (ps, .inr (1, [.null])), (ob, .inl (cJ, 1, .inr (.inl ov)))] sz)) 1 6 (va_A [(h0, .inr (3, [.ref lg, .ref fs, .ref ps, .long fa, .long fb, .int 1, .int re])), (ps, .inr (1, [.null])), (ob, .inl (cJ, 1, .inr (.inl ov)))] sz) := by
  refine va_MetW (cc := cL_valueOnBoards) (maxL := 3) (ret := (some .int)) (hh := [(0, 8, 11, 15)]) (by decide) rfl ?_
  intro p e s m args below meth c s₁ B hml hv
  obtain ⟨rfl, hNC, hEN, hEX, hZ, rfl, hP, hK, hD0⟩ := hv
  have hx := B.exec
  have hb := B.bytes
  have hr := B.returns
  have hts := atoms_spec (ws := wsL_valueOnBoards) B.pre
  have hown : s.vm.findClass RL = some m.cls := findClass_of_methodNamed B.named
  have hlocks := B.notSynchronized
  have htb := vx_table (x := yL_valueOnBoards) B (hts _ (List.mem_of_getElem? (i := 0) rfl))
  have hD := hD0.self (sz := s.heap.size)
  generalize hAe : va_A [(h0, .inr (3, [.ref lg, .ref fs, .ref ps, .long fa, .long fb, .int 1, .int re])), (ps, .inr (1, [.null])), (ob, .inl (cJ, 1, .inr (.inl ov)))] s.heap.size = A at hD hZ ⊢
  have hA : ∀ q : Nat, s.heap.size ≤ q → A q := fun q h => by rw [← hAe]; exact Or.inr h
  have hS : va_S A s.heap s.heap [] := va_S.rf
  have hl := lv_entry ([.ref h0, .ref ob]) (n := 3) (Nat.le_of_ble_eq_true rfl)
  rw [lg_entry_eq]
  generalize (lg_sl ([.ref h0, .ref ob]) ++ List.replicate (3 - (lg_sl ([.ref h0, .ref ob])).length) Slot.unset).toArray = ls at hl ⊢
  have hl : lv_has ls 3 [(0, .ref h0), (1, .ref ob)] := hl
  refine lv_aload_n hx hb dL_valueOnBoards_0 rfl (lv_at hl 1 rfl) ?_
  refine lv_iconst (v := 0) hx hb dL_valueOnBoards_1 (by decide) ?_
  refine lv_aload_n hx hb dL_valueOnBoards_2 rfl (lv_at hl 0 rfl) ?_
  have hPc : va_P D vwCl [(h0, .inr (3, [.ref lg, .ref fs, .ref ps, .long fa, .long fb, .int 1, .int re])), (ps, .inr (1, [.null]))] s.heap := hP.sub (ws' := [(h0, .inr (3, [.ref lg, .ref fs, .ref ps, .long fa, .long fb, .int 1, .int re])), (ps, .inr (1, [.null]))]) [0, 1] rfl
  have hDc : va_D A [(h0, .inr (3, [.ref lg, .ref fs, .ref ps, .long fa, .long fb, .int 1, .int re])), (ps, .inr (1, [.null]))] := hD.sub (ws' := [(h0, .inr (3, [.ref lg, .ref fs, .ref ps, .long fa, .long fb, .int 1, .int re])), (ps, .inr (1, [.null]))]) [0, 1] (by decide) rfl
  have hFc := va_free (wc := [(h0, .inr (3, [.ref lg, .ref fs, .ref ps, .long fa, .long fb, .int 1, .int re])), (ps, .inr (1, [.null]))]) hD hS hA [0, 1] rfl
  refine vx_calli (vx_runV (As := []) (rest := [.int 0, .ref ob]) ⟨hx, hb, hml, hown, hts⟩ (c_X6_valueOnBoards_1 l hltr D cI cJ s.heap.size  h0 lg fs ps fa fb re hp) (cwV 0 hts gL_valueOnBoards_X6_valueOnBoards rfl rfl rfl (by decide +kernel) ⟨Nat.le_of_ble_eq_true rfl, Nat.le_of_ble_eq_true rfl⟩) ⟨(px_blindE (px_blindX pv_blind)), va_recv hK hPc (ci := 3) (q0 := 0) rfl rfl, fun U hU hW => ⟨rfl, hEN.warm hW, hEX.warm hW, by rw [hU]; exact hZ.to hS hW.alike hFc, by rw [hU], by rw [hU]; exact hPc, va_K.moved hW.alike hK, hDc.weaken (fun _ _ _ _ => trivial)⟩⟩ rfl rfl hl.1 rfl (lv_room (Nat.le_of_ble_eq_true rfl)) dL_valueOnBoards_3 ⟨(Nat.le_of_ble_eq_true rfl), (Nat.le_of_ble_eq_true rfl)⟩) hS (fun q _ h => hFc q h) hFc (fun q _ h => hFc q h) (fun E ce q9 u9 t9 H1 locs hth hvm hpx hB9 hz1 hk1 hS hce hcv hcl => ?_) (fun r3 u t9 H1 locs hth hvm hw3 hB9 hz1 hk1 hS => ?_)
  · obtain ⟨hb9, hP1, hK1, hD1⟩ := hB9
    rw [hth] at hP1
    obtain ⟨hP, hD⟩ := va_join (wr := [(ob, .inl (cJ, 1, .inr (.inl ov)))]) (w1 := [(h0, .inr (3, [.ref lg, .ref fs, .ref ps, .long fa, .long fb, .int 1, .int re])), (ps, .inr (1, [.null]))]) hP hD [0, 1] [2] rfl rfl (by decide) (by decide) hk1 hFc hP1 hD1
    have hP : va_P D vwCl [(h0, .inr (3, [.ref lg, .ref fs, .ref ps, .long fa, .long fb, .int 1, .int re])), (ps, .inr (1, [.null])), (ob, .inl (cJ, 1, .inr (.inl ov)))] H1 := hP.sub (ws' := [(h0, .inr (3, [.ref lg, .ref fs, .ref ps, .long fa, .long fb, .int 1, .int re])), (ps, .inr (1, [.null])), (ob, .inl (cJ, 1, .inr (.inl ov)))]) [1, 2, 0] rfl
    have hD : va_D A [(h0, .inr (3, [.ref lg, .ref fs, .ref ps, .long fa, .long fb, .int 1, .int re])), (ps, .inr (1, [.null])), (ob, .inl (cJ, 1, .inr (.inl ov)))] := hD.sub (ws' := [(h0, .inr (3, [.ref lg, .ref fs, .ref ps, .long fa, .long fb, .int 1, .int re])), (ps, .inr (1, [.null])), (ob, .inl (cJ, 1, .inr (.inl ov)))]) [1, 2, 0] (by decide) rfl
    exact (absurd hok hb9.2)
  · try dsimp only at hw3
    obtain ⟨hP1, hK1, hD1⟩ := hB9
    rw [hth] at hP1
    obtain ⟨hP, hD⟩ := va_join (wr := [(ob, .inl (cJ, 1, .inr (.inl ov)))]) (w1 := [(h0, .inr (3, [.ref lg, .ref fs, .ref ps, .long fa, .long fb, .int 1, .int re])), (ps, .inr (1, [.null]))]) hP hD [0, 1] [2] rfl rfl (by decide) (by decide) hk1 hFc hP1 hD1
    generalize H1 = H at hP hS ⊢
    have hP : va_P D vwCl [(h0, .inr (3, [.ref lg, .ref fs, .ref ps, .long fa, .long fb, .int 1, .int re])), (ps, .inr (1, [.null])), (ob, .inl (cJ, 1, .inr (.inl ov)))] H := hP.sub (ws' := [(h0, .inr (3, [.ref lg, .ref fs, .ref ps, .long fa, .long fb, .int 1, .int re])), (ps, .inr (1, [.null])), (ob, .inl (cJ, 1, .inr (.inl ov)))]) [1, 2, 0] rfl
    have hD : va_D A [(h0, .inr (3, [.ref lg, .ref fs, .ref ps, .long fa, .long fb, .int 1, .int re])), (ps, .inr (1, [.null])), (ob, .inl (cJ, 1, .inr (.inl ov)))] := hD.sub (ws' := [(h0, .inr (3, [.ref lg, .ref fs, .ref ps, .long fa, .long fb, .int 1, .int re])), (ps, .inr (1, [.null])), (ob, .inl (cJ, 1, .inr (.inl ov)))]) [1, 2, 0] (by decide) rfl
    refine lv_i2l (v := (r3 : Int32).toInt64) hx hb dL_valueOnBoards_6 rfl ?_
    refine lv_topl (fun x6 ex6 => ?_)
    refine va_last hx hb hK hP hD hS 2 1 rfl rfl (vp_in_nI (n := 0) (N := 1) (by omega) (by decide)) dL_valueOnBoards_7 (fun H locs hP hD hS => ?_)
    have hu7 : (0 : Int32).toNatClampNeg = 0 := pk_cl 0
    rw [hu7] at hP hD
    have hP : va_P D vwCl [(h0, .inr (3, [.ref lg, .ref fs, .ref ps, .long fa, .long fb, .int 1, .int re])), (ps, .inr (1, [.null])), (ob, .inl (cJ, 1, .inr (.inl (vp_updL ov 0 x6))))] H := hP
    have hD : va_D A [(h0, .inr (3, [.ref lg, .ref fs, .ref ps, .long fa, .long fb, .int 1, .int re])), (ps, .inr (1, [.null])), (ob, .inl (cJ, 1, .inr (.inl (vp_updL ov 0 x6))))] := hD
    refine lv_goto (tgt := 14) hx hb dL_valueOnBoards_8 (by decide) ?_
    refine lv_iconst (v := 0) hx hb dL_valueOnBoards_14 (by decide) ?_
    obtain rfl := ex6.symm
    refine W.widen (k := 1) (n := 6) (Nat.le_of_ble_eq_true rfl) (Nat.le_of_ble_eq_true rfl) ?_
    refine W.iret (v := 0) hx hb hr (fun tt ht hW => ⟨⟨0, r3, rfl, ?_, by rw [ht]; exact hP, va_K.moved hW.alike hK, hD⟩, hS.F ht⟩) hS.2.2 dL_valueOnBoards_15
    exact ⟨rfl, hw3⟩

set_option maxHeartbeats 400000 in
set_option maxRecDepth 100000 in
theorem c_L_valueOnBoards_bad_1 (l : Launch) (hltr : l.stackTraces = false) (D : va_G) (cI cJ : ClassId) (sz : Nat) (h0 lg fs ps : Nat) (fa fb : Int64) (re : Int32) (hp : 0 < pop (fa ||| fb))  (ob : Nat) (ov : Nat → Int64) (hbad : ¬ (re = 0 ∧ pop (cempty fa fb) ≤ 3)) : Met l yL_valueOnBoards wsL_valueOnBoards ({ frames := 18, cells := 1, slots := 6, locals := 510 } : Room) (va_Pc [.ref h0, .ref ob] (px_N (px_X (va_A [(h0, .inr (3, [.ref lg, .ref fs, .ref ps, .long fa, .long fb, .int 1, .int re])), (ps, .inr (1, [.null])), (ob, .inl (cJ, 1, .inr (.inl ov)))] sz) (pv_C D cI cJ [(h0, .inr (3, [.ref lg, .ref fs, .ref ps, .long fa, .long fb, .int 1, .int re])), (ps, .inr (1, [.null])), (ob, .inl (cJ, 1, .inr (.inl ov)))] sz)))) (va_Qi (fun (r : Int32) (u : Unit) => r = 1) (fun (u : Unit) => pv_B D cI cJ (va_A [(h0, .inr (3, [.ref lg, .ref fs, .ref ps, .long fa, .long fb, .int 1, .int re])), (ps, .inr (1, [.null])), (ob, .inl (cJ, 1, .inr (.inl ov)))] sz) [(h0, .inr (3, [.ref lg, .ref fs, .ref ps, .long fa, .long fb, .int 1, .int re])), (ps, .inr (1, [.null])), (ob, .inl (cJ, 1, .inr (.inl ov)))]) (va_A [(h0, .inr (3, [.ref lg, .ref fs, .ref ps, .long fa, .long fb, .int 1, .int re])), (ps, .inr (1, [.null])), (ob, .inl (cJ, 1, .inr (.inl ov)))] sz)) 1 6 (va_A [(h0, .inr (3, [.ref lg, .ref fs, .ref ps, .long fa, .long fb, .int 1, .int re])), (ps, .inr (1, [.null])), (ob, .inl (cJ, 1, .inr (.inl ov)))] sz) := by
  refine va_MetW (cc := cL_valueOnBoards) (maxL := 3) (ret := (some .int)) (hh := [(0, 8, 11, 15)]) (by decide) rfl ?_
  intro p e s m args below meth c s₁ B hml hv
  obtain ⟨rfl, hNC, hEN, hEX, hZ, rfl, hP, hK, hD0⟩ := hv
  have hx := B.exec
  have hb := B.bytes
  have hr := B.returns
  have hts := atoms_spec (ws := wsL_valueOnBoards) B.pre
  have hown : s.vm.findClass RL = some m.cls := findClass_of_methodNamed B.named
  have hlocks := B.notSynchronized
  have htb := vx_table (x := yL_valueOnBoards) B (hts _ (List.mem_of_getElem? (i := 0) rfl))
  have hD := hD0.self (sz := s.heap.size)
  generalize hAe : va_A [(h0, .inr (3, [.ref lg, .ref fs, .ref ps, .long fa, .long fb, .int 1, .int re])), (ps, .inr (1, [.null])), (ob, .inl (cJ, 1, .inr (.inl ov)))] s.heap.size = A at hD hZ ⊢
  have hA : ∀ q : Nat, s.heap.size ≤ q → A q := fun q h => by rw [← hAe]; exact Or.inr h
  have hS : va_S A s.heap s.heap [] := va_S.rf
  have hl := lv_entry ([.ref h0, .ref ob]) (n := 3) (Nat.le_of_ble_eq_true rfl)
  rw [lg_entry_eq]
  generalize (lg_sl ([.ref h0, .ref ob]) ++ List.replicate (3 - (lg_sl ([.ref h0, .ref ob])).length) Slot.unset).toArray = ls at hl ⊢
  have hl : lv_has ls 3 [(0, .ref h0), (1, .ref ob)] := hl
  refine lv_aload_n hx hb dL_valueOnBoards_0 rfl (lv_at hl 1 rfl) ?_
  refine lv_iconst (v := 0) hx hb dL_valueOnBoards_1 (by decide) ?_
  refine lv_aload_n hx hb dL_valueOnBoards_2 rfl (lv_at hl 0 rfl) ?_
  have hPc : va_P D vwCl [(h0, .inr (3, [.ref lg, .ref fs, .ref ps, .long fa, .long fb, .int 1, .int re])), (ps, .inr (1, [.null]))] s.heap := hP.sub (ws' := [(h0, .inr (3, [.ref lg, .ref fs, .ref ps, .long fa, .long fb, .int 1, .int re])), (ps, .inr (1, [.null]))]) [0, 1] rfl
  have hDc : va_D A [(h0, .inr (3, [.ref lg, .ref fs, .ref ps, .long fa, .long fb, .int 1, .int re])), (ps, .inr (1, [.null]))] := hD.sub (ws' := [(h0, .inr (3, [.ref lg, .ref fs, .ref ps, .long fa, .long fb, .int 1, .int re])), (ps, .inr (1, [.null]))]) [0, 1] (by decide) rfl
  have hFc := va_free (wc := [(h0, .inr (3, [.ref lg, .ref fs, .ref ps, .long fa, .long fb, .int 1, .int re])), (ps, .inr (1, [.null]))]) hD hS hA [0, 1] rfl
  refine vx_calli (vx_runV (As := []) (rest := [.int 0, .ref ob]) ⟨hx, hb, hml, hown, hts⟩ (c_X6_valueOnBoards_1 l hltr D cI cJ s.heap.size  h0 lg fs ps fa fb re hp) (cwV 0 hts gL_valueOnBoards_X6_valueOnBoards rfl rfl rfl (by decide +kernel) ⟨Nat.le_of_ble_eq_true rfl, Nat.le_of_ble_eq_true rfl⟩) ⟨(px_blindE (px_blindX pv_blind)), va_recv hK hPc (ci := 3) (q0 := 0) rfl rfl, fun U hU hW => ⟨rfl, hEN.warm hW, hEX.warm hW, by rw [hU]; exact hZ.to hS hW.alike hFc, by rw [hU], by rw [hU]; exact hPc, va_K.moved hW.alike hK, hDc.weaken (fun _ _ _ _ => trivial)⟩⟩ rfl rfl hl.1 rfl (lv_room (Nat.le_of_ble_eq_true rfl)) dL_valueOnBoards_3 ⟨(Nat.le_of_ble_eq_true rfl), (Nat.le_of_ble_eq_true rfl)⟩) hS (fun q _ h => hFc q h) hFc (fun q _ h => hFc q h) (fun E ce q9 u9 t9 H1 locs hth hvm hpx hB9 hz1 hk1 hS hce hcv hcl => ?_) (fun r3 u t9 H1 locs hth hvm hw3 hB9 hz1 hk1 hS => ?_)
  · obtain ⟨hb9, hP1, hK1, hD1⟩ := hB9
    rw [hth] at hP1
    obtain ⟨hP, hD⟩ := va_join (wr := [(ob, .inl (cJ, 1, .inr (.inl ov)))]) (w1 := [(h0, .inr (3, [.ref lg, .ref fs, .ref ps, .long fa, .long fb, .int 1, .int re])), (ps, .inr (1, [.null]))]) hP hD [0, 1] [2] rfl rfl (by decide) (by decide) hk1 hFc hP1 hD1
    have hP : va_P D vwCl [(h0, .inr (3, [.ref lg, .ref fs, .ref ps, .long fa, .long fb, .int 1, .int re])), (ps, .inr (1, [.null])), (ob, .inl (cJ, 1, .inr (.inl ov)))] H1 := hP.sub (ws' := [(h0, .inr (3, [.ref lg, .ref fs, .ref ps, .long fa, .long fb, .int 1, .int re])), (ps, .inr (1, [.null])), (ob, .inl (cJ, 1, .inr (.inl ov)))]) [1, 2, 0] rfl
    have hD : va_D A [(h0, .inr (3, [.ref lg, .ref fs, .ref ps, .long fa, .long fb, .int 1, .int re])), (ps, .inr (1, [.null])), (ob, .inl (cJ, 1, .inr (.inl ov)))] := hD.sub (ws' := [(h0, .inr (3, [.ref lg, .ref fs, .ref ps, .long fa, .long fb, .int 1, .int re])), (ps, .inr (1, [.null])), (ob, .inl (cJ, 1, .inr (.inl ov)))]) [1, 2, 0] (by decide) rfl
    obtain rfl : E = nISE := hb9.1
    refine vx_catch (own := RL) (name := nISE) hown [] ⟨0, 8, 11, 15⟩ [] (htb.trans rfl) (fun z hz => nomatch hz) (by decide) (by decide) (hts (.classLink RL 15 nISE) (by decide +kernel)) (va_Nw.use rfl hEX.2.2.1) hce hcv hcl ?_
    refine lv_astore_n (lv' := [(2, .ref q9), (0, .ref h0), (1, .ref ob)]) hx hb dL_valueOnBoards_11 rfl hl (by decide) rfl (fun ls hl => ?_)
    refine lv_iconst (v := 1) hx hb dL_valueOnBoards_12 (by decide) ?_
    refine W.widen (k := 1) (n := 6) (Nat.le_of_ble_eq_true rfl) (Nat.le_of_ble_eq_true rfl) ?_
    refine W.iret (v := 1) hx hb hr (fun tt ht hW => ⟨⟨1, (), rfl, ?_, by rw [ht]; exact hP, va_K.moved hW.alike hK, hD⟩, hS.F ht⟩) hS.2.2 dL_valueOnBoards_13
    exact rfl
  · try dsimp only at hw3
    exact absurd ⟨hw3.1, hw3.2.1⟩ hbad
