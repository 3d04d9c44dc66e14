set_option maxHeartbeats 400000 in
set_option maxRecDepth 100000 in
theorem c_X7_open_top (l : Launch) (D : va_G) (cI cJ : ClassId) (sz : Nat) (h0 ow cl tu lk f1 s2 ms nx bs : Nat) (th re mt fd : Int32) (w k : Nat) (fo lo ff sf : Nat → Int64) (cs ts mm nf bf : Nat → Int32) (sd : Nat) (hsd : sd = 1 ∨ sd = 2) : Met l yX7_open wsX7_open ({ frames := 0, cells := 0, slots := 0, locals := 0 } : Room) (va_Pc [.ref h0, .int 0, .int (nI sd)] (pv_C D cI cJ [(h0, .inr (4, [.int th, .ref ow, .int re, .int (nI w), .int mt, .ref cl, .ref tu, .int (nI k), .ref lk, .ref f1, .ref s2, .ref ms, .ref nx, .ref bs, .int fd])), (ow, .inl (cJ, 3, .inr (.inl fo))), (cl, .inl (cI, 36, .inl cs)), (tu, .inl (cI, 36, .inl ts)), (lk, .inl (cJ, 3, .inr (.inl lo))), (f1, .inl (cJ, 6, .inr (.inl ff))), (s2, .inl (cJ, 6, .inr (.inl sf))), (ms, .inl (cI, 6, .inl mm)), (nx, .inl (cI, 6, .inl nf)), (bs, .inl (cI, 6, .inl bf))] sz)) (va_Qv (fun (u : Unit) => True) (fun (u : Unit) => pv_B D cI cJ (va_A [(h0, .inr (4, [.int th, .ref ow, .int re, .int (nI w), .int mt, .ref cl, .ref tu, .int (nI k), .ref lk, .ref f1, .ref s2, .ref ms, .ref nx, .ref bs, .int fd])), (ow, .inl (cJ, 3, .inr (.inl fo))), (cl, .inl (cI, 36, .inl cs)), (tu, .inl (cI, 36, .inl ts)), (lk, .inl (cJ, 3, .inr (.inl lo))), (f1, .inl (cJ, 6, .inr (.inl ff))), (s2, .inl (cJ, 6, .inr (.inl sf))), (ms, .inl (cI, 6, .inl mm)), (nx, .inl (cI, 6, .inl nf)), (bs, .inl (cI, 6, .inl bf))] sz) [(h0, .inr (4, [.int th, .ref ow, .int re, .int (nI w), .int mt, .ref cl, .ref tu, .int (nI k), .ref lk, .ref f1, .ref s2, .ref ms, .ref nx, .ref bs, .int fd])), (ow, .inl (cJ, 3, .inr (.inl fo))), (cl, .inl (cI, 36, .inl cs)), (tu, .inl (cI, 36, .inl ts)), (lk, .inl (cJ, 3, .inr (.inl lo))), (f1, .inl (cJ, 6, .inr (.inl (vp_updL ff 0 (fo 1))))), (s2, .inl (cJ, 6, .inr (.inl (vp_updL sf 0 (fo 2))))), (ms, .inl (cI, 6, .inl (upd mm 0 (nI sd)))), (nx, .inl (cI, 6, .inl (upd nf 0 0))), (bs, .inl (cI, 6, .inl (upd bf 0 (-2))))]) (va_A [(h0, .inr (4, [.int th, .ref ow, .int re, .int (nI w), .int mt, .ref cl, .ref tu, .int (nI k), .ref lk, .ref f1, .ref s2, .ref ms, .ref nx, .ref bs, .int fd])), (ow, .inl (cJ, 3, .inr (.inl fo))), (cl, .inl (cI, 36, .inl cs)), (tu, .inl (cI, 36, .inl ts)), (lk, .inl (cJ, 3, .inr (.inl lo))), (f1, .inl (cJ, 6, .inr (.inl ff))), (s2, .inl (cJ, 6, .inr (.inl sf))), (ms, .inl (cI, 6, .inl mm)), (nx, .inl (cI, 6, .inl nf)), (bs, .inl (cI, 6, .inl bf))] sz)) 0 0 (va_A [(h0, .inr (4, [.int th, .ref ow, .int re, .int (nI w), .int mt, .ref cl, .ref tu, .int (nI k), .ref lk, .ref f1, .ref s2, .ref ms, .ref nx, .ref bs, .int fd])), (ow, .inl (cJ, 3, .inr (.inl fo))), (cl, .inl (cI, 36, .inl cs)), (tu, .inl (cI, 36, .inl ts)), (lk, .inl (cJ, 3, .inr (.inl lo))), (f1, .inl (cJ, 6, .inr (.inl ff))), (s2, .inl (cJ, 6, .inr (.inl sf))), (ms, .inl (cI, 6, .inl mm)), (nx, .inl (cI, 6, .inl nf)), (bs, .inl (cI, 6, .inl bf))] sz) := by
  refine Met.ofW (cc := cX7_open) (maxL := 3) (ret := none) (by decide) rfl ?_
  intro p e s m args below meth c s₁ B hml hv
  obtain ⟨rfl, rfl, hP, hK, hD0⟩ := hv
  have hx := B.exec
  have hb := B.bytes
  have hr := B.returns
  have hts := atoms_spec (ws := wsX7_open) B.pre
  have hown : s.vm.findClass RX7 = some m.cls := findClass_of_methodNamed B.named
  have hlocks := B.notSynchronized
  have hD := hD0.self (sz := s.heap.size)
  generalize hAe : va_A [(h0, .inr (4, [.int th, .ref ow, .int re, .int (nI w), .int mt, .ref cl, .ref tu, .int (nI k), .ref lk, .ref f1, .ref s2, .ref ms, .ref nx, .ref bs, .int fd])), (ow, .inl (cJ, 3, .inr (.inl fo))), (cl, .inl (cI, 36, .inl cs)), (tu, .inl (cI, 36, .inl ts)), (lk, .inl (cJ, 3, .inr (.inl lo))), (f1, .inl (cJ, 6, .inr (.inl ff))), (s2, .inl (cJ, 6, .inr (.inl sf))), (ms, .inl (cI, 6, .inl mm)), (nx, .inl (cI, 6, .inl nf)), (bs, .inl (cI, 6, .inl bf))] s.heap.size = A at hD ⊢
  have hA : ∀ q : Nat, s.heap.size ≤ q → A q := fun q h => by rw [← hAe]; exact Or.inr h
  have hS : va_S A s.heap s.heap [] := va_S.rf
  have hinX7 : ∀ w ∈ wsX70, w ∈ wsX7_open := by decide +kernel
  have hfl27 : (Cond.fieldLink RX7 27 "TwistquadModel" "firsts" "[J").before ([.ref h0, .int 0, .int (nI sd)] : List Value).toArray s = true := hts _ (by decide +kernel)
  have hfl7 : (Cond.fieldLink RX7 7 "TwistquadModel" "own" "[J").before ([.ref h0, .int 0, .int (nI sd)] : List Value).toArray s = true := hts _ (by decide +kernel)
  have hfl30 : (Cond.fieldLink RX7 30 "TwistquadModel" "seconds" "[J").before ([.ref h0, .int 0, .int (nI sd)] : List Value).toArray s = true := hts _ (by decide +kernel)
  have hfl33 : (Cond.fieldLink RX7 33 "TwistquadModel" "movers" "[I").before ([.ref h0, .int 0, .int (nI sd)] : List Value).toArray s = true := hts _ (by decide +kernel)
  have hfl36 : (Cond.fieldLink RX7 36 "TwistquadModel" "nexts" "[I").before ([.ref h0, .int 0, .int (nI sd)] : List Value).toArray s = true := hts _ (by decide +kernel)
  have hfl39 : (Cond.fieldLink RX7 39 "TwistquadModel" "bests" "[I").before ([.ref h0, .int 0, .int (nI sd)] : List Value).toArray s = true := hts _ (by decide +kernel)
  have hl := lv_entry ([.ref h0, .int 0, .int (nI sd)]) (n := 3) (Nat.le_of_ble_eq_true rfl)
  rw [lg_entry_eq]
  generalize (lg_sl ([.ref h0, .int 0, .int (nI sd)]) ++ List.replicate (3 - (lg_sl ([.ref h0, .int 0, .int (nI sd)])).length) Slot.unset).toArray = ls at hl ⊢
  have hl : lv_has ls 3 [(0, .ref h0), (1, .int 0), (2, .int (nI sd))] := hl
  refine lv_aload_n hx hb dX7_open_0 rfl (lv_at hl 0 rfl) ?_
  refine va_get (D := D) (ci := 4) (v := .ref f1) (C := RX7) (T := TX7) (N := 15) hx hb hts hinX7 hown hK hP 0 rfl rfl 9 (by decide) hfl27 (fun _ h9 => h9) rfl dX7_open_1 ?_
  refine lv_iload_n hx hb dX7_open_4 rfl (lv_at hl 1 rfl) ?_
  refine lv_iload_n hx hb dX7_open_5 rfl (lv_at hl 1 rfl) ?_
  refine lv_if_ne (tgt := 18) hx hb dX7_open_6 (by decide) (fun c6 => ?_) (fun c6 => ?_)
  · exact absurd c6 (by decide)
  · refine lv_aload_n hx hb dX7_open_9 rfl (lv_at hl 0 rfl) ?_
    refine va_get (D := D) (ci := 4) (v := .ref ow) (C := RX7) (T := TX7) (N := 15) hx hb hts hinX7 hown hK hP 0 rfl rfl 1 (by decide) hfl7 (fun _ h9 => h9) rfl dX7_open_10 ?_
    refine lv_iconst (v := 1) hx hb dX7_open_13 (by decide) ?_
    refine va_lald hx hb hK hP 1 1 rfl rfl (vp_in_nI (n := 1) (N := 3) (by omega) (by decide)) dX7_open_14 ?_
    refine pk_tl (y := (fo 1)) (congrArg fo (pk_cl 1)) ?_
    refine lv_goto (tgt := 24) hx hb dX7_open_15 (by decide) ?_
    refine va_last hx hb hK hP hD hS 5 1 rfl rfl (vp_in_nI (n := 0) (N := 6) (by omega) (by decide)) dX7_open_24 (fun H locs hP hD hS => ?_)
    have hu24 : (0 : Int32).toNatClampNeg = 0 := pk_cl 0
    rw [hu24] at hP hD
    have hP : va_P D vwCl [(h0, .inr (4, [.int th, .ref ow, .int re, .int (nI w), .int mt, .ref cl, .ref tu, .int (nI k), .ref lk, .ref f1, .ref s2, .ref ms, .ref nx, .ref bs, .int fd])), (ow, .inl (cJ, 3, .inr (.inl fo))), (cl, .inl (cI, 36, .inl cs)), (tu, .inl (cI, 36, .inl ts)), (lk, .inl (cJ, 3, .inr (.inl lo))), (f1, .inl (cJ, 6, .inr (.inl (vp_updL ff 0 (fo 1))))), (s2, .inl (cJ, 6, .inr (.inl sf))), (ms, .inl (cI, 6, .inl mm)), (nx, .inl (cI, 6, .inl nf)), (bs, .inl (cI, 6, .inl bf))] H := hP
    have hD : va_D A [(h0, .inr (4, [.int th, .ref ow, .int re, .int (nI w), .int mt, .ref cl, .ref tu, .int (nI k), .ref lk, .ref f1, .ref s2, .ref ms, .ref nx, .ref bs, .int fd])), (ow, .inl (cJ, 3, .inr (.inl fo))), (cl, .inl (cI, 36, .inl cs)), (tu, .inl (cI, 36, .inl ts)), (lk, .inl (cJ, 3, .inr (.inl lo))), (f1, .inl (cJ, 6, .inr (.inl (vp_updL ff 0 (fo 1))))), (s2, .inl (cJ, 6, .inr (.inl sf))), (ms, .inl (cI, 6, .inl mm)), (nx, .inl (cI, 6, .inl nf)), (bs, .inl (cI, 6, .inl bf))] := hD
    refine lv_aload_n hx hb dX7_open_25 rfl (lv_at hl 0 rfl) ?_
    refine va_get (D := D) (ci := 4) (v := .ref s2) (C := RX7) (T := TX7) (N := 15) hx hb hts hinX7 hown hK hP 0 rfl rfl 10 (by decide) hfl30 (fun _ h9 => h9) rfl dX7_open_26 ?_
    refine lv_iload_n hx hb dX7_open_29 rfl (lv_at hl 1 rfl) ?_
    refine lv_iload_n hx hb dX7_open_30 rfl (lv_at hl 1 rfl) ?_
    refine lv_if_ne (tgt := 43) hx hb dX7_open_31 (by decide) (fun c31 => ?_) (fun c31 => ?_)
    · exact absurd c31 (by decide)
    · refine lv_aload_n hx hb dX7_open_34 rfl (lv_at hl 0 rfl) ?_
      refine va_get (D := D) (ci := 4) (v := .ref ow) (C := RX7) (T := TX7) (N := 15) hx hb hts hinX7 hown hK hP 0 rfl rfl 1 (by decide) hfl7 (fun _ h9 => h9) rfl dX7_open_35 ?_
      refine lv_iconst (v := 2) hx hb dX7_open_38 (by decide) ?_
      refine va_lald hx hb hK hP 1 1 rfl rfl (vp_in_nI (n := 2) (N := 3) (by omega) (by decide)) dX7_open_39 ?_
      refine pk_tl (y := (fo 2)) (congrArg fo (pk_cl 2)) ?_
      refine lv_goto (tgt := 49) hx hb dX7_open_40 (by decide) ?_
      refine va_last hx hb hK hP hD hS 6 1 rfl rfl (vp_in_nI (n := 0) (N := 6) (by omega) (by decide)) dX7_open_49 (fun H locs hP hD hS => ?_)
      have hu49 : (0 : Int32).toNatClampNeg = 0 := pk_cl 0
      rw [hu49] at hP hD
      have hP : va_P D vwCl [(h0, .inr (4, [.int th, .ref ow, .int re, .int (nI w), .int mt, .ref cl, .ref tu, .int (nI k), .ref lk, .ref f1, .ref s2, .ref ms, .ref nx, .ref bs, .int fd])), (ow, .inl (cJ, 3, .inr (.inl fo))), (cl, .inl (cI, 36, .inl cs)), (tu, .inl (cI, 36, .inl ts)), (lk, .inl (cJ, 3, .inr (.inl lo))), (f1, .inl (cJ, 6, .inr (.inl (vp_updL ff 0 (fo 1))))), (s2, .inl (cJ, 6, .inr (.inl (vp_updL sf 0 (fo 2))))), (ms, .inl (cI, 6, .inl mm)), (nx, .inl (cI, 6, .inl nf)), (bs, .inl (cI, 6, .inl bf))] H := hP
      have hD : va_D A [(h0, .inr (4, [.int th, .ref ow, .int re, .int (nI w), .int mt, .ref cl, .ref tu, .int (nI k), .ref lk, .ref f1, .ref s2, .ref ms, .ref nx, .ref bs, .int fd])), (ow, .inl (cJ, 3, .inr (.inl fo))), (cl, .inl (cI, 36, .inl cs)), (tu, .inl (cI, 36, .inl ts)), (lk, .inl (cJ, 3, .inr (.inl lo))), (f1, .inl (cJ, 6, .inr (.inl (vp_updL ff 0 (fo 1))))), (s2, .inl (cJ, 6, .inr (.inl (vp_updL sf 0 (fo 2))))), (ms, .inl (cI, 6, .inl mm)), (nx, .inl (cI, 6, .inl nf)), (bs, .inl (cI, 6, .inl bf))] := hD
      refine lv_aload_n hx hb dX7_open_50 rfl (lv_at hl 0 rfl) ?_
      refine va_get (D := D) (ci := 4) (v := .ref ms) (C := RX7) (T := TX7) (N := 15) hx hb hts hinX7 hown hK hP 0 rfl rfl 11 (by decide) hfl33 (fun _ h9 => h9) rfl dX7_open_51 ?_
      refine lv_iload_n hx hb dX7_open_54 rfl (lv_at hl 1 rfl) ?_
      refine lv_iload_n hx hb dX7_open_55 rfl (lv_at hl 2 rfl) ?_
      refine va_iast hx hb hK hP hD hS 7 0 rfl rfl (vp_in_nI (n := 0) (N := 6) (by omega) (by decide)) dX7_open_56 (fun H locs hP hD hS => ?_)
      have hu56 : (0 : Int32).toNatClampNeg = 0 := pk_cl 0
      rw [hu56] at hP hD
      have hP : va_P D vwCl [(h0, .inr (4, [.int th, .ref ow, .int re, .int (nI w), .int mt, .ref cl, .ref tu, .int (nI k), .ref lk, .ref f1, .ref s2, .ref ms, .ref nx, .ref bs, .int fd])), (ow, .inl (cJ, 3, .inr (.inl fo))), (cl, .inl (cI, 36, .inl cs)), (tu, .inl (cI, 36, .inl ts)), (lk, .inl (cJ, 3, .inr (.inl lo))), (f1, .inl (cJ, 6, .inr (.inl (vp_updL ff 0 (fo 1))))), (s2, .inl (cJ, 6, .inr (.inl (vp_updL sf 0 (fo 2))))), (ms, .inl (cI, 6, .inl (upd mm 0 (nI sd)))), (nx, .inl (cI, 6, .inl nf)), (bs, .inl (cI, 6, .inl bf))] H := hP
      have hD : va_D A [(h0, .inr (4, [.int th, .ref ow, .int re, .int (nI w), .int mt, .ref cl, .ref tu, .int (nI k), .ref lk, .ref f1, .ref s2, .ref ms, .ref nx, .ref bs, .int fd])), (ow, .inl (cJ, 3, .inr (.inl fo))), (cl, .inl (cI, 36, .inl cs)), (tu, .inl (cI, 36, .inl ts)), (lk, .inl (cJ, 3, .inr (.inl lo))), (f1, .inl (cJ, 6, .inr (.inl (vp_updL ff 0 (fo 1))))), (s2, .inl (cJ, 6, .inr (.inl (vp_updL sf 0 (fo 2))))), (ms, .inl (cI, 6, .inl (upd mm 0 (nI sd)))), (nx, .inl (cI, 6, .inl nf)), (bs, .inl (cI, 6, .inl bf))] := hD
      refine lv_aload_n hx hb dX7_open_57 rfl (lv_at hl 0 rfl) ?_
      refine va_get (D := D) (ci := 4) (v := .ref nx) (C := RX7) (T := TX7) (N := 15) hx hb hts hinX7 hown hK hP 0 rfl rfl 12 (by decide) hfl36 (fun _ h9 => h9) rfl dX7_open_58 ?_
      refine lv_iload_n hx hb dX7_open_61 rfl (lv_at hl 1 rfl) ?_
      refine lv_iconst (v := 0) hx hb dX7_open_62 (by decide) ?_
      refine va_iast hx hb hK hP hD hS 8 0 rfl rfl (vp_in_nI (n := 0) (N := 6) (by omega) (by decide)) dX7_open_63 (fun H locs hP hD hS => ?_)
      have hu63 : (0 : Int32).toNatClampNeg = 0 := pk_cl 0
      rw [hu63] at hP hD
      have hP : va_P D vwCl [(h0, .inr (4, [.int th, .ref ow, .int re, .int (nI w), .int mt, .ref cl, .ref tu, .int (nI k), .ref lk, .ref f1, .ref s2, .ref ms, .ref nx, .ref bs, .int fd])), (ow, .inl (cJ, 3, .inr (.inl fo))), (cl, .inl (cI, 36, .inl cs)), (tu, .inl (cI, 36, .inl ts)), (lk, .inl (cJ, 3, .inr (.inl lo))), (f1, .inl (cJ, 6, .inr (.inl (vp_updL ff 0 (fo 1))))), (s2, .inl (cJ, 6, .inr (.inl (vp_updL sf 0 (fo 2))))), (ms, .inl (cI, 6, .inl (upd mm 0 (nI sd)))), (nx, .inl (cI, 6, .inl (upd nf 0 0))), (bs, .inl (cI, 6, .inl bf))] H := hP
      have hD : va_D A [(h0, .inr (4, [.int th, .ref ow, .int re, .int (nI w), .int mt, .ref cl, .ref tu, .int (nI k), .ref lk, .ref f1, .ref s2, .ref ms, .ref nx, .ref bs, .int fd])), (ow, .inl (cJ, 3, .inr (.inl fo))), (cl, .inl (cI, 36, .inl cs)), (tu, .inl (cI, 36, .inl ts)), (lk, .inl (cJ, 3, .inr (.inl lo))), (f1, .inl (cJ, 6, .inr (.inl (vp_updL ff 0 (fo 1))))), (s2, .inl (cJ, 6, .inr (.inl (vp_updL sf 0 (fo 2))))), (ms, .inl (cI, 6, .inl (upd mm 0 (nI sd)))), (nx, .inl (cI, 6, .inl (upd nf 0 0))), (bs, .inl (cI, 6, .inl bf))] := hD
      refine lv_aload_n hx hb dX7_open_64 rfl (lv_at hl 0 rfl) ?_
      refine va_get (D := D) (ci := 4) (v := .ref bs) (C := RX7) (T := TX7) (N := 15) hx hb hts hinX7 hown hK hP 0 rfl rfl 13 (by decide) hfl39 (fun _ h9 => h9) rfl dX7_open_65 ?_
      refine lv_iload_n hx hb dX7_open_68 rfl (lv_at hl 1 rfl) ?_
      refine lv_bipush (v := (-2)) hx hb dX7_open_69 (by decide) ?_
      refine va_iast hx hb hK hP hD hS 9 0 rfl rfl (vp_in_nI (n := 0) (N := 6) (by omega) (by decide)) dX7_open_71 (fun H locs hP hD hS => ?_)
      have hu71 : (0 : Int32).toNatClampNeg = 0 := pk_cl 0
      rw [hu71] at hP hD
      have hP : va_P D vwCl [(h0, .inr (4, [.int th, .ref ow, .int re, .int (nI w), .int mt, .ref cl, .ref tu, .int (nI k), .ref lk, .ref f1, .ref s2, .ref ms, .ref nx, .ref bs, .int fd])), (ow, .inl (cJ, 3, .inr (.inl fo))), (cl, .inl (cI, 36, .inl cs)), (tu, .inl (cI, 36, .inl ts)), (lk, .inl (cJ, 3, .inr (.inl lo))), (f1, .inl (cJ, 6, .inr (.inl (vp_updL ff 0 (fo 1))))), (s2, .inl (cJ, 6, .inr (.inl (vp_updL sf 0 (fo 2))))), (ms, .inl (cI, 6, .inl (upd mm 0 (nI sd)))), (nx, .inl (cI, 6, .inl (upd nf 0 0))), (bs, .inl (cI, 6, .inl (upd bf 0 (-2))))] H := hP
      have hD : va_D A [(h0, .inr (4, [.int th, .ref ow, .int re, .int (nI w), .int mt, .ref cl, .ref tu, .int (nI k), .ref lk, .ref f1, .ref s2, .ref ms, .ref nx, .ref bs, .int fd])), (ow, .inl (cJ, 3, .inr (.inl fo))), (cl, .inl (cI, 36, .inl cs)), (tu, .inl (cI, 36, .inl ts)), (lk, .inl (cJ, 3, .inr (.inl lo))), (f1, .inl (cJ, 6, .inr (.inl (vp_updL ff 0 (fo 1))))), (s2, .inl (cJ, 6, .inr (.inl (vp_updL sf 0 (fo 2))))), (ms, .inl (cI, 6, .inl (upd mm 0 (nI sd)))), (nx, .inl (cI, 6, .inl (upd nf 0 0))), (bs, .inl (cI, 6, .inl (upd bf 0 (-2))))] := hD
      refine W.vret hx hb hr (fun tt ht hW => ⟨⟨(), rfl, ?_, by rw [ht]; exact hP, va_K.moved hW.alike hK, hD⟩, hS.F ht⟩) hS.2.2 dX7_open_72
      trivial

set_option maxHeartbeats 400000 in
set_option maxRecDepth 100000 in
theorem c_X7_open_deep (l : Launch) (D : va_G) (cI cJ : ClassId) (sz : Nat) (h0 ow cl tu lk f1 s2 ms nx bs : Nat) (th re mt fd : Int32) (w k : Nat) (fo lo ff sf : Nat → Int64) (cs ts mm nf bf : Nat → Int32) (lv sd : Nat) (hlv : 0 < lv) (hlv2 : lv < 6) (hsd : sd = 1 ∨ sd = 2) : Met l yX7_open wsX7_open ({ frames := 0, cells := 0, slots := 0, locals := 0 } : Room) (va_Pc [.ref h0, .int (nI lv), .int (nI sd)] (pv_C D cI cJ [(h0, .inr (4, [.int th, .ref ow, .int re, .int (nI w), .int mt, .ref cl, .ref tu, .int (nI k), .ref lk, .ref f1, .ref s2, .ref ms, .ref nx, .ref bs, .int fd])), (ow, .inl (cJ, 3, .inr (.inl fo))), (cl, .inl (cI, 36, .inl cs)), (tu, .inl (cI, 36, .inl ts)), (lk, .inl (cJ, 3, .inr (.inl lo))), (f1, .inl (cJ, 6, .inr (.inl ff))), (s2, .inl (cJ, 6, .inr (.inl sf))), (ms, .inl (cI, 6, .inl mm)), (nx, .inl (cI, 6, .inl nf)), (bs, .inl (cI, 6, .inl bf))] sz)) (va_Qv (fun (u : Unit) => True) (fun (u : Unit) => pv_B D cI cJ (va_A [(h0, .inr (4, [.int th, .ref ow, .int re, .int (nI w), .int mt, .ref cl, .ref tu, .int (nI k), .ref lk, .ref f1, .ref s2, .ref ms, .ref nx, .ref bs, .int fd])), (ow, .inl (cJ, 3, .inr (.inl fo))), (cl, .inl (cI, 36, .inl cs)), (tu, .inl (cI, 36, .inl ts)), (lk, .inl (cJ, 3, .inr (.inl lo))), (f1, .inl (cJ, 6, .inr (.inl ff))), (s2, .inl (cJ, 6, .inr (.inl sf))), (ms, .inl (cI, 6, .inl mm)), (nx, .inl (cI, 6, .inl nf)), (bs, .inl (cI, 6, .inl bf))] sz) [(h0, .inr (4, [.int th, .ref ow, .int re, .int (nI w), .int mt, .ref cl, .ref tu, .int (nI k), .ref lk, .ref f1, .ref s2, .ref ms, .ref nx, .ref bs, .int fd])), (ow, .inl (cJ, 3, .inr (.inl fo))), (cl, .inl (cI, 36, .inl cs)), (tu, .inl (cI, 36, .inl ts)), (lk, .inl (cJ, 3, .inr (.inl lo))), (f1, .inl (cJ, 6, .inr (.inl (vp_updL ff lv (lo 1))))), (s2, .inl (cJ, 6, .inr (.inl (vp_updL sf lv (lo 2))))), (ms, .inl (cI, 6, .inl (upd mm lv (nI sd)))), (nx, .inl (cI, 6, .inl (upd nf lv 0))), (bs, .inl (cI, 6, .inl (upd bf lv (-2))))]) (va_A [(h0, .inr (4, [.int th, .ref ow, .int re, .int (nI w), .int mt, .ref cl, .ref tu, .int (nI k), .ref lk, .ref f1, .ref s2, .ref ms, .ref nx, .ref bs, .int fd])), (ow, .inl (cJ, 3, .inr (.inl fo))), (cl, .inl (cI, 36, .inl cs)), (tu, .inl (cI, 36, .inl ts)), (lk, .inl (cJ, 3, .inr (.inl lo))), (f1, .inl (cJ, 6, .inr (.inl ff))), (s2, .inl (cJ, 6, .inr (.inl sf))), (ms, .inl (cI, 6, .inl mm)), (nx, .inl (cI, 6, .inl nf)), (bs, .inl (cI, 6, .inl bf))] sz)) 0 0 (va_A [(h0, .inr (4, [.int th, .ref ow, .int re, .int (nI w), .int mt, .ref cl, .ref tu, .int (nI k), .ref lk, .ref f1, .ref s2, .ref ms, .ref nx, .ref bs, .int fd])), (ow, .inl (cJ, 3, .inr (.inl fo))), (cl, .inl (cI, 36, .inl cs)), (tu, .inl (cI, 36, .inl ts)), (lk, .inl (cJ, 3, .inr (.inl lo))), (f1, .inl (cJ, 6, .inr (.inl ff))), (s2, .inl (cJ, 6, .inr (.inl sf))), (ms, .inl (cI, 6, .inl mm)), (nx, .inl (cI, 6, .inl nf)), (bs, .inl (cI, 6, .inl bf))] sz) := by
  refine Met.ofW (cc := cX7_open) (maxL := 3) (ret := none) (by decide) rfl ?_
  intro p e s m args below meth c s₁ B hml hv
  obtain ⟨rfl, rfl, hP, hK, hD0⟩ := hv
  have hx := B.exec
  have hb := B.bytes
  have hr := B.returns
  have hts := atoms_spec (ws := wsX7_open) B.pre
  have hown : s.vm.findClass RX7 = some m.cls := findClass_of_methodNamed B.named
  have hlocks := B.notSynchronized
  have hD := hD0.self (sz := s.heap.size)
  generalize hAe : va_A [(h0, .inr (4, [.int th, .ref ow, .int re, .int (nI w), .int mt, .ref cl, .ref tu, .int (nI k), .ref lk, .ref f1, .ref s2, .ref ms, .ref nx, .ref bs, .int fd])), (ow, .inl (cJ, 3, .inr (.inl fo))), (cl, .inl (cI, 36, .inl cs)), (tu, .inl (cI, 36, .inl ts)), (lk, .inl (cJ, 3, .inr (.inl lo))), (f1, .inl (cJ, 6, .inr (.inl ff))), (s2, .inl (cJ, 6, .inr (.inl sf))), (ms, .inl (cI, 6, .inl mm)), (nx, .inl (cI, 6, .inl nf)), (bs, .inl (cI, 6, .inl bf))] s.heap.size = A at hD ⊢
  have hA : ∀ q : Nat, s.heap.size ≤ q → A q := fun q h => by rw [← hAe]; exact Or.inr h
  have hS : va_S A s.heap s.heap [] := va_S.rf
  have hinX7 : ∀ w ∈ wsX70, w ∈ wsX7_open := by decide +kernel
  have hfl27 : (Cond.fieldLink RX7 27 "TwistquadModel" "firsts" "[J").before ([.ref h0, .int (nI lv), .int (nI sd)] : List Value).toArray s = true := hts _ (by decide +kernel)
  have hfl24 : (Cond.fieldLink RX7 24 "TwistquadModel" "look" "[J").before ([.ref h0, .int (nI lv), .int (nI sd)] : List Value).toArray s = true := hts _ (by decide +kernel)
  have hfl30 : (Cond.fieldLink RX7 30 "TwistquadModel" "seconds" "[J").before ([.ref h0, .int (nI lv), .int (nI sd)] : List Value).toArray s = true := hts _ (by decide +kernel)
  have hfl33 : (Cond.fieldLink RX7 33 "TwistquadModel" "movers" "[I").before ([.ref h0, .int (nI lv), .int (nI sd)] : List Value).toArray s = true := hts _ (by decide +kernel)
  have hfl36 : (Cond.fieldLink RX7 36 "TwistquadModel" "nexts" "[I").before ([.ref h0, .int (nI lv), .int (nI sd)] : List Value).toArray s = true := hts _ (by decide +kernel)
  have hfl39 : (Cond.fieldLink RX7 39 "TwistquadModel" "bests" "[I").before ([.ref h0, .int (nI lv), .int (nI sd)] : List Value).toArray s = true := hts _ (by decide +kernel)
  have hl := lv_entry ([.ref h0, .int (nI lv), .int (nI sd)]) (n := 3) (Nat.le_of_ble_eq_true rfl)
  rw [lg_entry_eq]
  generalize (lg_sl ([.ref h0, .int (nI lv), .int (nI sd)]) ++ List.replicate (3 - (lg_sl ([.ref h0, .int (nI lv), .int (nI sd)])).length) Slot.unset).toArray = ls at hl ⊢
  have hl : lv_has ls 3 [(0, .ref h0), (1, .int (nI lv)), (2, .int (nI sd))] := hl
  refine lv_aload_n hx hb dX7_open_0 rfl (lv_at hl 0 rfl) ?_
  refine va_get (D := D) (ci := 4) (v := .ref f1) (C := RX7) (T := TX7) (N := 15) hx hb hts hinX7 hown hK hP 0 rfl rfl 9 (by decide) hfl27 (fun _ h9 => h9) rfl dX7_open_1 ?_
  refine lv_iload_n hx hb dX7_open_4 rfl (lv_at hl 1 rfl) ?_
  refine lv_iload_n hx hb dX7_open_5 rfl (lv_at hl 1 rfl) ?_
  refine lv_if_ne (tgt := 18) hx hb dX7_open_6 (by decide) (fun c6 => ?_) (fun c6 => ?_)
  · have c6 : ¬ lv = 0 := _root_.mt (nq_eq (a := lv) (b := 0) (by omega) (by omega)).mpr c6
    refine lv_aload_n hx hb dX7_open_18 rfl (lv_at hl 0 rfl) ?_
    refine va_get (D := D) (ci := 4) (v := .ref lk) (C := RX7) (T := TX7) (N := 15) hx hb hts hinX7 hown hK hP 0 rfl rfl 8 (by decide) hfl24 (fun _ h9 => h9) rfl dX7_open_19 ?_
    refine lv_iconst (v := 1) hx hb dX7_open_22 (by decide) ?_
    refine va_lald hx hb hK hP 4 1 rfl rfl (vp_in_nI (n := 1) (N := 3) (by omega) (by decide)) dX7_open_23 ?_
    refine pk_tl (y := (lo 1)) (congrArg lo (pk_cl 1)) ?_
    refine va_last hx hb hK hP hD hS 5 1 rfl rfl (vp_in_nI (n := lv) (N := 6) (by omega) (by decide)) dX7_open_24 (fun H locs hP hD hS => ?_)
    have hu24 : ((nI lv) : Int32).toNatClampNeg = lv := pk_cl lv
    rw [hu24] at hP hD
    have hP : va_P D vwCl [(h0, .inr (4, [.int th, .ref ow, .int re, .int (nI w), .int mt, .ref cl, .ref tu, .int (nI k), .ref lk, .ref f1, .ref s2, .ref ms, .ref nx, .ref bs, .int fd])), (ow, .inl (cJ, 3, .inr (.inl fo))), (cl, .inl (cI, 36, .inl cs)), (tu, .inl (cI, 36, .inl ts)), (lk, .inl (cJ, 3, .inr (.inl lo))), (f1, .inl (cJ, 6, .inr (.inl (vp_updL ff lv (lo 1))))), (s2, .inl (cJ, 6, .inr (.inl sf))), (ms, .inl (cI, 6, .inl mm)), (nx, .inl (cI, 6, .inl nf)), (bs, .inl (cI, 6, .inl bf))] H := hP
    have hD : va_D A [(h0, .inr (4, [.int th, .ref ow, .int re, .int (nI w), .int mt, .ref cl, .ref tu, .int (nI k), .ref lk, .ref f1, .ref s2, .ref ms, .ref nx, .ref bs, .int fd])), (ow, .inl (cJ, 3, .inr (.inl fo))), (cl, .inl (cI, 36, .inl cs)), (tu, .inl (cI, 36, .inl ts)), (lk, .inl (cJ, 3, .inr (.inl lo))), (f1, .inl (cJ, 6, .inr (.inl (vp_updL ff lv (lo 1))))), (s2, .inl (cJ, 6, .inr (.inl sf))), (ms, .inl (cI, 6, .inl mm)), (nx, .inl (cI, 6, .inl nf)), (bs, .inl (cI, 6, .inl bf))] := hD
    refine lv_aload_n hx hb dX7_open_25 rfl (lv_at hl 0 rfl) ?_
    refine va_get (D := D) (ci := 4) (v := .ref s2) (C := RX7) (T := TX7) (N := 15) hx hb hts hinX7 hown hK hP 0 rfl rfl 10 (by decide) hfl30 (fun _ h9 => h9) rfl dX7_open_26 ?_
    refine lv_iload_n hx hb dX7_open_29 rfl (lv_at hl 1 rfl) ?_
    refine lv_iload_n hx hb dX7_open_30 rfl (lv_at hl 1 rfl) ?_
    refine lv_if_ne (tgt := 43) hx hb dX7_open_31 (by decide) (fun c31 => ?_) (fun c31 => ?_)
    · have c31 : ¬ lv = 0 := _root_.mt (nq_eq (a := lv) (b := 0) (by omega) (by omega)).mpr c31
      refine lv_aload_n hx hb dX7_open_43 rfl (lv_at hl 0 rfl) ?_
      refine va_get (D := D) (ci := 4) (v := .ref lk) (C := RX7) (T := TX7) (N := 15) hx hb hts hinX7 hown hK hP 0 rfl rfl 8 (by decide) hfl24 (fun _ h9 => h9) rfl dX7_open_44 ?_
      refine lv_iconst (v := 2) hx hb dX7_open_47 (by decide) ?_
      refine va_lald hx hb hK hP 4 1 rfl rfl (vp_in_nI (n := 2) (N := 3) (by omega) (by decide)) dX7_open_48 ?_
      refine pk_tl (y := (lo 2)) (congrArg lo (pk_cl 2)) ?_
      refine va_last hx hb hK hP hD hS 6 1 rfl rfl (vp_in_nI (n := lv) (N := 6) (by omega) (by decide)) dX7_open_49 (fun H locs hP hD hS => ?_)
      have hu49 : ((nI lv) : Int32).toNatClampNeg = lv := pk_cl lv
      rw [hu49] at hP hD
      have hP : va_P D vwCl [(h0, .inr (4, [.int th, .ref ow, .int re, .int (nI w), .int mt, .ref cl, .ref tu, .int (nI k), .ref lk, .ref f1, .ref s2, .ref ms, .ref nx, .ref bs, .int fd])), (ow, .inl (cJ, 3, .inr (.inl fo))), (cl, .inl (cI, 36, .inl cs)), (tu, .inl (cI, 36, .inl ts)), (lk, .inl (cJ, 3, .inr (.inl lo))), (f1, .inl (cJ, 6, .inr (.inl (vp_updL ff lv (lo 1))))), (s2, .inl (cJ, 6, .inr (.inl (vp_updL sf lv (lo 2))))), (ms, .inl (cI, 6, .inl mm)), (nx, .inl (cI, 6, .inl nf)), (bs, .inl (cI, 6, .inl bf))] H := hP
      have hD : va_D A [(h0, .inr (4, [.int th, .ref ow, .int re, .int (nI w), .int mt, .ref cl, .ref tu, .int (nI k), .ref lk, .ref f1, .ref s2, .ref ms, .ref nx, .ref bs, .int fd])), (ow, .inl (cJ, 3, .inr (.inl fo))), (cl, .inl (cI, 36, .inl cs)), (tu, .inl (cI, 36, .inl ts)), (lk, .inl (cJ, 3, .inr (.inl lo))), (f1, .inl (cJ, 6, .inr (.inl (vp_updL ff lv (lo 1))))), (s2, .inl (cJ, 6, .inr (.inl (vp_updL sf lv (lo 2))))), (ms, .inl (cI, 6, .inl mm)), (nx, .inl (cI, 6, .inl nf)), (bs, .inl (cI, 6, .inl bf))] := hD
      refine lv_aload_n hx hb dX7_open_50 rfl (lv_at hl 0 rfl) ?_
      refine va_get (D := D) (ci := 4) (v := .ref ms) (C := RX7) (T := TX7) (N := 15) hx hb hts hinX7 hown hK hP 0 rfl rfl 11 (by decide) hfl33 (fun _ h9 => h9) rfl dX7_open_51 ?_
      refine lv_iload_n hx hb dX7_open_54 rfl (lv_at hl 1 rfl) ?_
      refine lv_iload_n hx hb dX7_open_55 rfl (lv_at hl 2 rfl) ?_
      refine va_iast hx hb hK hP hD hS 7 0 rfl rfl (vp_in_nI (n := lv) (N := 6) (by omega) (by decide)) dX7_open_56 (fun H locs hP hD hS => ?_)
      have hu56 : ((nI lv) : Int32).toNatClampNeg = lv := pk_cl lv
      rw [hu56] at hP hD
      have hP : va_P D vwCl [(h0, .inr (4, [.int th, .ref ow, .int re, .int (nI w), .int mt, .ref cl, .ref tu, .int (nI k), .ref lk, .ref f1, .ref s2, .ref ms, .ref nx, .ref bs, .int fd])), (ow, .inl (cJ, 3, .inr (.inl fo))), (cl, .inl (cI, 36, .inl cs)), (tu, .inl (cI, 36, .inl ts)), (lk, .inl (cJ, 3, .inr (.inl lo))), (f1, .inl (cJ, 6, .inr (.inl (vp_updL ff lv (lo 1))))), (s2, .inl (cJ, 6, .inr (.inl (vp_updL sf lv (lo 2))))), (ms, .inl (cI, 6, .inl (upd mm lv (nI sd)))), (nx, .inl (cI, 6, .inl nf)), (bs, .inl (cI, 6, .inl bf))] H := hP
      have hD : va_D A [(h0, .inr (4, [.int th, .ref ow, .int re, .int (nI w), .int mt, .ref cl, .ref tu, .int (nI k), .ref lk, .ref f1, .ref s2, .ref ms, .ref nx, .ref bs, .int fd])), (ow, .inl (cJ, 3, .inr (.inl fo))), (cl, .inl (cI, 36, .inl cs)), (tu, .inl (cI, 36, .inl ts)), (lk, .inl (cJ, 3, .inr (.inl lo))), (f1, .inl (cJ, 6, .inr (.inl (vp_updL ff lv (lo 1))))), (s2, .inl (cJ, 6, .inr (.inl (vp_updL sf lv (lo 2))))), (ms, .inl (cI, 6, .inl (upd mm lv (nI sd)))), (nx, .inl (cI, 6, .inl nf)), (bs, .inl (cI, 6, .inl bf))] := hD
      refine lv_aload_n hx hb dX7_open_57 rfl (lv_at hl 0 rfl) ?_
      refine va_get (D := D) (ci := 4) (v := .ref nx) (C := RX7) (T := TX7) (N := 15) hx hb hts hinX7 hown hK hP 0 rfl rfl 12 (by decide) hfl36 (fun _ h9 => h9) rfl dX7_open_58 ?_
      refine lv_iload_n hx hb dX7_open_61 rfl (lv_at hl 1 rfl) ?_
      refine lv_iconst (v := 0) hx hb dX7_open_62 (by decide) ?_
      refine va_iast hx hb hK hP hD hS 8 0 rfl rfl (vp_in_nI (n := lv) (N := 6) (by omega) (by decide)) dX7_open_63 (fun H locs hP hD hS => ?_)
      have hu63 : ((nI lv) : Int32).toNatClampNeg = lv := pk_cl lv
      rw [hu63] at hP hD
      have hP : va_P D vwCl [(h0, .inr (4, [.int th, .ref ow, .int re, .int (nI w), .int mt, .ref cl, .ref tu, .int (nI k), .ref lk, .ref f1, .ref s2, .ref ms, .ref nx, .ref bs, .int fd])), (ow, .inl (cJ, 3, .inr (.inl fo))), (cl, .inl (cI, 36, .inl cs)), (tu, .inl (cI, 36, .inl ts)), (lk, .inl (cJ, 3, .inr (.inl lo))), (f1, .inl (cJ, 6, .inr (.inl (vp_updL ff lv (lo 1))))), (s2, .inl (cJ, 6, .inr (.inl (vp_updL sf lv (lo 2))))), (ms, .inl (cI, 6, .inl (upd mm lv (nI sd)))), (nx, .inl (cI, 6, .inl (upd nf lv 0))), (bs, .inl (cI, 6, .inl bf))] H := hP
      have hD : va_D A [(h0, .inr (4, [.int th, .ref ow, .int re, .int (nI w), .int mt, .ref cl, .ref tu, .int (nI k), .ref lk, .ref f1, .ref s2, .ref ms, .ref nx, .ref bs, .int fd])), (ow, .inl (cJ, 3, .inr (.inl fo))), (cl, .inl (cI, 36, .inl cs)), (tu, .inl (cI, 36, .inl ts)), (lk, .inl (cJ, 3, .inr (.inl lo))), (f1, .inl (cJ, 6, .inr (.inl (vp_updL ff lv (lo 1))))), (s2, .inl (cJ, 6, .inr (.inl (vp_updL sf lv (lo 2))))), (ms, .inl (cI, 6, .inl (upd mm lv (nI sd)))), (nx, .inl (cI, 6, .inl (upd nf lv 0))), (bs, .inl (cI, 6, .inl bf))] := hD
      refine lv_aload_n hx hb dX7_open_64 rfl (lv_at hl 0 rfl) ?_
      refine va_get (D := D) (ci := 4) (v := .ref bs) (C := RX7) (T := TX7) (N := 15) hx hb hts hinX7 hown hK hP 0 rfl rfl 13 (by decide) hfl39 (fun _ h9 => h9) rfl dX7_open_65 ?_
      refine lv_iload_n hx hb dX7_open_68 rfl (lv_at hl 1 rfl) ?_
      refine lv_bipush (v := (-2)) hx hb dX7_open_69 (by decide) ?_
      refine va_iast hx hb hK hP hD hS 9 0 rfl rfl (vp_in_nI (n := lv) (N := 6) (by omega) (by decide)) dX7_open_71 (fun H locs hP hD hS => ?_)
      have hu71 : ((nI lv) : Int32).toNatClampNeg = lv := pk_cl lv
      rw [hu71] at hP hD
      have hP : va_P D vwCl [(h0, .inr (4, [.int th, .ref ow, .int re, .int (nI w), .int mt, .ref cl, .ref tu, .int (nI k), .ref lk, .ref f1, .ref s2, .ref ms, .ref nx, .ref bs, .int fd])), (ow, .inl (cJ, 3, .inr (.inl fo))), (cl, .inl (cI, 36, .inl cs)), (tu, .inl (cI, 36, .inl ts)), (lk, .inl (cJ, 3, .inr (.inl lo))), (f1, .inl (cJ, 6, .inr (.inl (vp_updL ff lv (lo 1))))), (s2, .inl (cJ, 6, .inr (.inl (vp_updL sf lv (lo 2))))), (ms, .inl (cI, 6, .inl (upd mm lv (nI sd)))), (nx, .inl (cI, 6, .inl (upd nf lv 0))), (bs, .inl (cI, 6, .inl (upd bf lv (-2))))] H := hP
      have hD : va_D A [(h0, .inr (4, [.int th, .ref ow, .int re, .int (nI w), .int mt, .ref cl, .ref tu, .int (nI k), .ref lk, .ref f1, .ref s2, .ref ms, .ref nx, .ref bs, .int fd])), (ow, .inl (cJ, 3, .inr (.inl fo))), (cl, .inl (cI, 36, .inl cs)), (tu, .inl (cI, 36, .inl ts)), (lk, .inl (cJ, 3, .inr (.inl lo))), (f1, .inl (cJ, 6, .inr (.inl (vp_updL ff lv (lo 1))))), (s2, .inl (cJ, 6, .inr (.inl (vp_updL sf lv (lo 2))))), (ms, .inl (cI, 6, .inl (upd mm lv (nI sd)))), (nx, .inl (cI, 6, .inl (upd nf lv 0))), (bs, .inl (cI, 6, .inl (upd bf lv (-2))))] := hD
      refine W.vret hx hb hr (fun tt ht hW => ⟨⟨(), rfl, ?_, by rw [ht]; exact hP, va_K.moved hW.alike hK, hD⟩, hS.F ht⟩) hS.2.2 dX7_open_72
      trivial
    · have c31 : lv = 0 := (nq_eq (a := lv) (b := 0) (by omega) (by omega)).mp c31
      omega
  · have c6 : lv = 0 := (nq_eq (a := lv) (b := 0) (by omega) (by omega)).mp c6
    omega

set_option maxHeartbeats 400000 in
set_option maxRecDepth 100000 in
theorem c_X7_take_no (l : Launch) (D : va_G) (cI cJ : ClassId) (sz : Nat) (h0 ow cl tu lk f1 s2 ms nx bs : Nat) (th re mt fd : Int32) (w k : Nat) (fo lo ff sf : Nat → Int64) (cs ts mm nf bf : Nat → Int32) (lv : Nat) (hlv : lv < 6) (v m9 : Int32) (hv9 : v ≤ bf lv) : Met l yX7_take wsX7_take ({ frames := 0, cells := 0, slots := 0, locals := 0 } : Room) (va_Pc [.ref h0, .int (nI lv), .int v, .int m9] (pv_C D cI cJ [(h0, .inr (4, [.int th, .ref ow, .int re, .int (nI w), .int mt, .ref cl, .ref tu, .int (nI k), .ref lk, .ref f1, .ref s2, .ref ms, .ref nx, .ref bs, .int fd])), (ow, .inl (cJ, 3, .inr (.inl fo))), (cl, .inl (cI, 36, .inl cs)), (tu, .inl (cI, 36, .inl ts)), (lk, .inl (cJ, 3, .inr (.inl lo))), (f1, .inl (cJ, 6, .inr (.inl ff))), (s2, .inl (cJ, 6, .inr (.inl sf))), (ms, .inl (cI, 6, .inl mm)), (nx, .inl (cI, 6, .inl nf)), (bs, .inl (cI, 6, .inl bf))] sz)) (va_Qv (fun (u : Unit) => True) (fun (u : Unit) => pv_B D cI cJ (va_A [(h0, .inr (4, [.int th, .ref ow, .int re, .int (nI w), .int mt, .ref cl, .ref tu, .int (nI k), .ref lk, .ref f1, .ref s2, .ref ms, .ref nx, .ref bs, .int fd])), (ow, .inl (cJ, 3, .inr (.inl fo))), (cl, .inl (cI, 36, .inl cs)), (tu, .inl (cI, 36, .inl ts)), (lk, .inl (cJ, 3, .inr (.inl lo))), (f1, .inl (cJ, 6, .inr (.inl ff))), (s2, .inl (cJ, 6, .inr (.inl sf))), (ms, .inl (cI, 6, .inl mm)), (nx, .inl (cI, 6, .inl nf)), (bs, .inl (cI, 6, .inl bf))] sz) [(h0, .inr (4, [.int th, .ref ow, .int re, .int (nI w), .int mt, .ref cl, .ref tu, .int (nI k), .ref lk, .ref f1, .ref s2, .ref ms, .ref nx, .ref bs, .int fd])), (ow, .inl (cJ, 3, .inr (.inl fo))), (cl, .inl (cI, 36, .inl cs)), (tu, .inl (cI, 36, .inl ts)), (lk, .inl (cJ, 3, .inr (.inl lo))), (f1, .inl (cJ, 6, .inr (.inl ff))), (s2, .inl (cJ, 6, .inr (.inl sf))), (ms, .inl (cI, 6, .inl mm)), (nx, .inl (cI, 6, .inl nf)), (bs, .inl (cI, 6, .inl bf))]) (va_A [(h0, .inr (4, [.int th, .ref ow, .int re, .int (nI w), .int mt, .ref cl, .ref tu, .int (nI k), .ref lk, .ref f1, .ref s2, .ref ms, .ref nx, .ref bs, .int fd])), (ow, .inl (cJ, 3, .inr (.inl fo))), (cl, .inl (cI, 36, .inl cs)), (tu, .inl (cI, 36, .inl ts)), (lk, .inl (cJ, 3, .inr (.inl lo))), (f1, .inl (cJ, 6, .inr (.inl ff))), (s2, .inl (cJ, 6, .inr (.inl sf))), (ms, .inl (cI, 6, .inl mm)), (nx, .inl (cI, 6, .inl nf)), (bs, .inl (cI, 6, .inl bf))] sz)) 0 0 (va_A [(h0, .inr (4, [.int th, .ref ow, .int re, .int (nI w), .int mt, .ref cl, .ref tu, .int (nI k), .ref lk, .ref f1, .ref s2, .ref ms, .ref nx, .ref bs, .int fd])), (ow, .inl (cJ, 3, .inr (.inl fo))), (cl, .inl (cI, 36, .inl cs)), (tu, .inl (cI, 36, .inl ts)), (lk, .inl (cJ, 3, .inr (.inl lo))), (f1, .inl (cJ, 6, .inr (.inl ff))), (s2, .inl (cJ, 6, .inr (.inl sf))), (ms, .inl (cI, 6, .inl mm)), (nx, .inl (cI, 6, .inl nf)), (bs, .inl (cI, 6, .inl bf))] sz) := by
  refine Met.ofW (cc := cX7_take) (maxL := 4) (ret := none) (by decide) rfl ?_
  intro p e s m args below meth c s₁ B hml hv
  obtain ⟨rfl, rfl, hP, hK, hD0⟩ := hv
  have hx := B.exec
  have hb := B.bytes
  have hr := B.returns
  have hts := atoms_spec (ws := wsX7_take) B.pre
  have hown : s.vm.findClass RX7 = some m.cls := findClass_of_methodNamed B.named
  have hlocks := B.notSynchronized
  have hD := hD0.self (sz := s.heap.size)
  generalize hAe : va_A [(h0, .inr (4, [.int th, .ref ow, .int re, .int (nI w), .int mt, .ref cl, .ref tu, .int (nI k), .ref lk, .ref f1, .ref s2, .ref ms, .ref nx, .ref bs, .int fd])), (ow, .inl (cJ, 3, .inr (.inl fo))), (cl, .inl (cI, 36, .inl cs)), (tu, .inl (cI, 36, .inl ts)), (lk, .inl (cJ, 3, .inr (.inl lo))), (f1, .inl (cJ, 6, .inr (.inl ff))), (s2, .inl (cJ, 6, .inr (.inl sf))), (ms, .inl (cI, 6, .inl mm)), (nx, .inl (cI, 6, .inl nf)), (bs, .inl (cI, 6, .inl bf))] s.heap.size = A at hD ⊢
  have hA : ∀ q : Nat, s.heap.size ≤ q → A q := fun q h => by rw [← hAe]; exact Or.inr h
  have hS : va_S A s.heap s.heap [] := va_S.rf
  have hinX7 : ∀ w ∈ wsX70, w ∈ wsX7_take := by decide +kernel
  have hfl39 : (Cond.fieldLink RX7 39 "TwistquadModel" "bests" "[I").before ([.ref h0, .int (nI lv), .int v, .int m9] : List Value).toArray s = true := hts _ (by decide +kernel)
  have hl := lv_entry ([.ref h0, .int (nI lv), .int v, .int m9]) (n := 4) (Nat.le_of_ble_eq_true rfl)
  rw [lg_entry_eq]
  generalize (lg_sl ([.ref h0, .int (nI lv), .int v, .int m9]) ++ List.replicate (4 - (lg_sl ([.ref h0, .int (nI lv), .int v, .int m9])).length) Slot.unset).toArray = ls at hl ⊢
  have hl : lv_has ls 4 [(0, .ref h0), (1, .int (nI lv)), (2, .int v), (3, .int m9)] := hl
  refine lv_iload_n hx hb dX7_take_0 rfl (lv_at hl 2 rfl) ?_
  refine lv_aload_n hx hb dX7_take_1 rfl (lv_at hl 0 rfl) ?_
  refine va_get (D := D) (ci := 4) (v := .ref bs) (C := RX7) (T := TX7) (N := 15) hx hb hts hinX7 hown hK hP 0 rfl rfl 13 (by decide) hfl39 (fun _ h9 => h9) rfl dX7_take_2 ?_
  refine lv_iload_n hx hb dX7_take_5 rfl (lv_at hl 1 rfl) ?_
  refine va_iald hx hb hK hP 9 0 rfl rfl (vp_in_nI (n := lv) (N := 6) (by omega) (by decide)) dX7_take_6 ?_
  refine pk_ti (y := (bf lv)) (congrArg bf (pk_cl lv)) ?_
  refine lv_icmp_le (tgt := 33) hx hb dX7_take_7 (by decide) (fun c7 => ?_) (fun c7 => ?_)
  · refine W.vret hx hb hr (fun tt ht hW => ⟨⟨(), rfl, ?_, by rw [ht]; exact hP, va_K.moved hW.alike hK, hD⟩, hS.F ht⟩) hS.2.2 dX7_take_33
    trivial
  · exact absurd hv9 c7

set_option maxHeartbeats 400000 in
set_option maxRecDepth 100000 in
theorem c_X7_take_top (l : Launch) (D : va_G) (cI cJ : ClassId) (sz : Nat) (h0 ow cl tu lk f1 s2 ms nx bs : Nat) (th re mt fd : Int32) (w k : Nat) (fo lo ff sf : Nat → Int64) (cs ts mm nf bf : Nat → Int32) (v m9 : Int32) (hv9 : ¬ v ≤ bf 0) : Met l yX7_take wsX7_take ({ frames := 0, cells := 0, slots := 0, locals := 0 } : Room) (va_Pc [.ref h0, .int 0, .int v, .int m9] (pv_C D cI cJ [(h0, .inr (4, [.int th, .ref ow, .int re, .int (nI w), .int mt, .ref cl, .ref tu, .int (nI k), .ref lk, .ref f1, .ref s2, .ref ms, .ref nx, .ref bs, .int fd])), (ow, .inl (cJ, 3, .inr (.inl fo))), (cl, .inl (cI, 36, .inl cs)), (tu, .inl (cI, 36, .inl ts)), (lk, .inl (cJ, 3, .inr (.inl lo))), (f1, .inl (cJ, 6, .inr (.inl ff))), (s2, .inl (cJ, 6, .inr (.inl sf))), (ms, .inl (cI, 6, .inl mm)), (nx, .inl (cI, 6, .inl nf)), (bs, .inl (cI, 6, .inl bf))] sz)) (va_Qv (fun (u : Unit) => True) (fun (u : Unit) => pv_B D cI cJ (va_A [(h0, .inr (4, [.int th, .ref ow, .int re, .int (nI w), .int mt, .ref cl, .ref tu, .int (nI k), .ref lk, .ref f1, .ref s2, .ref ms, .ref nx, .ref bs, .int fd])), (ow, .inl (cJ, 3, .inr (.inl fo))), (cl, .inl (cI, 36, .inl cs)), (tu, .inl (cI, 36, .inl ts)), (lk, .inl (cJ, 3, .inr (.inl lo))), (f1, .inl (cJ, 6, .inr (.inl ff))), (s2, .inl (cJ, 6, .inr (.inl sf))), (ms, .inl (cI, 6, .inl mm)), (nx, .inl (cI, 6, .inl nf)), (bs, .inl (cI, 6, .inl bf))] sz) [(h0, .inr (4, [.int th, .ref ow, .int re, .int (nI w), .int mt, .ref cl, .ref tu, .int (nI k), .ref lk, .ref f1, .ref s2, .ref ms, .ref nx, .ref bs, .int m9])), (ow, .inl (cJ, 3, .inr (.inl fo))), (cl, .inl (cI, 36, .inl cs)), (tu, .inl (cI, 36, .inl ts)), (lk, .inl (cJ, 3, .inr (.inl lo))), (f1, .inl (cJ, 6, .inr (.inl ff))), (s2, .inl (cJ, 6, .inr (.inl sf))), (ms, .inl (cI, 6, .inl mm)), (nx, .inl (cI, 6, .inl nf)), (bs, .inl (cI, 6, .inl (upd bf 0 v)))]) (va_A [(h0, .inr (4, [.int th, .ref ow, .int re, .int (nI w), .int mt, .ref cl, .ref tu, .int (nI k), .ref lk, .ref f1, .ref s2, .ref ms, .ref nx, .ref bs, .int fd])), (ow, .inl (cJ, 3, .inr (.inl fo))), (cl, .inl (cI, 36, .inl cs)), (tu, .inl (cI, 36, .inl ts)), (lk, .inl (cJ, 3, .inr (.inl lo))), (f1, .inl (cJ, 6, .inr (.inl ff))), (s2, .inl (cJ, 6, .inr (.inl sf))), (ms, .inl (cI, 6, .inl mm)), (nx, .inl (cI, 6, .inl nf)), (bs, .inl (cI, 6, .inl bf))] sz)) 0 0 (va_A [(h0, .inr (4, [.int th, .ref ow, .int re, .int (nI w), .int mt, .ref cl, .ref tu, .int (nI k), .ref lk, .ref f1, .ref s2, .ref ms, .ref nx, .ref bs, .int fd])), (ow, .inl (cJ, 3, .inr (.inl fo))), (cl, .inl (cI, 36, .inl cs)), (tu, .inl (cI, 36, .inl ts)), (lk, .inl (cJ, 3, .inr (.inl lo))), (f1, .inl (cJ, 6, .inr (.inl ff))), (s2, .inl (cJ, 6, .inr (.inl sf))), (ms, .inl (cI, 6, .inl mm)), (nx, .inl (cI, 6, .inl nf)), (bs, .inl (cI, 6, .inl bf))] sz) := by
  refine Met.ofW (cc := cX7_take) (maxL := 4) (ret := none) (by decide) rfl ?_
  intro p e s m args below meth c s₁ B hml hv
  obtain ⟨rfl, rfl, hP, hK, hD0⟩ := hv
  have hx := B.exec
  have hb := B.bytes
  have hr := B.returns
  have hts := atoms_spec (ws := wsX7_take) B.pre
  have hown : s.vm.findClass RX7 = some m.cls := findClass_of_methodNamed B.named
  have hlocks := B.notSynchronized
  have hD := hD0.self (sz := s.heap.size)
  generalize hAe : va_A [(h0, .inr (4, [.int th, .ref ow, .int re, .int (nI w), .int mt, .ref cl, .ref tu, .int (nI k), .ref lk, .ref f1, .ref s2, .ref ms, .ref nx, .ref bs, .int fd])), (ow, .inl (cJ, 3, .inr (.inl fo))), (cl, .inl (cI, 36, .inl cs)), (tu, .inl (cI, 36, .inl ts)), (lk, .inl (cJ, 3, .inr (.inl lo))), (f1, .inl (cJ, 6, .inr (.inl ff))), (s2, .inl (cJ, 6, .inr (.inl sf))), (ms, .inl (cI, 6, .inl mm)), (nx, .inl (cI, 6, .inl nf)), (bs, .inl (cI, 6, .inl bf))] s.heap.size = A at hD ⊢
  have hA : ∀ q : Nat, s.heap.size ≤ q → A q := fun q h => by rw [← hAe]; exact Or.inr h
  have hS : va_S A s.heap s.heap [] := va_S.rf
  have hinX7 : ∀ w ∈ wsX70, w ∈ wsX7_take := by decide +kernel
  have hfl39 : (Cond.fieldLink RX7 39 "TwistquadModel" "bests" "[I").before ([.ref h0, .int 0, .int v, .int m9] : List Value).toArray s = true := hts _ (by decide +kernel)
  have hfl123 : (Cond.fieldLink RX7 123 "TwistquadModel" "found" "I").before ([.ref h0, .int 0, .int v, .int m9] : List Value).toArray s = true := hts _ (by decide +kernel)
  have hl := lv_entry ([.ref h0, .int 0, .int v, .int m9]) (n := 4) (Nat.le_of_ble_eq_true rfl)
  rw [lg_entry_eq]
  generalize (lg_sl ([.ref h0, .int 0, .int v, .int m9]) ++ List.replicate (4 - (lg_sl ([.ref h0, .int 0, .int v, .int m9])).length) Slot.unset).toArray = ls at hl ⊢
  have hl : lv_has ls 4 [(0, .ref h0), (1, .int 0), (2, .int v), (3, .int m9)] := hl
  refine lv_iload_n hx hb dX7_take_0 rfl (lv_at hl 2 rfl) ?_
  refine lv_aload_n hx hb dX7_take_1 rfl (lv_at hl 0 rfl) ?_
  refine va_get (D := D) (ci := 4) (v := .ref bs) (C := RX7) (T := TX7) (N := 15) hx hb hts hinX7 hown hK hP 0 rfl rfl 13 (by decide) hfl39 (fun _ h9 => h9) rfl dX7_take_2 ?_
  refine lv_iload_n hx hb dX7_take_5 rfl (lv_at hl 1 rfl) ?_
  refine va_iald hx hb hK hP 9 0 rfl rfl (vp_in_nI (n := 0) (N := 6) (by omega) (by decide)) dX7_take_6 ?_
  refine pk_ti (y := (bf 0)) (congrArg bf (pk_cl 0)) ?_
  refine lv_icmp_le (tgt := 33) hx hb dX7_take_7 (by decide) (fun c7 => ?_) (fun c7 => ?_)
  · exact absurd c7 hv9
  · refine lv_aload_n hx hb dX7_take_10 rfl (lv_at hl 0 rfl) ?_
    refine va_get (D := D) (ci := 4) (v := .ref bs) (C := RX7) (T := TX7) (N := 15) hx hb hts hinX7 hown hK hP 0 rfl rfl 13 (by decide) hfl39 (fun _ h9 => h9) rfl dX7_take_11 ?_
    refine lv_iload_n hx hb dX7_take_14 rfl (lv_at hl 1 rfl) ?_
    refine lv_iload_n hx hb dX7_take_15 rfl (lv_at hl 2 rfl) ?_
    refine va_iast hx hb hK hP hD hS 9 0 rfl rfl (vp_in_nI (n := 0) (N := 6) (by omega) (by decide)) dX7_take_16 (fun H locs hP hD hS => ?_)
    have hu16 : (0 : Int32).toNatClampNeg = 0 := pk_cl 0
    rw [hu16] at hP hD
    have hP : va_P D vwCl [(h0, .inr (4, [.int th, .ref ow, .int re, .int (nI w), .int mt, .ref cl, .ref tu, .int (nI k), .ref lk, .ref f1, .ref s2, .ref ms, .ref nx, .ref bs, .int fd])), (ow, .inl (cJ, 3, .inr (.inl fo))), (cl, .inl (cI, 36, .inl cs)), (tu, .inl (cI, 36, .inl ts)), (lk, .inl (cJ, 3, .inr (.inl lo))), (f1, .inl (cJ, 6, .inr (.inl ff))), (s2, .inl (cJ, 6, .inr (.inl sf))), (ms, .inl (cI, 6, .inl mm)), (nx, .inl (cI, 6, .inl nf)), (bs, .inl (cI, 6, .inl (upd bf 0 v)))] H := hP
    have hD : va_D A [(h0, .inr (4, [.int th, .ref ow, .int re, .int (nI w), .int mt, .ref cl, .ref tu, .int (nI k), .ref lk, .ref f1, .ref s2, .ref ms, .ref nx, .ref bs, .int fd])), (ow, .inl (cJ, 3, .inr (.inl fo))), (cl, .inl (cI, 36, .inl cs)), (tu, .inl (cI, 36, .inl ts)), (lk, .inl (cJ, 3, .inr (.inl lo))), (f1, .inl (cJ, 6, .inr (.inl ff))), (s2, .inl (cJ, 6, .inr (.inl sf))), (ms, .inl (cI, 6, .inl mm)), (nx, .inl (cI, 6, .inl nf)), (bs, .inl (cI, 6, .inl (upd bf 0 v)))] := hD
    refine lv_aload_n hx hb dX7_take_17 rfl (lv_at hl 0 rfl) ?_
    refine lv_iload_n hx hb dX7_take_18 rfl (lv_at hl 1 rfl) ?_
    refine lv_if_ne (tgt := 26) hx hb dX7_take_19 (by decide) (fun c19 => ?_) (fun c19 => ?_)
    · exact absurd c19 (by decide)
    · refine lv_iload_n hx hb dX7_take_22 rfl (lv_at hl 3 rfl) ?_
      refine lv_goto (tgt := 30) hx hb dX7_take_23 (by decide) ?_
      refine va_put (D := D) (ci := 4) (v := .int m9) (ty := .int) (C := RX7) (T := TX7) (N := 15) hx hb hts hinX7 tyX7 tyX7_ok nmX7 hown hK hP hD hS 0 rfl rfl 14 (by decide) hfl123 (fun _ h9 => h9) rfl (by decide +kernel) rfl rfl (Nat.le_of_ble_eq_true rfl) dX7_take_30 (fun H locs hP hD hS => ?_)
      have hP : va_P D vwCl [(h0, .inr (4, [.int th, .ref ow, .int re, .int (nI w), .int mt, .ref cl, .ref tu, .int (nI k), .ref lk, .ref f1, .ref s2, .ref ms, .ref nx, .ref bs, .int m9])), (ow, .inl (cJ, 3, .inr (.inl fo))), (cl, .inl (cI, 36, .inl cs)), (tu, .inl (cI, 36, .inl ts)), (lk, .inl (cJ, 3, .inr (.inl lo))), (f1, .inl (cJ, 6, .inr (.inl ff))), (s2, .inl (cJ, 6, .inr (.inl sf))), (ms, .inl (cI, 6, .inl mm)), (nx, .inl (cI, 6, .inl nf)), (bs, .inl (cI, 6, .inl (upd bf 0 v)))] H := hP
      have hD : va_D A [(h0, .inr (4, [.int th, .ref ow, .int re, .int (nI w), .int mt, .ref cl, .ref tu, .int (nI k), .ref lk, .ref f1, .ref s2, .ref ms, .ref nx, .ref bs, .int m9])), (ow, .inl (cJ, 3, .inr (.inl fo))), (cl, .inl (cI, 36, .inl cs)), (tu, .inl (cI, 36, .inl ts)), (lk, .inl (cJ, 3, .inr (.inl lo))), (f1, .inl (cJ, 6, .inr (.inl ff))), (s2, .inl (cJ, 6, .inr (.inl sf))), (ms, .inl (cI, 6, .inl mm)), (nx, .inl (cI, 6, .inl nf)), (bs, .inl (cI, 6, .inl (upd bf 0 v)))] := hD
      refine W.vret hx hb hr (fun tt ht hW => ⟨⟨(), rfl, ?_, by rw [ht]; exact hP, va_K.moved hW.alike hK, hD⟩, hS.F ht⟩) hS.2.2 dX7_take_33
      trivial

set_option maxHeartbeats 400000 in
set_option maxRecDepth 100000 in
theorem c_X7_take_deep (l : Launch) (D : va_G) (cI cJ : ClassId) (sz : Nat) (h0 ow cl tu lk f1 s2 ms nx bs : Nat) (th re mt fd : Int32) (w k : Nat) (fo lo ff sf : Nat → Int64) (cs ts mm nf bf : Nat → Int32) (lv : Nat) (hlv : 0 < lv) (hlv2 : lv < 6) (v m9 : Int32) (hv9 : ¬ v ≤ bf lv) : Met l yX7_take wsX7_take ({ frames := 0, cells := 0, slots := 0, locals := 0 } : Room) (va_Pc [.ref h0, .int (nI lv), .int v, .int m9] (pv_C D cI cJ [(h0, .inr (4, [.int th, .ref ow, .int re, .int (nI w), .int mt, .ref cl, .ref tu, .int (nI k), .ref lk, .ref f1, .ref s2, .ref ms, .ref nx, .ref bs, .int fd])), (ow, .inl (cJ, 3, .inr (.inl fo))), (cl, .inl (cI, 36, .inl cs)), (tu, .inl (cI, 36, .inl ts)), (lk, .inl (cJ, 3, .inr (.inl lo))), (f1, .inl (cJ, 6, .inr (.inl ff))), (s2, .inl (cJ, 6, .inr (.inl sf))), (ms, .inl (cI, 6, .inl mm)), (nx, .inl (cI, 6, .inl nf)), (bs, .inl (cI, 6, .inl bf))] sz)) (va_Qv (fun (u : Unit) => True) (fun (u : Unit) => pv_B D cI cJ (va_A [(h0, .inr (4, [.int th, .ref ow, .int re, .int (nI w), .int mt, .ref cl, .ref tu, .int (nI k), .ref lk, .ref f1, .ref s2, .ref ms, .ref nx, .ref bs, .int fd])), (ow, .inl (cJ, 3, .inr (.inl fo))), (cl, .inl (cI, 36, .inl cs)), (tu, .inl (cI, 36, .inl ts)), (lk, .inl (cJ, 3, .inr (.inl lo))), (f1, .inl (cJ, 6, .inr (.inl ff))), (s2, .inl (cJ, 6, .inr (.inl sf))), (ms, .inl (cI, 6, .inl mm)), (nx, .inl (cI, 6, .inl nf)), (bs, .inl (cI, 6, .inl bf))] sz) [(h0, .inr (4, [.int th, .ref ow, .int re, .int (nI w), .int mt, .ref cl, .ref tu, .int (nI k), .ref lk, .ref f1, .ref s2, .ref ms, .ref nx, .ref bs, .int fd])), (ow, .inl (cJ, 3, .inr (.inl fo))), (cl, .inl (cI, 36, .inl cs)), (tu, .inl (cI, 36, .inl ts)), (lk, .inl (cJ, 3, .inr (.inl lo))), (f1, .inl (cJ, 6, .inr (.inl ff))), (s2, .inl (cJ, 6, .inr (.inl sf))), (ms, .inl (cI, 6, .inl mm)), (nx, .inl (cI, 6, .inl nf)), (bs, .inl (cI, 6, .inl (upd bf lv v)))]) (va_A [(h0, .inr (4, [.int th, .ref ow, .int re, .int (nI w), .int mt, .ref cl, .ref tu, .int (nI k), .ref lk, .ref f1, .ref s2, .ref ms, .ref nx, .ref bs, .int fd])), (ow, .inl (cJ, 3, .inr (.inl fo))), (cl, .inl (cI, 36, .inl cs)), (tu, .inl (cI, 36, .inl ts)), (lk, .inl (cJ, 3, .inr (.inl lo))), (f1, .inl (cJ, 6, .inr (.inl ff))), (s2, .inl (cJ, 6, .inr (.inl sf))), (ms, .inl (cI, 6, .inl mm)), (nx, .inl (cI, 6, .inl nf)), (bs, .inl (cI, 6, .inl bf))] sz)) 0 0 (va_A [(h0, .inr (4, [.int th, .ref ow, .int re, .int (nI w), .int mt, .ref cl, .ref tu, .int (nI k), .ref lk, .ref f1, .ref s2, .ref ms, .ref nx, .ref bs, .int fd])), (ow, .inl (cJ, 3, .inr (.inl fo))), (cl, .inl (cI, 36, .inl cs)), (tu, .inl (cI, 36, .inl ts)), (lk, .inl (cJ, 3, .inr (.inl lo))), (f1, .inl (cJ, 6, .inr (.inl ff))), (s2, .inl (cJ, 6, .inr (.inl sf))), (ms, .inl (cI, 6, .inl mm)), (nx, .inl (cI, 6, .inl nf)), (bs, .inl (cI, 6, .inl bf))] sz) := by
  refine Met.ofW (cc := cX7_take) (maxL := 4) (ret := none) (by decide) rfl ?_
  intro p e s m args below meth c s₁ B hml hv
  obtain ⟨rfl, rfl, hP, hK, hD0⟩ := hv
  have hx := B.exec
  have hb := B.bytes
  have hr := B.returns
  have hts := atoms_spec (ws := wsX7_take) B.pre
  have hown : s.vm.findClass RX7 = some m.cls := findClass_of_methodNamed B.named
  have hlocks := B.notSynchronized
  have hD := hD0.self (sz := s.heap.size)
  generalize hAe : va_A [(h0, .inr (4, [.int th, .ref ow, .int re, .int (nI w), .int mt, .ref cl, .ref tu, .int (nI k), .ref lk, .ref f1, .ref s2, .ref ms, .ref nx, .ref bs, .int fd])), (ow, .inl (cJ, 3, .inr (.inl fo))), (cl, .inl (cI, 36, .inl cs)), (tu, .inl (cI, 36, .inl ts)), (lk, .inl (cJ, 3, .inr (.inl lo))), (f1, .inl (cJ, 6, .inr (.inl ff))), (s2, .inl (cJ, 6, .inr (.inl sf))), (ms, .inl (cI, 6, .inl mm)), (nx, .inl (cI, 6, .inl nf)), (bs, .inl (cI, 6, .inl bf))] s.heap.size = A at hD ⊢
  have hA : ∀ q : Nat, s.heap.size ≤ q → A q := fun q h => by rw [← hAe]; exact Or.inr h
  have hS : va_S A s.heap s.heap [] := va_S.rf
  have hinX7 : ∀ w ∈ wsX70, w ∈ wsX7_take := by decide +kernel
  have hfl39 : (Cond.fieldLink RX7 39 "TwistquadModel" "bests" "[I").before ([.ref h0, .int (nI lv), .int v, .int m9] : List Value).toArray s = true := hts _ (by decide +kernel)
  have hfl123 : (Cond.fieldLink RX7 123 "TwistquadModel" "found" "I").before ([.ref h0, .int (nI lv), .int v, .int m9] : List Value).toArray s = true := hts _ (by decide +kernel)
  have hl := lv_entry ([.ref h0, .int (nI lv), .int v, .int m9]) (n := 4) (Nat.le_of_ble_eq_true rfl)
  rw [lg_entry_eq]
  generalize (lg_sl ([.ref h0, .int (nI lv), .int v, .int m9]) ++ List.replicate (4 - (lg_sl ([.ref h0, .int (nI lv), .int v, .int m9])).length) Slot.unset).toArray = ls at hl ⊢
  have hl : lv_has ls 4 [(0, .ref h0), (1, .int (nI lv)), (2, .int v), (3, .int m9)] := hl
  refine lv_iload_n hx hb dX7_take_0 rfl (lv_at hl 2 rfl) ?_
  refine lv_aload_n hx hb dX7_take_1 rfl (lv_at hl 0 rfl) ?_
  refine va_get (D := D) (ci := 4) (v := .ref bs) (C := RX7) (T := TX7) (N := 15) hx hb hts hinX7 hown hK hP 0 rfl rfl 13 (by decide) hfl39 (fun _ h9 => h9) rfl dX7_take_2 ?_
  refine lv_iload_n hx hb dX7_take_5 rfl (lv_at hl 1 rfl) ?_
  refine va_iald hx hb hK hP 9 0 rfl rfl (vp_in_nI (n := lv) (N := 6) (by omega) (by decide)) dX7_take_6 ?_
  refine pk_ti (y := (bf lv)) (congrArg bf (pk_cl lv)) ?_
  refine lv_icmp_le (tgt := 33) hx hb dX7_take_7 (by decide) (fun c7 => ?_) (fun c7 => ?_)
  · exact absurd c7 hv9
  · refine lv_aload_n hx hb dX7_take_10 rfl (lv_at hl 0 rfl) ?_
    refine va_get (D := D) (ci := 4) (v := .ref bs) (C := RX7) (T := TX7) (N := 15) hx hb hts hinX7 hown hK hP 0 rfl rfl 13 (by decide) hfl39 (fun _ h9 => h9) rfl dX7_take_11 ?_
    refine lv_iload_n hx hb dX7_take_14 rfl (lv_at hl 1 rfl) ?_
    refine lv_iload_n hx hb dX7_take_15 rfl (lv_at hl 2 rfl) ?_
    refine va_iast hx hb hK hP hD hS 9 0 rfl rfl (vp_in_nI (n := lv) (N := 6) (by omega) (by decide)) dX7_take_16 (fun H locs hP hD hS => ?_)
    have hu16 : ((nI lv) : Int32).toNatClampNeg = lv := pk_cl lv
    rw [hu16] at hP hD
    have hP : va_P D vwCl [(h0, .inr (4, [.int th, .ref ow, .int re, .int (nI w), .int mt, .ref cl, .ref tu, .int (nI k), .ref lk, .ref f1, .ref s2, .ref ms, .ref nx, .ref bs, .int fd])), (ow, .inl (cJ, 3, .inr (.inl fo))), (cl, .inl (cI, 36, .inl cs)), (tu, .inl (cI, 36, .inl ts)), (lk, .inl (cJ, 3, .inr (.inl lo))), (f1, .inl (cJ, 6, .inr (.inl ff))), (s2, .inl (cJ, 6, .inr (.inl sf))), (ms, .inl (cI, 6, .inl mm)), (nx, .inl (cI, 6, .inl nf)), (bs, .inl (cI, 6, .inl (upd bf lv v)))] H := hP
    have hD : va_D A [(h0, .inr (4, [.int th, .ref ow, .int re, .int (nI w), .int mt, .ref cl, .ref tu, .int (nI k), .ref lk, .ref f1, .ref s2, .ref ms, .ref nx, .ref bs, .int fd])), (ow, .inl (cJ, 3, .inr (.inl fo))), (cl, .inl (cI, 36, .inl cs)), (tu, .inl (cI, 36, .inl ts)), (lk, .inl (cJ, 3, .inr (.inl lo))), (f1, .inl (cJ, 6, .inr (.inl ff))), (s2, .inl (cJ, 6, .inr (.inl sf))), (ms, .inl (cI, 6, .inl mm)), (nx, .inl (cI, 6, .inl nf)), (bs, .inl (cI, 6, .inl (upd bf lv v)))] := hD
    refine lv_aload_n hx hb dX7_take_17 rfl (lv_at hl 0 rfl) ?_
    refine lv_iload_n hx hb dX7_take_18 rfl (lv_at hl 1 rfl) ?_
    refine lv_if_ne (tgt := 26) hx hb dX7_take_19 (by decide) (fun c19 => ?_) (fun c19 => ?_)
    · have c19 : ¬ lv = 0 := _root_.mt (nq_eq (a := lv) (b := 0) (by omega) (by omega)).mpr c19
      refine lv_aload_n hx hb dX7_take_26 rfl (lv_at hl 0 rfl) ?_
      refine va_get (D := D) (ci := 4) (v := .int fd) (C := RX7) (T := TX7) (N := 15) hx hb hts hinX7 hown hK hP 0 rfl rfl 14 (by decide) hfl123 (fun _ h9 => h9) rfl dX7_take_27 ?_
      refine va_put (D := D) (ci := 4) (v := .int fd) (ty := .int) (C := RX7) (T := TX7) (N := 15) hx hb hts hinX7 tyX7 tyX7_ok nmX7 hown hK hP hD hS 0 rfl rfl 14 (by decide) hfl123 (fun _ h9 => h9) rfl (by decide +kernel) rfl rfl (Nat.le_of_ble_eq_true rfl) dX7_take_30 (fun H locs hP hD hS => ?_)
      have hP : va_P D vwCl [(h0, .inr (4, [.int th, .ref ow, .int re, .int (nI w), .int mt, .ref cl, .ref tu, .int (nI k), .ref lk, .ref f1, .ref s2, .ref ms, .ref nx, .ref bs, .int fd])), (ow, .inl (cJ, 3, .inr (.inl fo))), (cl, .inl (cI, 36, .inl cs)), (tu, .inl (cI, 36, .inl ts)), (lk, .inl (cJ, 3, .inr (.inl lo))), (f1, .inl (cJ, 6, .inr (.inl ff))), (s2, .inl (cJ, 6, .inr (.inl sf))), (ms, .inl (cI, 6, .inl mm)), (nx, .inl (cI, 6, .inl nf)), (bs, .inl (cI, 6, .inl (upd bf lv v)))] H := hP
      have hD : va_D A [(h0, .inr (4, [.int th, .ref ow, .int re, .int (nI w), .int mt, .ref cl, .ref tu, .int (nI k), .ref lk, .ref f1, .ref s2, .ref ms, .ref nx, .ref bs, .int fd])), (ow, .inl (cJ, 3, .inr (.inl fo))), (cl, .inl (cI, 36, .inl cs)), (tu, .inl (cI, 36, .inl ts)), (lk, .inl (cJ, 3, .inr (.inl lo))), (f1, .inl (cJ, 6, .inr (.inl ff))), (s2, .inl (cJ, 6, .inr (.inl sf))), (ms, .inl (cI, 6, .inl mm)), (nx, .inl (cI, 6, .inl nf)), (bs, .inl (cI, 6, .inl (upd bf lv v)))] := hD
      refine W.vret hx hb hr (fun tt ht hW => ⟨⟨(), rfl, ?_, by rw [ht]; exact hP, va_K.moved hW.alike hK, hD⟩, hS.F ht⟩) hS.2.2 dX7_take_33
      trivial
    · have c19 : lv = 0 := (nq_eq (a := lv) (b := 0) (by omega) (by omega)).mp c19
      omega

set_option maxHeartbeats 400000 in
set_option maxRecDepth 100000 in
theorem c_X7_tryMove_turn1 (l : Launch) (D : va_G) (cI cJ : ClassId) (sz : Nat) (h0 ow cl tu lk f1 s2 ms nx bs : Nat) (th re mt fd : Int32) (w k : Nat) (fo lo ff sf : Nat → Int64) (cs ts mm nf bf : Nat → Int32) (lv mo : Nat) (hlv : lv < 6) (hmo : mo < 8) (hs9 : mm lv = 1) : Met l yX7_tryMove wsX7_tryMove ({ frames := 4, cells := 0, slots := 0, locals := 97 } : Room) (va_Pc [.ref h0, .int (nI lv), .int (nI mo), .int 1] (pv_C D cI cJ [(h0, .inr (4, [.int th, .ref ow, .int re, .int (nI w), .int mt, .ref cl, .ref tu, .int (nI k), .ref lk, .ref f1, .ref s2, .ref ms, .ref nx, .ref bs, .int fd])), (ow, .inl (cJ, 3, .inr (.inl fo))), (cl, .inl (cI, 36, .inl cs)), (tu, .inl (cI, 36, .inl ts)), (lk, .inl (cJ, 3, .inr (.inl lo))), (f1, .inl (cJ, 6, .inr (.inl ff))), (s2, .inl (cJ, 6, .inr (.inl sf))), (ms, .inl (cI, 6, .inl mm)), (nx, .inl (cI, 6, .inl nf)), (bs, .inl (cI, 6, .inl bf))] sz)) (va_Qi (fun (r : Int32) (u : (Nat → Int64)) => r = mjudge (mturned (ff lv) (mo % 8 / 2) (mo % 2)) (mturned (sf lv) (mo % 8 / 2) (mo % 2)) ∧ u 1 = (mturned (ff lv) (mo % 8 / 2) (mo % 2)) ∧ u 2 = (mturned (sf lv) (mo % 8 / 2) (mo % 2))) (fun (u : (Nat → Int64)) => pv_B D cI cJ (va_A [(h0, .inr (4, [.int th, .ref ow, .int re, .int (nI w), .int mt, .ref cl, .ref tu, .int (nI k), .ref lk, .ref f1, .ref s2, .ref ms, .ref nx, .ref bs, .int fd])), (ow, .inl (cJ, 3, .inr (.inl fo))), (cl, .inl (cI, 36, .inl cs)), (tu, .inl (cI, 36, .inl ts)), (lk, .inl (cJ, 3, .inr (.inl lo))), (f1, .inl (cJ, 6, .inr (.inl ff))), (s2, .inl (cJ, 6, .inr (.inl sf))), (ms, .inl (cI, 6, .inl mm)), (nx, .inl (cI, 6, .inl nf)), (bs, .inl (cI, 6, .inl bf))] sz) [(h0, .inr (4, [.int th, .ref ow, .int re, .int (nI w), .int mt, .ref cl, .ref tu, .int (nI k), .ref lk, .ref f1, .ref s2, .ref ms, .ref nx, .ref bs, .int fd])), (ow, .inl (cJ, 3, .inr (.inl fo))), (cl, .inl (cI, 36, .inl cs)), (tu, .inl (cI, 36, .inl ts)), (lk, .inl (cJ, 3, .inr (.inl u))), (f1, .inl (cJ, 6, .inr (.inl ff))), (s2, .inl (cJ, 6, .inr (.inl sf))), (ms, .inl (cI, 6, .inl mm)), (nx, .inl (cI, 6, .inl nf)), (bs, .inl (cI, 6, .inl bf))]) (va_A [(h0, .inr (4, [.int th, .ref ow, .int re, .int (nI w), .int mt, .ref cl, .ref tu, .int (nI k), .ref lk, .ref f1, .ref s2, .ref ms, .ref nx, .ref bs, .int fd])), (ow, .inl (cJ, 3, .inr (.inl fo))), (cl, .inl (cI, 36, .inl cs)), (tu, .inl (cI, 36, .inl ts)), (lk, .inl (cJ, 3, .inr (.inl lo))), (f1, .inl (cJ, 6, .inr (.inl ff))), (s2, .inl (cJ, 6, .inr (.inl sf))), (ms, .inl (cI, 6, .inl mm)), (nx, .inl (cI, 6, .inl nf)), (bs, .inl (cI, 6, .inl bf))] sz)) 0 0 (va_A [(h0, .inr (4, [.int th, .ref ow, .int re, .int (nI w), .int mt, .ref cl, .ref tu, .int (nI k), .ref lk, .ref f1, .ref s2, .ref ms, .ref nx, .ref bs, .int fd])), (ow, .inl (cJ, 3, .inr (.inl fo))), (cl, .inl (cI, 36, .inl cs)), (tu, .inl (cI, 36, .inl ts)), (lk, .inl (cJ, 3, .inr (.inl lo))), (f1, .inl (cJ, 6, .inr (.inl ff))), (s2, .inl (cJ, 6, .inr (.inl sf))), (ms, .inl (cI, 6, .inl mm)), (nx, .inl (cI, 6, .inl nf)), (bs, .inl (cI, 6, .inl bf))] sz) := by
  refine Met.ofW (cc := cX7_tryMove) (maxL := 5) (ret := (some .int)) (by decide) rfl ?_
  intro p e s m args below meth c s₁ B hml hv
  obtain ⟨rfl, rfl, hP, hK, hD0⟩ := hv
  have hx := B.exec
  have hb := B.bytes
  have hr := B.returns
  have hts := atoms_spec (ws := wsX7_tryMove) B.pre
  have hown : s.vm.findClass RX7 = some m.cls := findClass_of_methodNamed B.named
  have hlocks := B.notSynchronized
  have hD := hD0.self (sz := s.heap.size)
  generalize hAe : va_A [(h0, .inr (4, [.int th, .ref ow, .int re, .int (nI w), .int mt, .ref cl, .ref tu, .int (nI k), .ref lk, .ref f1, .ref s2, .ref ms, .ref nx, .ref bs, .int fd])), (ow, .inl (cJ, 3, .inr (.inl fo))), (cl, .inl (cI, 36, .inl cs)), (tu, .inl (cI, 36, .inl ts)), (lk, .inl (cJ, 3, .inr (.inl lo))), (f1, .inl (cJ, 6, .inr (.inl ff))), (s2, .inl (cJ, 6, .inr (.inl sf))), (ms, .inl (cI, 6, .inl mm)), (nx, .inl (cI, 6, .inl nf)), (bs, .inl (cI, 6, .inl bf))] s.heap.size = A at hD ⊢
  have hA : ∀ q : Nat, s.heap.size ≤ q → A q := fun q h => by rw [← hAe]; exact Or.inr h
  have hS : va_S A s.heap s.heap [] := va_S.rf
  have hinX7 : ∀ w ∈ wsX70, w ∈ wsX7_tryMove := by decide +kernel
  have hfl33 : (Cond.fieldLink RX7 33 "TwistquadModel" "movers" "[I").before ([.ref h0, .int (nI lv), .int (nI mo), .int 1] : List Value).toArray s = true := hts _ (by decide +kernel)
  have hfl24 : (Cond.fieldLink RX7 24 "TwistquadModel" "look" "[J").before ([.ref h0, .int (nI lv), .int (nI mo), .int 1] : List Value).toArray s = true := hts _ (by decide +kernel)
  have hfl27 : (Cond.fieldLink RX7 27 "TwistquadModel" "firsts" "[J").before ([.ref h0, .int (nI lv), .int (nI mo), .int 1] : List Value).toArray s = true := hts _ (by decide +kernel)
  have hfl30 : (Cond.fieldLink RX7 30 "TwistquadModel" "seconds" "[J").before ([.ref h0, .int (nI lv), .int (nI mo), .int 1] : List Value).toArray s = true := hts _ (by decide +kernel)
  have hl := lv_entry ([.ref h0, .int (nI lv), .int (nI mo), .int 1]) (n := 5) (Nat.le_of_ble_eq_true rfl)
  rw [lg_entry_eq]
  generalize (lg_sl ([.ref h0, .int (nI lv), .int (nI mo), .int 1]) ++ List.replicate (5 - (lg_sl ([.ref h0, .int (nI lv), .int (nI mo), .int 1])).length) Slot.unset).toArray = ls at hl ⊢
  have hl : lv_has ls 5 [(0, .ref h0), (1, .int (nI lv)), (2, .int (nI mo)), (3, .int 1)] := hl
  refine lv_aload_n hx hb dX7_tryMove_0 rfl (lv_at hl 0 rfl) ?_
  refine va_get (D := D) (ci := 4) (v := .ref ms) (C := RX7) (T := TX7) (N := 15) hx hb hts hinX7 hown hK hP 0 rfl rfl 11 (by decide) hfl33 (fun _ h9 => h9) rfl dX7_tryMove_1 ?_
  refine lv_iload_n hx hb dX7_tryMove_4 rfl (lv_at hl 1 rfl) ?_
  refine va_iald hx hb hK hP 7 0 rfl rfl (vp_in_nI (n := lv) (N := 6) (by omega) (by decide)) dX7_tryMove_5 ?_
  refine pk_ti (y := 1) ((congrArg mm (pk_cl lv)).trans (hs9)) ?_
  refine lv_istore (lv' := [(4, .int 1), (0, .ref h0), (1, .int (nI lv)), (2, .int (nI mo)), (3, .int 1)]) hx hb dX7_tryMove_6 hl (by decide) rfl (fun ls hl => ?_)
  refine lv_aload_n hx hb dX7_tryMove_8 rfl (lv_at hl 1 rfl) ?_
  refine va_get (D := D) (ci := 4) (v := .ref lk) (C := RX7) (T := TX7) (N := 15) hx hb hts hinX7 hown hK hP 0 rfl rfl 8 (by decide) hfl24 (fun _ h9 => h9) rfl dX7_tryMove_9 ?_
  refine lv_iconst (v := 1) hx hb dX7_tryMove_12 (by decide) ?_
  refine lv_aload_n hx hb dX7_tryMove_13 rfl (lv_at hl 1 rfl) ?_
  refine va_get (D := D) (ci := 4) (v := .ref f1) (C := RX7) (T := TX7) (N := 15) hx hb hts hinX7 hown hK hP 0 rfl rfl 9 (by decide) hfl27 (fun _ h9 => h9) rfl dX7_tryMove_14 ?_
  refine lv_iload_n hx hb dX7_tryMove_17 rfl (lv_at hl 2 rfl) ?_
  refine va_lald hx hb hK hP 5 1 rfl rfl (vp_in_nI (n := lv) (N := 6) (by omega) (by decide)) dX7_tryMove_18 ?_
  refine pk_tl (y := (ff lv)) (congrArg ff (pk_cl lv)) ?_
  refine va_last hx hb hK hP hD hS 4 1 rfl rfl (vp_in_nI (n := 1) (N := 3) (by omega) (by decide)) dX7_tryMove_19 (fun H locs hP hD hS => ?_)
  have hu19 : (1 : Int32).toNatClampNeg = 1 := pk_cl 1
  rw [hu19] at hP hD
  have hP : va_P D vwCl [(h0, .inr (4, [.int th, .ref ow, .int re, .int (nI w), .int mt, .ref cl, .ref tu, .int (nI k), .ref lk, .ref f1, .ref s2, .ref ms, .ref nx, .ref bs, .int fd])), (ow, .inl (cJ, 3, .inr (.inl fo))), (cl, .inl (cI, 36, .inl cs)), (tu, .inl (cI, 36, .inl ts)), (lk, .inl (cJ, 3, .inr (.inl (vp_updL lo 1 (ff lv))))), (f1, .inl (cJ, 6, .inr (.inl ff))), (s2, .inl (cJ, 6, .inr (.inl sf))), (ms, .inl (cI, 6, .inl mm)), (nx, .inl (cI, 6, .inl nf)), (bs, .inl (cI, 6, .inl bf))] H := hP
  have hD : va_D A [(h0, .inr (4, [.int th, .ref ow, .int re, .int (nI w), .int mt, .ref cl, .ref tu, .int (nI k), .ref lk, .ref f1, .ref s2, .ref ms, .ref nx, .ref bs, .int fd])), (ow, .inl (cJ, 3, .inr (.inl fo))), (cl, .inl (cI, 36, .inl cs)), (tu, .inl (cI, 36, .inl ts)), (lk, .inl (cJ, 3, .inr (.inl (vp_updL lo 1 (ff lv))))), (f1, .inl (cJ, 6, .inr (.inl ff))), (s2, .inl (cJ, 6, .inr (.inl sf))), (ms, .inl (cI, 6, .inl mm)), (nx, .inl (cI, 6, .inl nf)), (bs, .inl (cI, 6, .inl bf))] := hD
  refine lv_aload_n hx hb dX7_tryMove_20 rfl (lv_at hl 1 rfl) ?_
  refine va_get (D := D) (ci := 4) (v := .ref lk) (C := RX7) (T := TX7) (N := 15) hx hb hts hinX7 hown hK hP 0 rfl rfl 8 (by decide) hfl24 (fun _ h9 => h9) rfl dX7_tryMove_21 ?_
  refine lv_iconst (v := 2) hx hb dX7_tryMove_24 (by decide) ?_
  refine lv_aload_n hx hb dX7_tryMove_25 rfl (lv_at hl 1 rfl) ?_
  refine va_get (D := D) (ci := 4) (v := .ref s2) (C := RX7) (T := TX7) (N := 15) hx hb hts hinX7 hown hK hP 0 rfl rfl 10 (by decide) hfl30 (fun _ h9 => h9) rfl dX7_tryMove_26 ?_
  refine lv_iload_n hx hb dX7_tryMove_29 rfl (lv_at hl 2 rfl) ?_
  refine va_lald hx hb hK hP 6 1 rfl rfl (vp_in_nI (n := lv) (N := 6) (by omega) (by decide)) dX7_tryMove_30 ?_
  refine pk_tl (y := (sf lv)) (congrArg sf (pk_cl lv)) ?_
  refine va_last hx hb hK hP hD hS 4 1 rfl rfl (vp_in_nI (n := 2) (N := 3) (by omega) (by decide)) dX7_tryMove_31 (fun H locs hP hD hS => ?_)
  have hu31 : (2 : Int32).toNatClampNeg = 2 := pk_cl 2
  rw [hu31] at hP hD
  have hP : va_P D vwCl [(h0, .inr (4, [.int th, .ref ow, .int re, .int (nI w), .int mt, .ref cl, .ref tu, .int (nI k), .ref lk, .ref f1, .ref s2, .ref ms, .ref nx, .ref bs, .int fd])), (ow, .inl (cJ, 3, .inr (.inl fo))), (cl, .inl (cI, 36, .inl cs)), (tu, .inl (cI, 36, .inl ts)), (lk, .inl (cJ, 3, .inr (.inl (vp_updL (vp_updL lo 1 (ff lv)) 2 (sf lv))))), (f1, .inl (cJ, 6, .inr (.inl ff))), (s2, .inl (cJ, 6, .inr (.inl sf))), (ms, .inl (cI, 6, .inl mm)), (nx, .inl (cI, 6, .inl nf)), (bs, .inl (cI, 6, .inl bf))] H := hP
  have hD : va_D A [(h0, .inr (4, [.int th, .ref ow, .int re, .int (nI w), .int mt, .ref cl, .ref tu, .int (nI k), .ref lk, .ref f1, .ref s2, .ref ms, .ref nx, .ref bs, .int fd])), (ow, .inl (cJ, 3, .inr (.inl fo))), (cl, .inl (cI, 36, .inl cs)), (tu, .inl (cI, 36, .inl ts)), (lk, .inl (cJ, 3, .inr (.inl (vp_updL (vp_updL lo 1 (ff lv)) 2 (sf lv))))), (f1, .inl (cJ, 6, .inr (.inl ff))), (s2, .inl (cJ, 6, .inr (.inl sf))), (ms, .inl (cI, 6, .inl mm)), (nx, .inl (cI, 6, .inl nf)), (bs, .inl (cI, 6, .inl bf))] := hD
  refine lv_iload_n hx hb dX7_tryMove_32 rfl (lv_at hl 4 rfl) ?_
  refine lv_if_ne (tgt := 93) hx hb dX7_tryMove_33 (by decide) (fun c33 => ?_) (fun c33 => ?_)
  · refine lv_aload_n hx hb dX7_tryMove_93 rfl (lv_at hl 1 rfl) ?_
    refine va_get (D := D) (ci := 4) (v := .ref lk) (C := RX7) (T := TX7) (N := 15) hx hb hts hinX7 hown hK hP 0 rfl rfl 8 (by decide) hfl24 (fun _ h9 => h9) rfl dX7_tryMove_94 ?_
    refine lv_iconst (v := 1) hx hb dX7_tryMove_97 (by decide) ?_
    refine lv_aload_n hx hb dX7_tryMove_98 rfl (lv_at hl 1 rfl) ?_
    refine va_get (D := D) (ci := 4) (v := .ref lk) (C := RX7) (T := TX7) (N := 15) hx hb hts hinX7 hown hK hP 0 rfl rfl 8 (by decide) hfl24 (fun _ h9 => h9) rfl dX7_tryMove_99 ?_
    refine lv_iconst (v := 1) hx hb dX7_tryMove_102 (by decide) ?_
    refine va_lald hx hb hK hP 4 1 rfl rfl (vp_in_nI (n := 1) (N := 3) (by omega) (by decide)) dX7_tryMove_103 ?_
    refine pk_tl (y := (ff lv)) ((congrArg (vp_updL (vp_updL lo 1 (ff lv)) 2 (sf lv)) (pk_cl 1)).trans ((pk_uLn (by decide)).trans (pk_uLs))) ?_
    refine lv_iload_n hx hb dX7_tryMove_104 rfl (lv_at hl 3 rfl) ?_
    refine lv_bipush (v := 8) hx hb dX7_tryMove_105 (by decide) ?_
    refine lv_irem hx hb dX7_tryMove_107 (by decide) ?_
    refine pk_ti (y := nI (mo % 8)) (pk_rem (a := mo) (d := 8) (by omega) (by omega) (by omega)) ?_
    refine lv_iconst (v := 2) hx hb dX7_tryMove_108 (by decide) ?_
    refine lv_idiv hx hb dX7_tryMove_109 (by decide) ?_
    refine pk_ti (y := nI ((mo % 8) / 2)) (pk_div (a := (mo % 8)) (d := 2) (by omega) (by omega) (by omega)) ?_
    refine lv_iload_n hx hb dX7_tryMove_110 rfl (lv_at hl 3 rfl) ?_
    refine lv_iconst (v := 2) hx hb dX7_tryMove_111 (by decide) ?_
    refine lv_irem hx hb dX7_tryMove_112 (by decide) ?_
    refine pk_ti (y := nI (mo % 2)) (pk_rem (a := mo) (d := 2) (by omega) (by omega) (by omega)) ?_
    refine vp_callSl (W.runS (As := [.long (ff lv), .int (nI ((mo % 8) / 2)), .int (nI (mo % 2))]) (rest := [.int 1, .ref lk]) ⟨hx, hb, hml, hown, hts⟩ (c_X7_turned l (ff lv) ((mo % 8) / 2) (mo % 2) (by omega) (by omega)) (va_cwS 3 hts gX7_tryMove_X7_turned rfl rfl rfl (by decide +kernel) ⟨Nat.le_of_ble_eq_true rfl, Nat.le_of_ble_eq_true rfl⟩) ⟨px_blind0, fun U hU hW => ⟨rfl, trivial⟩⟩ rfl rfl hl.1 rfl (lv_room (Nat.le_of_ble_eq_true rfl)) dX7_tryMove_113 ⟨(Nat.le_of_ble_eq_true rfl), (Nat.le_of_ble_eq_true rfl)⟩) (fun r113 er113 => ?_)
    obtain rfl := er113.symm
    refine va_last hx hb hK hP hD hS 4 1 rfl rfl (vp_in_nI (n := 1) (N := 3) (by omega) (by decide)) dX7_tryMove_116 (fun H locs hP hD hS => ?_)
    have hu116 : (1 : Int32).toNatClampNeg = 1 := pk_cl 1
    rw [hu116] at hP hD
    have hP : va_P D vwCl [(h0, .inr (4, [.int th, .ref ow, .int re, .int (nI w), .int mt, .ref cl, .ref tu, .int (nI k), .ref lk, .ref f1, .ref s2, .ref ms, .ref nx, .ref bs, .int fd])), (ow, .inl (cJ, 3, .inr (.inl fo))), (cl, .inl (cI, 36, .inl cs)), (tu, .inl (cI, 36, .inl ts)), (lk, .inl (cJ, 3, .inr (.inl (vp_updL (vp_updL (vp_updL lo 1 (ff lv)) 2 (sf lv)) 1 (mturned (ff lv) ((mo % 8) / 2) (mo % 2)))))), (f1, .inl (cJ, 6, .inr (.inl ff))), (s2, .inl (cJ, 6, .inr (.inl sf))), (ms, .inl (cI, 6, .inl mm)), (nx, .inl (cI, 6, .inl nf)), (bs, .inl (cI, 6, .inl bf))] H := hP
    have hD : va_D A [(h0, .inr (4, [.int th, .ref ow, .int re, .int (nI w), .int mt, .ref cl, .ref tu, .int (nI k), .ref lk, .ref f1, .ref s2, .ref ms, .ref nx, .ref bs, .int fd])), (ow, .inl (cJ, 3, .inr (.inl fo))), (cl, .inl (cI, 36, .inl cs)), (tu, .inl (cI, 36, .inl ts)), (lk, .inl (cJ, 3, .inr (.inl (vp_updL (vp_updL (vp_updL lo 1 (ff lv)) 2 (sf lv)) 1 (mturned (ff lv) ((mo % 8) / 2) (mo % 2)))))), (f1, .inl (cJ, 6, .inr (.inl ff))), (s2, .inl (cJ, 6, .inr (.inl sf))), (ms, .inl (cI, 6, .inl mm)), (nx, .inl (cI, 6, .inl nf)), (bs, .inl (cI, 6, .inl bf))] := hD
    refine lv_aload_n hx hb dX7_tryMove_117 rfl (lv_at hl 1 rfl) ?_
    refine va_get (D := D) (ci := 4) (v := .ref lk) (C := RX7) (T := TX7) (N := 15) hx hb hts hinX7 hown hK hP 0 rfl rfl 8 (by decide) hfl24 (fun _ h9 => h9) rfl dX7_tryMove_118 ?_
    refine lv_iconst (v := 2) hx hb dX7_tryMove_121 (by decide) ?_
    refine lv_aload_n hx hb dX7_tryMove_122 rfl (lv_at hl 1 rfl) ?_
    refine va_get (D := D) (ci := 4) (v := .ref lk) (C := RX7) (T := TX7) (N := 15) hx hb hts hinX7 hown hK hP 0 rfl rfl 8 (by decide) hfl24 (fun _ h9 => h9) rfl dX7_tryMove_123 ?_
    refine lv_iconst (v := 2) hx hb dX7_tryMove_126 (by decide) ?_
    refine va_lald hx hb hK hP 4 1 rfl rfl (vp_in_nI (n := 2) (N := 3) (by omega) (by decide)) dX7_tryMove_127 ?_
    refine pk_tl (y := (sf lv)) ((congrArg (vp_updL (vp_updL (vp_updL lo 1 (ff lv)) 2 (sf lv)) 1 (mturned (ff lv) ((mo % 8) / 2) (mo % 2))) (pk_cl 2)).trans ((pk_uLn (by decide)).trans (pk_uLs))) ?_
    refine lv_iload_n hx hb dX7_tryMove_128 rfl (lv_at hl 3 rfl) ?_
    refine lv_bipush (v := 8) hx hb dX7_tryMove_129 (by decide) ?_
    refine lv_irem hx hb dX7_tryMove_131 (by decide) ?_
    refine pk_ti (y := nI (mo % 8)) (pk_rem (a := mo) (d := 8) (by omega) (by omega) (by omega)) ?_
    refine lv_iconst (v := 2) hx hb dX7_tryMove_132 (by decide) ?_
    refine lv_idiv hx hb dX7_tryMove_133 (by decide) ?_
    refine pk_ti (y := nI ((mo % 8) / 2)) (pk_div (a := (mo % 8)) (d := 2) (by omega) (by omega) (by omega)) ?_
    refine lv_iload_n hx hb dX7_tryMove_134 rfl (lv_at hl 3 rfl) ?_
    refine lv_iconst (v := 2) hx hb dX7_tryMove_135 (by decide) ?_
    refine lv_irem hx hb dX7_tryMove_136 (by decide) ?_
    refine pk_ti (y := nI (mo % 2)) (pk_rem (a := mo) (d := 2) (by omega) (by omega) (by omega)) ?_
    refine vp_callSl (W.runS (As := [.long (sf lv), .int (nI ((mo % 8) / 2)), .int (nI (mo % 2))]) (rest := [.int 2, .ref lk]) ⟨hx, hb, hml, hown, hts⟩ (c_X7_turned l (sf lv) ((mo % 8) / 2) (mo % 2) (by omega) (by omega)) (va_cwS 3 hts gX7_tryMove_X7_turned rfl rfl rfl (by decide +kernel) ⟨Nat.le_of_ble_eq_true rfl, Nat.le_of_ble_eq_true rfl⟩) ⟨px_blind0, fun U hU hW => ⟨rfl, trivial⟩⟩ rfl rfl hl.1 rfl (lv_room (Nat.le_of_ble_eq_true rfl)) dX7_tryMove_137 ⟨(Nat.le_of_ble_eq_true rfl), (Nat.le_of_ble_eq_true rfl)⟩) (fun r137 er137 => ?_)
    obtain rfl := er137.symm
    refine va_last hx hb hK hP hD hS 4 1 rfl rfl (vp_in_nI (n := 2) (N := 3) (by omega) (by decide)) dX7_tryMove_140 (fun H locs hP hD hS => ?_)
    have hu140 : (2 : Int32).toNatClampNeg = 2 := pk_cl 2
    rw [hu140] at hP hD
    have hP : va_P D vwCl [(h0, .inr (4, [.int th, .ref ow, .int re, .int (nI w), .int mt, .ref cl, .ref tu, .int (nI k), .ref lk, .ref f1, .ref s2, .ref ms, .ref nx, .ref bs, .int fd])), (ow, .inl (cJ, 3, .inr (.inl fo))), (cl, .inl (cI, 36, .inl cs)), (tu, .inl (cI, 36, .inl ts)), (lk, .inl (cJ, 3, .inr (.inl (vp_updL (vp_updL (vp_updL (vp_updL lo 1 (ff lv)) 2 (sf lv)) 1 (mturned (ff lv) ((mo % 8) / 2) (mo % 2))) 2 (mturned (sf lv) ((mo % 8) / 2) (mo % 2)))))), (f1, .inl (cJ, 6, .inr (.inl ff))), (s2, .inl (cJ, 6, .inr (.inl sf))), (ms, .inl (cI, 6, .inl mm)), (nx, .inl (cI, 6, .inl nf)), (bs, .inl (cI, 6, .inl bf))] H := hP
    have hD : va_D A [(h0, .inr (4, [.int th, .ref ow, .int re, .int (nI w), .int mt, .ref cl, .ref tu, .int (nI k), .ref lk, .ref f1, .ref s2, .ref ms, .ref nx, .ref bs, .int fd])), (ow, .inl (cJ, 3, .inr (.inl fo))), (cl, .inl (cI, 36, .inl cs)), (tu, .inl (cI, 36, .inl ts)), (lk, .inl (cJ, 3, .inr (.inl (vp_updL (vp_updL (vp_updL (vp_updL lo 1 (ff lv)) 2 (sf lv)) 1 (mturned (ff lv) ((mo % 8) / 2) (mo % 2))) 2 (mturned (sf lv) ((mo % 8) / 2) (mo % 2)))))), (f1, .inl (cJ, 6, .inr (.inl ff))), (s2, .inl (cJ, 6, .inr (.inl sf))), (ms, .inl (cI, 6, .inl mm)), (nx, .inl (cI, 6, .inl nf)), (bs, .inl (cI, 6, .inl bf))] := hD
    refine lv_aload_n hx hb dX7_tryMove_141 rfl (lv_at hl 1 rfl) ?_
    refine va_get (D := D) (ci := 4) (v := .ref lk) (C := RX7) (T := TX7) (N := 15) hx hb hts hinX7 hown hK hP 0 rfl rfl 8 (by decide) hfl24 (fun _ h9 => h9) rfl dX7_tryMove_142 ?_
    refine lv_iconst (v := 1) hx hb dX7_tryMove_145 (by decide) ?_
    refine va_lald hx hb hK hP 4 1 rfl rfl (vp_in_nI (n := 1) (N := 3) (by omega) (by decide)) dX7_tryMove_146 ?_
    refine pk_tl (y := (mturned (ff lv) ((mo % 8) / 2) (mo % 2))) ((congrArg (vp_updL (vp_updL (vp_updL (vp_updL lo 1 (ff lv)) 2 (sf lv)) 1 (mturned (ff lv) ((mo % 8) / 2) (mo % 2))) 2 (mturned (sf lv) ((mo % 8) / 2) (mo % 2))) (pk_cl 1)).trans ((pk_uLn (by decide)).trans (pk_uLs))) ?_
    refine lv_aload_n hx hb dX7_tryMove_147 rfl (lv_at hl 1 rfl) ?_
    refine va_get (D := D) (ci := 4) (v := .ref lk) (C := RX7) (T := TX7) (N := 15) hx hb hts hinX7 hown hK hP 0 rfl rfl 8 (by decide) hfl24 (fun _ h9 => h9) rfl dX7_tryMove_148 ?_
    refine lv_iconst (v := 2) hx hb dX7_tryMove_151 (by decide) ?_
    refine va_lald hx hb hK hP 4 1 rfl rfl (vp_in_nI (n := 2) (N := 3) (by omega) (by decide)) dX7_tryMove_152 ?_
    refine pk_tl (y := (mturned (sf lv) ((mo % 8) / 2) (mo % 2))) ((congrArg (vp_updL (vp_updL (vp_updL (vp_updL lo 1 (ff lv)) 2 (sf lv)) 1 (mturned (ff lv) ((mo % 8) / 2) (mo % 2))) 2 (mturned (sf lv) ((mo % 8) / 2) (mo % 2))) (pk_cl 2)).trans (pk_uLs)) ?_
    refine vp_callSi (W.runS (As := [.long (mturned (ff lv) ((mo % 8) / 2) (mo % 2)), .long (mturned (sf lv) ((mo % 8) / 2) (mo % 2))]) (rest := []) ⟨hx, hb, hml, hown, hts⟩ (c_X7_judge l (mturned (ff lv) ((mo % 8) / 2) (mo % 2)) (mturned (sf lv) ((mo % 8) / 2) (mo % 2))) (va_cwS 2 hts gX7_tryMove_X7_judge rfl rfl rfl (by decide +kernel) ⟨Nat.le_of_ble_eq_true rfl, Nat.le_of_ble_eq_true rfl⟩) ⟨px_blind0, fun U hU hW => ⟨rfl, trivial⟩⟩ rfl rfl hl.1 rfl (lv_room (Nat.le_of_ble_eq_true rfl)) dX7_tryMove_153 ⟨(Nat.le_of_ble_eq_true rfl), (Nat.le_of_ble_eq_true rfl)⟩) (fun r153 er153 => ?_)
    obtain rfl := er153.symm
    refine W.iret (v := (mjudge (mturned (ff lv) ((mo % 8) / 2) (mo % 2)) (mturned (sf lv) ((mo % 8) / 2) (mo % 2)))) hx hb hr (fun tt ht hW => ⟨⟨(mjudge (mturned (ff lv) ((mo % 8) / 2) (mo % 2)) (mturned (sf lv) ((mo % 8) / 2) (mo % 2))), (vp_updL (vp_updL (vp_updL (vp_updL lo 1 (ff lv)) 2 (sf lv)) 1 (mturned (ff lv) ((mo % 8) / 2) (mo % 2))) 2 (mturned (sf lv) ((mo % 8) / 2) (mo % 2))), rfl, ?_, by rw [ht]; exact hP, va_K.moved hW.alike hK, hD⟩, hS.F ht⟩) hS.2.2 dX7_tryMove_156
    exact ⟨rfl, ((pk_uLn (by decide)).trans (pk_uLs)), (pk_uLs)⟩
  · exact absurd c33 (by decide)

set_option maxHeartbeats 400000 in
set_option maxRecDepth 100000 in
theorem c_X7_tryMove_put1 (l : Launch) (D : va_G) (cI cJ : ClassId) (sz : Nat) (h0 ow cl tu lk f1 s2 ms nx bs : Nat) (th re mt fd : Int32) (w k : Nat) (fo lo ff sf : Nat → Int64) (cs ts mm nf bf : Nat → Int32) (lv mo : Nat) (hlv : lv < 6) (hmo : mo < 288) (hs9 : mm lv = 1) : Met l yX7_tryMove wsX7_tryMove ({ frames := 4, cells := 0, slots := 0, locals := 97 } : Room) (va_Pc [.ref h0, .int (nI lv), .int (nI mo), .int 0] (pv_C D cI cJ [(h0, .inr (4, [.int th, .ref ow, .int re, .int (nI w), .int mt, .ref cl, .ref tu, .int (nI k), .ref lk, .ref f1, .ref s2, .ref ms, .ref nx, .ref bs, .int fd])), (ow, .inl (cJ, 3, .inr (.inl fo))), (cl, .inl (cI, 36, .inl cs)), (tu, .inl (cI, 36, .inl ts)), (lk, .inl (cJ, 3, .inr (.inl lo))), (f1, .inl (cJ, 6, .inr (.inl ff))), (s2, .inl (cJ, 6, .inr (.inl sf))), (ms, .inl (cI, 6, .inl mm)), (nx, .inl (cI, 6, .inl nf)), (bs, .inl (cI, 6, .inl bf))] sz)) (va_Qi (fun (r : Int32) (u : (Nat → Int64)) => (bt (ff lv ||| sf lv) (mo / 8) = true ∧ r = (-1)) ∨ ((¬ bt (ff lv ||| sf lv) (mo / 8) = true) ∧ 0 < msum (ff lv ||| jshl 1 (nI (mo / 8))) 0 5 32 ∧ r = 1) ∨ ((¬ bt (ff lv ||| sf lv) (mo / 8) = true) ∧ (¬ 0 < msum (ff lv ||| jshl 1 (nI (mo / 8))) 0 5 32) ∧ r = mjudge (mturned (ff lv ||| jshl 1 (nI (mo / 8))) (mo % 8 / 2) (mo % 2)) (mturned (sf lv) (mo % 8 / 2) (mo % 2)) ∧ u 1 = (mturned (ff lv ||| jshl 1 (nI (mo / 8))) (mo % 8 / 2) (mo % 2)) ∧ u 2 = (mturned (sf lv) (mo % 8 / 2) (mo % 2)))) (fun (u : (Nat → Int64)) => pv_B D cI cJ (va_A [(h0, .inr (4, [.int th, .ref ow, .int re, .int (nI w), .int mt, .ref cl, .ref tu, .int (nI k), .ref lk, .ref f1, .ref s2, .ref ms, .ref nx, .ref bs, .int fd])), (ow, .inl (cJ, 3, .inr (.inl fo))), (cl, .inl (cI, 36, .inl cs)), (tu, .inl (cI, 36, .inl ts)), (lk, .inl (cJ, 3, .inr (.inl lo))), (f1, .inl (cJ, 6, .inr (.inl ff))), (s2, .inl (cJ, 6, .inr (.inl sf))), (ms, .inl (cI, 6, .inl mm)), (nx, .inl (cI, 6, .inl nf)), (bs, .inl (cI, 6, .inl bf))] sz) [(h0, .inr (4, [.int th, .ref ow, .int re, .int (nI w), .int mt, .ref cl, .ref tu, .int (nI k), .ref lk, .ref f1, .ref s2, .ref ms, .ref nx, .ref bs, .int fd])), (ow, .inl (cJ, 3, .inr (.inl fo))), (cl, .inl (cI, 36, .inl cs)), (tu, .inl (cI, 36, .inl ts)), (lk, .inl (cJ, 3, .inr (.inl u))), (f1, .inl (cJ, 6, .inr (.inl ff))), (s2, .inl (cJ, 6, .inr (.inl sf))), (ms, .inl (cI, 6, .inl mm)), (nx, .inl (cI, 6, .inl nf)), (bs, .inl (cI, 6, .inl bf))]) (va_A [(h0, .inr (4, [.int th, .ref ow, .int re, .int (nI w), .int mt, .ref cl, .ref tu, .int (nI k), .ref lk, .ref f1, .ref s2, .ref ms, .ref nx, .ref bs, .int fd])), (ow, .inl (cJ, 3, .inr (.inl fo))), (cl, .inl (cI, 36, .inl cs)), (tu, .inl (cI, 36, .inl ts)), (lk, .inl (cJ, 3, .inr (.inl lo))), (f1, .inl (cJ, 6, .inr (.inl ff))), (s2, .inl (cJ, 6, .inr (.inl sf))), (ms, .inl (cI, 6, .inl mm)), (nx, .inl (cI, 6, .inl nf)), (bs, .inl (cI, 6, .inl bf))] sz)) 0 0 (va_A [(h0, .inr (4, [.int th, .ref ow, .int re, .int (nI w), .int mt, .ref cl, .ref tu, .int (nI k), .ref lk, .ref f1, .ref s2, .ref ms, .ref nx, .ref bs, .int fd])), (ow, .inl (cJ, 3, .inr (.inl fo))), (cl, .inl (cI, 36, .inl cs)), (tu, .inl (cI, 36, .inl ts)), (lk, .inl (cJ, 3, .inr (.inl lo))), (f1, .inl (cJ, 6, .inr (.inl ff))), (s2, .inl (cJ, 6, .inr (.inl sf))), (ms, .inl (cI, 6, .inl mm)), (nx, .inl (cI, 6, .inl nf)), (bs, .inl (cI, 6, .inl bf))] sz) := by
  refine Met.ofW (cc := cX7_tryMove) (maxL := 5) (ret := (some .int)) (by decide) rfl ?_
  intro p e s m args below meth c s₁ B hml hv
  obtain ⟨rfl, rfl, hP, hK, hD0⟩ := hv
  have hx := B.exec
  have hb := B.bytes
  have hr := B.returns
  have hts := atoms_spec (ws := wsX7_tryMove) B.pre
  have hown : s.vm.findClass RX7 = some m.cls := findClass_of_methodNamed B.named
  have hlocks := B.notSynchronized
  have hD := hD0.self (sz := s.heap.size)
  generalize hAe : va_A [(h0, .inr (4, [.int th, .ref ow, .int re, .int (nI w), .int mt, .ref cl, .ref tu, .int (nI k), .ref lk, .ref f1, .ref s2, .ref ms, .ref nx, .ref bs, .int fd])), (ow, .inl (cJ, 3, .inr (.inl fo))), (cl, .inl (cI, 36, .inl cs)), (tu, .inl (cI, 36, .inl ts)), (lk, .inl (cJ, 3, .inr (.inl lo))), (f1, .inl (cJ, 6, .inr (.inl ff))), (s2, .inl (cJ, 6, .inr (.inl sf))), (ms, .inl (cI, 6, .inl mm)), (nx, .inl (cI, 6, .inl nf)), (bs, .inl (cI, 6, .inl bf))] s.heap.size = A at hD ⊢
  have hA : ∀ q : Nat, s.heap.size ≤ q → A q := fun q h => by rw [← hAe]; exact Or.inr h
  have hS : va_S A s.heap s.heap [] := va_S.rf
  have hinX7 : ∀ w ∈ wsX70, w ∈ wsX7_tryMove := by decide +kernel
  have hfl33 : (Cond.fieldLink RX7 33 "TwistquadModel" "movers" "[I").before ([.ref h0, .int (nI lv), .int (nI mo), .int 0] : List Value).toArray s = true := hts _ (by decide +kernel)
  have hfl24 : (Cond.fieldLink RX7 24 "TwistquadModel" "look" "[J").before ([.ref h0, .int (nI lv), .int (nI mo), .int 0] : List Value).toArray s = true := hts _ (by decide +kernel)
  have hfl27 : (Cond.fieldLink RX7 27 "TwistquadModel" "firsts" "[J").before ([.ref h0, .int (nI lv), .int (nI mo), .int 0] : List Value).toArray s = true := hts _ (by decide +kernel)
  have hfl30 : (Cond.fieldLink RX7 30 "TwistquadModel" "seconds" "[J").before ([.ref h0, .int (nI lv), .int (nI mo), .int 0] : List Value).toArray s = true := hts _ (by decide +kernel)
  have hl := lv_entry ([.ref h0, .int (nI lv), .int (nI mo), .int 0]) (n := 5) (Nat.le_of_ble_eq_true rfl)
  rw [lg_entry_eq]
  generalize (lg_sl ([.ref h0, .int (nI lv), .int (nI mo), .int 0]) ++ List.replicate (5 - (lg_sl ([.ref h0, .int (nI lv), .int (nI mo), .int 0])).length) Slot.unset).toArray = ls at hl ⊢
  have hl : lv_has ls 5 [(0, .ref h0), (1, .int (nI lv)), (2, .int (nI mo)), (3, .int 0)] := hl
  refine lv_aload_n hx hb dX7_tryMove_0 rfl (lv_at hl 0 rfl) ?_
  refine va_get (D := D) (ci := 4) (v := .ref ms) (C := RX7) (T := TX7) (N := 15) hx hb hts hinX7 hown hK hP 0 rfl rfl 11 (by decide) hfl33 (fun _ h9 => h9) rfl dX7_tryMove_1 ?_
  refine lv_iload_n hx hb dX7_tryMove_4 rfl (lv_at hl 1 rfl) ?_
  refine va_iald hx hb hK hP 7 0 rfl rfl (vp_in_nI (n := lv) (N := 6) (by omega) (by decide)) dX7_tryMove_5 ?_
  refine pk_ti (y := 1) ((congrArg mm (pk_cl lv)).trans (hs9)) ?_
  refine lv_istore (lv' := [(4, .int 1), (0, .ref h0), (1, .int (nI lv)), (2, .int (nI mo)), (3, .int 0)]) hx hb dX7_tryMove_6 hl (by decide) rfl (fun ls hl => ?_)
  refine lv_aload_n hx hb dX7_tryMove_8 rfl (lv_at hl 1 rfl) ?_
  refine va_get (D := D) (ci := 4) (v := .ref lk) (C := RX7) (T := TX7) (N := 15) hx hb hts hinX7 hown hK hP 0 rfl rfl 8 (by decide) hfl24 (fun _ h9 => h9) rfl dX7_tryMove_9 ?_
  refine lv_iconst (v := 1) hx hb dX7_tryMove_12 (by decide) ?_
  refine lv_aload_n hx hb dX7_tryMove_13 rfl (lv_at hl 1 rfl) ?_
  refine va_get (D := D) (ci := 4) (v := .ref f1) (C := RX7) (T := TX7) (N := 15) hx hb hts hinX7 hown hK hP 0 rfl rfl 9 (by decide) hfl27 (fun _ h9 => h9) rfl dX7_tryMove_14 ?_
  refine lv_iload_n hx hb dX7_tryMove_17 rfl (lv_at hl 2 rfl) ?_
  refine va_lald hx hb hK hP 5 1 rfl rfl (vp_in_nI (n := lv) (N := 6) (by omega) (by decide)) dX7_tryMove_18 ?_
  refine pk_tl (y := (ff lv)) (congrArg ff (pk_cl lv)) ?_
  refine va_last hx hb hK hP hD hS 4 1 rfl rfl (vp_in_nI (n := 1) (N := 3) (by omega) (by decide)) dX7_tryMove_19 (fun H locs hP hD hS => ?_)
  have hu19 : (1 : Int32).toNatClampNeg = 1 := pk_cl 1
  rw [hu19] at hP hD
  have hP : va_P D vwCl [(h0, .inr (4, [.int th, .ref ow, .int re, .int (nI w), .int mt, .ref cl, .ref tu, .int (nI k), .ref lk, .ref f1, .ref s2, .ref ms, .ref nx, .ref bs, .int fd])), (ow, .inl (cJ, 3, .inr (.inl fo))), (cl, .inl (cI, 36, .inl cs)), (tu, .inl (cI, 36, .inl ts)), (lk, .inl (cJ, 3, .inr (.inl (vp_updL lo 1 (ff lv))))), (f1, .inl (cJ, 6, .inr (.inl ff))), (s2, .inl (cJ, 6, .inr (.inl sf))), (ms, .inl (cI, 6, .inl mm)), (nx, .inl (cI, 6, .inl nf)), (bs, .inl (cI, 6, .inl bf))] H := hP
  have hD : va_D A [(h0, .inr (4, [.int th, .ref ow, .int re, .int (nI w), .int mt, .ref cl, .ref tu, .int (nI k), .ref lk, .ref f1, .ref s2, .ref ms, .ref nx, .ref bs, .int fd])), (ow, .inl (cJ, 3, .inr (.inl fo))), (cl, .inl (cI, 36, .inl cs)), (tu, .inl (cI, 36, .inl ts)), (lk, .inl (cJ, 3, .inr (.inl (vp_updL lo 1 (ff lv))))), (f1, .inl (cJ, 6, .inr (.inl ff))), (s2, .inl (cJ, 6, .inr (.inl sf))), (ms, .inl (cI, 6, .inl mm)), (nx, .inl (cI, 6, .inl nf)), (bs, .inl (cI, 6, .inl bf))] := hD
  refine lv_aload_n hx hb dX7_tryMove_20 rfl (lv_at hl 1 rfl) ?_
  refine va_get (D := D) (ci := 4) (v := .ref lk) (C := RX7) (T := TX7) (N := 15) hx hb hts hinX7 hown hK hP 0 rfl rfl 8 (by decide) hfl24 (fun _ h9 => h9) rfl dX7_tryMove_21 ?_
  refine lv_iconst (v := 2) hx hb dX7_tryMove_24 (by decide) ?_
  refine lv_aload_n hx hb dX7_tryMove_25 rfl (lv_at hl 1 rfl) ?_
  refine va_get (D := D) (ci := 4) (v := .ref s2) (C := RX7) (T := TX7) (N := 15) hx hb hts hinX7 hown hK hP 0 rfl rfl 10 (by decide) hfl30 (fun _ h9 => h9) rfl dX7_tryMove_26 ?_
  refine lv_iload_n hx hb dX7_tryMove_29 rfl (lv_at hl 2 rfl) ?_
  refine va_lald hx hb hK hP 6 1 rfl rfl (vp_in_nI (n := lv) (N := 6) (by omega) (by decide)) dX7_tryMove_30 ?_
  refine pk_tl (y := (sf lv)) (congrArg sf (pk_cl lv)) ?_
  refine va_last hx hb hK hP hD hS 4 1 rfl rfl (vp_in_nI (n := 2) (N := 3) (by omega) (by decide)) dX7_tryMove_31 (fun H locs hP hD hS => ?_)
  have hu31 : (2 : Int32).toNatClampNeg = 2 := pk_cl 2
  rw [hu31] at hP hD
  have hP : va_P D vwCl [(h0, .inr (4, [.int th, .ref ow, .int re, .int (nI w), .int mt, .ref cl, .ref tu, .int (nI k), .ref lk, .ref f1, .ref s2, .ref ms, .ref nx, .ref bs, .int fd])), (ow, .inl (cJ, 3, .inr (.inl fo))), (cl, .inl (cI, 36, .inl cs)), (tu, .inl (cI, 36, .inl ts)), (lk, .inl (cJ, 3, .inr (.inl (vp_updL (vp_updL lo 1 (ff lv)) 2 (sf lv))))), (f1, .inl (cJ, 6, .inr (.inl ff))), (s2, .inl (cJ, 6, .inr (.inl sf))), (ms, .inl (cI, 6, .inl mm)), (nx, .inl (cI, 6, .inl nf)), (bs, .inl (cI, 6, .inl bf))] H := hP
  have hD : va_D A [(h0, .inr (4, [.int th, .ref ow, .int re, .int (nI w), .int mt, .ref cl, .ref tu, .int (nI k), .ref lk, .ref f1, .ref s2, .ref ms, .ref nx, .ref bs, .int fd])), (ow, .inl (cJ, 3, .inr (.inl fo))), (cl, .inl (cI, 36, .inl cs)), (tu, .inl (cI, 36, .inl ts)), (lk, .inl (cJ, 3, .inr (.inl (vp_updL (vp_updL lo 1 (ff lv)) 2 (sf lv))))), (f1, .inl (cJ, 6, .inr (.inl ff))), (s2, .inl (cJ, 6, .inr (.inl sf))), (ms, .inl (cI, 6, .inl mm)), (nx, .inl (cI, 6, .inl nf)), (bs, .inl (cI, 6, .inl bf))] := hD
  refine lv_iload_n hx hb dX7_tryMove_32 rfl (lv_at hl 4 rfl) ?_
  refine lv_if_ne (tgt := 93) hx hb dX7_tryMove_33 (by decide) (fun c33 => ?_) (fun c33 => ?_)
  · exact absurd c33 (by decide)
  · refine lv_aload_n hx hb dX7_tryMove_36 rfl (lv_at hl 1 rfl) ?_
    refine va_get (D := D) (ci := 4) (v := .ref lk) (C := RX7) (T := TX7) (N := 15) hx hb hts hinX7 hown hK hP 0 rfl rfl 8 (by decide) hfl24 (fun _ h9 => h9) rfl dX7_tryMove_37 ?_
    refine lv_iconst (v := 1) hx hb dX7_tryMove_40 (by decide) ?_
    refine va_lald hx hb hK hP 4 1 rfl rfl (vp_in_nI (n := 1) (N := 3) (by omega) (by decide)) dX7_tryMove_41 ?_
    refine pk_tl (y := (ff lv)) ((congrArg (vp_updL (vp_updL lo 1 (ff lv)) 2 (sf lv)) (pk_cl 1)).trans ((pk_uLn (by decide)).trans (pk_uLs))) ?_
    refine lv_aload_n hx hb dX7_tryMove_42 rfl (lv_at hl 1 rfl) ?_
    refine va_get (D := D) (ci := 4) (v := .ref lk) (C := RX7) (T := TX7) (N := 15) hx hb hts hinX7 hown hK hP 0 rfl rfl 8 (by decide) hfl24 (fun _ h9 => h9) rfl dX7_tryMove_43 ?_
    refine lv_iconst (v := 2) hx hb dX7_tryMove_46 (by decide) ?_
    refine va_lald hx hb hK hP 4 1 rfl rfl (vp_in_nI (n := 2) (N := 3) (by omega) (by decide)) dX7_tryMove_47 ?_
    refine pk_tl (y := (sf lv)) ((congrArg (vp_updL (vp_updL lo 1 (ff lv)) 2 (sf lv)) (pk_cl 2)).trans (pk_uLs)) ?_
    refine lv_lor hx hb dX7_tryMove_48 ?_
    refine lv_topl (fun x48 ex48 => ?_)
    refine lv_iload_n hx hb dX7_tryMove_49 rfl (lv_at hl 3 rfl) ?_
    refine lv_bipush (v := 8) hx hb dX7_tryMove_50 (by decide) ?_
    refine lv_idiv hx hb dX7_tryMove_52 (by decide) ?_
    refine pk_ti (y := nI (mo / 8)) (pk_div (a := mo) (d := 8) (by omega) (by omega) (by omega)) ?_
    refine vp_callSi (W.runS (As := [.long x48, .int (nI (mo / 8))]) (rest := []) ⟨hx, hb, hml, hown, hts⟩ (c_X7_has l x48 (mo / 8) (by omega)) (va_cwS 2 hts gX7_tryMove_X7_has rfl rfl rfl (by decide +kernel) ⟨Nat.le_of_ble_eq_true rfl, Nat.le_of_ble_eq_true rfl⟩) ⟨px_blind0, fun U hU hW => ⟨rfl, trivial⟩⟩ rfl rfl hl.1 rfl (lv_room (Nat.le_of_ble_eq_true rfl)) dX7_tryMove_53 ⟨(Nat.le_of_ble_eq_true rfl), (Nat.le_of_ble_eq_true rfl)⟩) (fun r53 er53 => ?_)
    obtain rfl := er53.symm
    refine pk_b (P := bt x48 (mo / 8) = true) (fun b53 => ?_) (fun b53 => ?_)
    · refine lv_if_eq (tgt := 61) hx hb dX7_tryMove_56 (by decide) (fun c56 => ?_) (fun c56 => ?_)
      · exact absurd c56 (by decide)
      · refine lv_iconst (v := (-1)) hx hb dX7_tryMove_59 (by decide) ?_
        obtain rfl := ex48.symm
        refine W.iret (v := (-1)) hx hb hr (fun tt ht hW => ⟨⟨(-1), (vp_updL (vp_updL lo 1 (ff lv)) 2 (sf lv)), rfl, ?_, by rw [ht]; exact hP, va_K.moved hW.alike hK, hD⟩, hS.F ht⟩) hS.2.2 dX7_tryMove_60
        first | exact Or.inl ⟨b53, rfl⟩ | exact Or.inr (Or.inl ⟨b53, b84, rfl⟩) | exact Or.inr (Or.inr ⟨b53, b84, rfl, ((pk_uLn (by decide)).trans (pk_uLs)), (pk_uLs)⟩)
    · refine lv_if_eq (tgt := 61) hx hb dX7_tryMove_56 (by decide) (fun c56 => ?_) (fun c56 => ?_)
      · refine lv_aload_n hx hb dX7_tryMove_61 rfl (lv_at hl 1 rfl) ?_
        refine va_get (D := D) (ci := 4) (v := .ref lk) (C := RX7) (T := TX7) (N := 15) hx hb hts hinX7 hown hK hP 0 rfl rfl 8 (by decide) hfl24 (fun _ h9 => h9) rfl dX7_tryMove_62 ?_
        refine lv_iload hx hb dX7_tryMove_65 (lv_at hl 0 rfl) ?_
        refine lv_dup2_11 hx hb dX7_tryMove_67 rfl rfl ?_
        refine va_lald hx hb hK hP 4 1 rfl rfl (vp_in_nI (n := 1) (N := 3) (by omega) (by decide)) dX7_tryMove_68 ?_
        refine pk_tl (y := (ff lv)) ((congrArg (vp_updL (vp_updL lo 1 (ff lv)) 2 (sf lv)) (pk_cl 1)).trans ((pk_uLn (by decide)).trans (pk_uLs))) ?_
        refine lv_lconst (v := 1) hx hb dX7_tryMove_69 (by decide) ?_
        refine lv_iload_n hx hb dX7_tryMove_70 rfl (lv_at hl 3 rfl) ?_
        refine lv_bipush (v := 8) hx hb dX7_tryMove_71 (by decide) ?_
        refine lv_idiv hx hb dX7_tryMove_73 (by decide) ?_
        refine pk_ti (y := nI (mo / 8)) (pk_div (a := mo) (d := 8) (by omega) (by omega) (by omega)) ?_
        refine lv_lshl (v := jshl 1 (nI (mo / 8))) hx hb dX7_tryMove_74 rfl ?_
        refine lv_topl (fun x74 ex74 => ?_)
        refine lv_lor hx hb dX7_tryMove_75 ?_
        refine lv_topl (fun x75 ex75 => ?_)
        refine va_last hx hb hK hP hD hS 4 1 rfl rfl (vp_in_nI (n := 1) (N := 3) (by omega) (by decide)) dX7_tryMove_76 (fun H locs hP hD hS => ?_)
        have hu76 : (1 : Int32).toNatClampNeg = 1 := pk_cl 1
        rw [hu76] at hP hD
        have hP : va_P D vwCl [(h0, .inr (4, [.int th, .ref ow, .int re, .int (nI w), .int mt, .ref cl, .ref tu, .int (nI k), .ref lk, .ref f1, .ref s2, .ref ms, .ref nx, .ref bs, .int fd])), (ow, .inl (cJ, 3, .inr (.inl fo))), (cl, .inl (cI, 36, .inl cs)), (tu, .inl (cI, 36, .inl ts)), (lk, .inl (cJ, 3, .inr (.inl (vp_updL (vp_updL (vp_updL lo 1 (ff lv)) 2 (sf lv)) 1 x75)))), (f1, .inl (cJ, 6, .inr (.inl ff))), (s2, .inl (cJ, 6, .inr (.inl sf))), (ms, .inl (cI, 6, .inl mm)), (nx, .inl (cI, 6, .inl nf)), (bs, .inl (cI, 6, .inl bf))] H := hP
        have hD : va_D A [(h0, .inr (4, [.int th, .ref ow, .int re, .int (nI w), .int mt, .ref cl, .ref tu, .int (nI k), .ref lk, .ref f1, .ref s2, .ref ms, .ref nx, .ref bs, .int fd])), (ow, .inl (cJ, 3, .inr (.inl fo))), (cl, .inl (cI, 36, .inl cs)), (tu, .inl (cI, 36, .inl ts)), (lk, .inl (cJ, 3, .inr (.inl (vp_updL (vp_updL (vp_updL lo 1 (ff lv)) 2 (sf lv)) 1 x75)))), (f1, .inl (cJ, 6, .inr (.inl ff))), (s2, .inl (cJ, 6, .inr (.inl sf))), (ms, .inl (cI, 6, .inl mm)), (nx, .inl (cI, 6, .inl nf)), (bs, .inl (cI, 6, .inl bf))] := hD
        refine lv_aload_n hx hb dX7_tryMove_77 rfl (lv_at hl 1 rfl) ?_
        refine va_get (D := D) (ci := 4) (v := .ref lk) (C := RX7) (T := TX7) (N := 15) hx hb hts hinX7 hown hK hP 0 rfl rfl 8 (by decide) hfl24 (fun _ h9 => h9) rfl dX7_tryMove_78 ?_
        refine lv_iload hx hb dX7_tryMove_81 (lv_at hl 0 rfl) ?_
        refine va_lald hx hb hK hP 4 1 rfl rfl (vp_in_nI (n := 1) (N := 3) (by omega) (by decide)) dX7_tryMove_83 ?_
        refine pk_tl (y := x75) ((congrArg (vp_updL (vp_updL (vp_updL lo 1 (ff lv)) 2 (sf lv)) 1 x75) (pk_cl 1)).trans (pk_uLs)) ?_
        refine vp_callSi (W.runS (As := [.long x75]) (rest := []) ⟨hx, hb, hml, hown, hts⟩ (c_X7_hasLine l x75) (va_cwS 1 hts gX7_tryMove_X7_hasLine rfl rfl rfl (by decide +kernel) ⟨Nat.le_of_ble_eq_true rfl, Nat.le_of_ble_eq_true rfl⟩) ⟨px_blind0, fun U hU hW => ⟨rfl, trivial⟩⟩ rfl rfl hl.1 rfl (lv_room (Nat.le_of_ble_eq_true rfl)) dX7_tryMove_84 ⟨(Nat.le_of_ble_eq_true rfl), (Nat.le_of_ble_eq_true rfl)⟩) (fun r84 er84 => ?_)
        obtain rfl := er84.symm
        refine pk_b (P := 0 < msum x75 0 5 32) (fun b84 => ?_) (fun b84 => ?_)
        · refine lv_if_eq (tgt := 93) hx hb dX7_tryMove_87 (by decide) (fun c87 => ?_) (fun c87 => ?_)
          · exact absurd c87 (by decide)
          · refine lv_iload hx hb dX7_tryMove_90 (lv_at hl 0 rfl) ?_
            obtain rfl := ex48.symm; obtain rfl := ex74.symm; obtain rfl := ex75.symm
            refine W.iret (v := 1) hx hb hr (fun tt ht hW => ⟨⟨1, (vp_updL (vp_updL (vp_updL lo 1 (ff lv)) 2 (sf lv)) 1 ((ff lv) ||| (jshl 1 (nI (mo / 8))))), rfl, ?_, by rw [ht]; exact hP, va_K.moved hW.alike hK, hD⟩, hS.F ht⟩) hS.2.2 dX7_tryMove_92
            first | exact Or.inl ⟨b53, rfl⟩ | exact Or.inr (Or.inl ⟨b53, b84, rfl⟩) | exact Or.inr (Or.inr ⟨b53, b84, rfl, (pk_uLs), ((pk_uLn (by decide)).trans (pk_uLs))⟩)
        · refine lv_if_eq (tgt := 93) hx hb dX7_tryMove_87 (by decide) (fun c87 => ?_) (fun c87 => ?_)
          · refine lv_aload_n hx hb dX7_tryMove_93 rfl (lv_at hl 1 rfl) ?_
            refine va_get (D := D) (ci := 4) (v := .ref lk) (C := RX7) (T := TX7) (N := 15) hx hb hts hinX7 hown hK hP 0 rfl rfl 8 (by decide) hfl24 (fun _ h9 => h9) rfl dX7_tryMove_94 ?_
            refine lv_iconst (v := 1) hx hb dX7_tryMove_97 (by decide) ?_
            refine lv_aload_n hx hb dX7_tryMove_98 rfl (lv_at hl 1 rfl) ?_
            refine va_get (D := D) (ci := 4) (v := .ref lk) (C := RX7) (T := TX7) (N := 15) hx hb hts hinX7 hown hK hP 0 rfl rfl 8 (by decide) hfl24 (fun _ h9 => h9) rfl dX7_tryMove_99 ?_
            refine lv_iconst (v := 1) hx hb dX7_tryMove_102 (by decide) ?_
            refine va_lald hx hb hK hP 4 1 rfl rfl (vp_in_nI (n := 1) (N := 3) (by omega) (by decide)) dX7_tryMove_103 ?_
            refine pk_tl (y := x75) ((congrArg (vp_updL (vp_updL (vp_updL lo 1 (ff lv)) 2 (sf lv)) 1 x75) (pk_cl 1)).trans (pk_uLs)) ?_
            refine lv_iload_n hx hb dX7_tryMove_104 rfl (lv_at hl 3 rfl) ?_
            refine lv_bipush (v := 8) hx hb dX7_tryMove_105 (by decide) ?_
            refine lv_irem hx hb dX7_tryMove_107 (by decide) ?_
            refine pk_ti (y := nI (mo % 8)) (pk_rem (a := mo) (d := 8) (by omega) (by omega) (by omega)) ?_
            refine lv_iconst (v := 2) hx hb dX7_tryMove_108 (by decide) ?_
            refine lv_idiv hx hb dX7_tryMove_109 (by decide) ?_
            refine pk_ti (y := nI ((mo % 8) / 2)) (pk_div (a := (mo % 8)) (d := 2) (by omega) (by omega) (by omega)) ?_
            refine lv_iload_n hx hb dX7_tryMove_110 rfl (lv_at hl 3 rfl) ?_
            refine lv_iconst (v := 2) hx hb dX7_tryMove_111 (by decide) ?_
            refine lv_irem hx hb dX7_tryMove_112 (by decide) ?_
            refine pk_ti (y := nI (mo % 2)) (pk_rem (a := mo) (d := 2) (by omega) (by omega) (by omega)) ?_
            refine vp_callSl (W.runS (As := [.long x75, .int (nI ((mo % 8) / 2)), .int (nI (mo % 2))]) (rest := [.int 1, .ref lk]) ⟨hx, hb, hml, hown, hts⟩ (c_X7_turned l x75 ((mo % 8) / 2) (mo % 2) (by omega) (by omega)) (va_cwS 3 hts gX7_tryMove_X7_turned rfl rfl rfl (by decide +kernel) ⟨Nat.le_of_ble_eq_true rfl, Nat.le_of_ble_eq_true rfl⟩) ⟨px_blind0, fun U hU hW => ⟨rfl, trivial⟩⟩ rfl rfl hl.1 rfl (lv_room (Nat.le_of_ble_eq_true rfl)) dX7_tryMove_113 ⟨(Nat.le_of_ble_eq_true rfl), (Nat.le_of_ble_eq_true rfl)⟩) (fun r113 er113 => ?_)
            obtain rfl := er113.symm
            refine va_last hx hb hK hP hD hS 4 1 rfl rfl (vp_in_nI (n := 1) (N := 3) (by omega) (by decide)) dX7_tryMove_116 (fun H locs hP hD hS => ?_)
            have hu116 : (1 : Int32).toNatClampNeg = 1 := pk_cl 1
            rw [hu116] at hP hD
            have hP : va_P D vwCl [(h0, .inr (4, [.int th, .ref ow, .int re, .int (nI w), .int mt, .ref cl, .ref tu, .int (nI k), .ref lk, .ref f1, .ref s2, .ref ms, .ref nx, .ref bs, .int fd])), (ow, .inl (cJ, 3, .inr (.inl fo))), (cl, .inl (cI, 36, .inl cs)), (tu, .inl (cI, 36, .inl ts)), (lk, .inl (cJ, 3, .inr (.inl (vp_updL (vp_updL (vp_updL (vp_updL lo 1 (ff lv)) 2 (sf lv)) 1 x75) 1 (mturned x75 ((mo % 8) / 2) (mo % 2)))))), (f1, .inl (cJ, 6, .inr (.inl ff))), (s2, .inl (cJ, 6, .inr (.inl sf))), (ms, .inl (cI, 6, .inl mm)), (nx, .inl (cI, 6, .inl nf)), (bs, .inl (cI, 6, .inl bf))] H := hP
            have hD : va_D A [(h0, .inr (4, [.int th, .ref ow, .int re, .int (nI w), .int mt, .ref cl, .ref tu, .int (nI k), .ref lk, .ref f1, .ref s2, .ref ms, .ref nx, .ref bs, .int fd])), (ow, .inl (cJ, 3, .inr (.inl fo))), (cl, .inl (cI, 36, .inl cs)), (tu, .inl (cI, 36, .inl ts)), (lk, .inl (cJ, 3, .inr (.inl (vp_updL (vp_updL (vp_updL (vp_updL lo 1 (ff lv)) 2 (sf lv)) 1 x75) 1 (mturned x75 ((mo % 8) / 2) (mo % 2)))))), (f1, .inl (cJ, 6, .inr (.inl ff))), (s2, .inl (cJ, 6, .inr (.inl sf))), (ms, .inl (cI, 6, .inl mm)), (nx, .inl (cI, 6, .inl nf)), (bs, .inl (cI, 6, .inl bf))] := hD
            refine lv_aload_n hx hb dX7_tryMove_117 rfl (lv_at hl 1 rfl) ?_
            refine va_get (D := D) (ci := 4) (v := .ref lk) (C := RX7) (T := TX7) (N := 15) hx hb hts hinX7 hown hK hP 0 rfl rfl 8 (by decide) hfl24 (fun _ h9 => h9) rfl dX7_tryMove_118 ?_
            refine lv_iconst (v := 2) hx hb dX7_tryMove_121 (by decide) ?_
            refine lv_aload_n hx hb dX7_tryMove_122 rfl (lv_at hl 1 rfl) ?_
            refine va_get (D := D) (ci := 4) (v := .ref lk) (C := RX7) (T := TX7) (N := 15) hx hb hts hinX7 hown hK hP 0 rfl rfl 8 (by decide) hfl24 (fun _ h9 => h9) rfl dX7_tryMove_123 ?_
            refine lv_iconst (v := 2) hx hb dX7_tryMove_126 (by decide) ?_
            refine va_lald hx hb hK hP 4 1 rfl rfl (vp_in_nI (n := 2) (N := 3) (by omega) (by decide)) dX7_tryMove_127 ?_
            refine pk_tl (y := (sf lv)) ((congrArg (vp_updL (vp_updL (vp_updL (vp_updL lo 1 (ff lv)) 2 (sf lv)) 1 x75) 1 (mturned x75 ((mo % 8) / 2) (mo % 2))) (pk_cl 2)).trans ((pk_uLn (by decide)).trans ((pk_uLn (by decide)).trans (pk_uLs)))) ?_
            refine lv_iload_n hx hb dX7_tryMove_128 rfl (lv_at hl 3 rfl) ?_
            refine lv_bipush (v := 8) hx hb dX7_tryMove_129 (by decide) ?_
            refine lv_irem hx hb dX7_tryMove_131 (by decide) ?_
            refine pk_ti (y := nI (mo % 8)) (pk_rem (a := mo) (d := 8) (by omega) (by omega) (by omega)) ?_
            refine lv_iconst (v := 2) hx hb dX7_tryMove_132 (by decide) ?_
            refine lv_idiv hx hb dX7_tryMove_133 (by decide) ?_
            refine pk_ti (y := nI ((mo % 8) / 2)) (pk_div (a := (mo % 8)) (d := 2) (by omega) (by omega) (by omega)) ?_
            refine lv_iload_n hx hb dX7_tryMove_134 rfl (lv_at hl 3 rfl) ?_
            refine lv_iconst (v := 2) hx hb dX7_tryMove_135 (by decide) ?_
            refine lv_irem hx hb dX7_tryMove_136 (by decide) ?_
            refine pk_ti (y := nI (mo % 2)) (pk_rem (a := mo) (d := 2) (by omega) (by omega) (by omega)) ?_
            refine vp_callSl (W.runS (As := [.long (sf lv), .int (nI ((mo % 8) / 2)), .int (nI (mo % 2))]) (rest := [.int 2, .ref lk]) ⟨hx, hb, hml, hown, hts⟩ (c_X7_turned l (sf lv) ((mo % 8) / 2) (mo % 2) (by omega) (by omega)) (va_cwS 3 hts gX7_tryMove_X7_turned rfl rfl rfl (by decide +kernel) ⟨Nat.le_of_ble_eq_true rfl, Nat.le_of_ble_eq_true rfl⟩) ⟨px_blind0, fun U hU hW => ⟨rfl, trivial⟩⟩ rfl rfl hl.1 rfl (lv_room (Nat.le_of_ble_eq_true rfl)) dX7_tryMove_137 ⟨(Nat.le_of_ble_eq_true rfl), (Nat.le_of_ble_eq_true rfl)⟩) (fun r137 er137 => ?_)
            obtain rfl := er137.symm
            refine va_last hx hb hK hP hD hS 4 1 rfl rfl (vp_in_nI (n := 2) (N := 3) (by omega) (by decide)) dX7_tryMove_140 (fun H locs hP hD hS => ?_)
            have hu140 : (2 : Int32).toNatClampNeg = 2 := pk_cl 2
            rw [hu140] at hP hD
            have hP : va_P D vwCl [(h0, .inr (4, [.int th, .ref ow, .int re, .int (nI w), .int mt, .ref cl, .ref tu, .int (nI k), .ref lk, .ref f1, .ref s2, .ref ms, .ref nx, .ref bs, .int fd])), (ow, .inl (cJ, 3, .inr (.inl fo))), (cl, .inl (cI, 36, .inl cs)), (tu, .inl (cI, 36, .inl ts)), (lk, .inl (cJ, 3, .inr (.inl (vp_updL (vp_updL (vp_updL (vp_updL (vp_updL lo 1 (ff lv)) 2 (sf lv)) 1 x75) 1 (mturned x75 ((mo % 8) / 2) (mo % 2))) 2 (mturned (sf lv) ((mo % 8) / 2) (mo % 2)))))), (f1, .inl (cJ, 6, .inr (.inl ff))), (s2, .inl (cJ, 6, .inr (.inl sf))), (ms, .inl (cI, 6, .inl mm)), (nx, .inl (cI, 6, .inl nf)), (bs, .inl (cI, 6, .inl bf))] H := hP
            have hD : va_D A [(h0, .inr (4, [.int th, .ref ow, .int re, .int (nI w), .int mt, .ref cl, .ref tu, .int (nI k), .ref lk, .ref f1, .ref s2, .ref ms, .ref nx, .ref bs, .int fd])), (ow, .inl (cJ, 3, .inr (.inl fo))), (cl, .inl (cI, 36, .inl cs)), (tu, .inl (cI, 36, .inl ts)), (lk, .inl (cJ, 3, .inr (.inl (vp_updL (vp_updL (vp_updL (vp_updL (vp_updL lo 1 (ff lv)) 2 (sf lv)) 1 x75) 1 (mturned x75 ((mo % 8) / 2) (mo % 2))) 2 (mturned (sf lv) ((mo % 8) / 2) (mo % 2)))))), (f1, .inl (cJ, 6, .inr (.inl ff))), (s2, .inl (cJ, 6, .inr (.inl sf))), (ms, .inl (cI, 6, .inl mm)), (nx, .inl (cI, 6, .inl nf)), (bs, .inl (cI, 6, .inl bf))] := hD
            refine lv_aload_n hx hb dX7_tryMove_141 rfl (lv_at hl 1 rfl) ?_
            refine va_get (D := D) (ci := 4) (v := .ref lk) (C := RX7) (T := TX7) (N := 15) hx hb hts hinX7 hown hK hP 0 rfl rfl 8 (by decide) hfl24 (fun _ h9 => h9) rfl dX7_tryMove_142 ?_
            refine lv_iconst (v := 1) hx hb dX7_tryMove_145 (by decide) ?_
            refine va_lald hx hb hK hP 4 1 rfl rfl (vp_in_nI (n := 1) (N := 3) (by omega) (by decide)) dX7_tryMove_146 ?_
            refine pk_tl (y := (mturned x75 ((mo % 8) / 2) (mo % 2))) ((congrArg (vp_updL (vp_updL (vp_updL (vp_updL (vp_updL lo 1 (ff lv)) 2 (sf lv)) 1 x75) 1 (mturned x75 ((mo % 8) / 2) (mo % 2))) 2 (mturned (sf lv) ((mo % 8) / 2) (mo % 2))) (pk_cl 1)).trans ((pk_uLn (by decide)).trans (pk_uLs))) ?_
            refine lv_aload_n hx hb dX7_tryMove_147 rfl (lv_at hl 1 rfl) ?_
            refine va_get (D := D) (ci := 4) (v := .ref lk) (C := RX7) (T := TX7) (N := 15) hx hb hts hinX7 hown hK hP 0 rfl rfl 8 (by decide) hfl24 (fun _ h9 => h9) rfl dX7_tryMove_148 ?_
            refine lv_iconst (v := 2) hx hb dX7_tryMove_151 (by decide) ?_
            refine va_lald hx hb hK hP 4 1 rfl rfl (vp_in_nI (n := 2) (N := 3) (by omega) (by decide)) dX7_tryMove_152 ?_
            refine pk_tl (y := (mturned (sf lv) ((mo % 8) / 2) (mo % 2))) ((congrArg (vp_updL (vp_updL (vp_updL (vp_updL (vp_updL lo 1 (ff lv)) 2 (sf lv)) 1 x75) 1 (mturned x75 ((mo % 8) / 2) (mo % 2))) 2 (mturned (sf lv) ((mo % 8) / 2) (mo % 2))) (pk_cl 2)).trans (pk_uLs)) ?_
            refine vp_callSi (W.runS (As := [.long (mturned x75 ((mo % 8) / 2) (mo % 2)), .long (mturned (sf lv) ((mo % 8) / 2) (mo % 2))]) (rest := []) ⟨hx, hb, hml, hown, hts⟩ (c_X7_judge l (mturned x75 ((mo % 8) / 2) (mo % 2)) (mturned (sf lv) ((mo % 8) / 2) (mo % 2))) (va_cwS 2 hts gX7_tryMove_X7_judge rfl rfl rfl (by decide +kernel) ⟨Nat.le_of_ble_eq_true rfl, Nat.le_of_ble_eq_true rfl⟩) ⟨px_blind0, fun U hU hW => ⟨rfl, trivial⟩⟩ rfl rfl hl.1 rfl (lv_room (Nat.le_of_ble_eq_true rfl)) dX7_tryMove_153 ⟨(Nat.le_of_ble_eq_true rfl), (Nat.le_of_ble_eq_true rfl)⟩) (fun r153 er153 => ?_)
            obtain rfl := er153.symm
            obtain rfl := ex48.symm; obtain rfl := ex74.symm; obtain rfl := ex75.symm
            refine W.iret (v := (mjudge (mturned ((ff lv) ||| (jshl 1 (nI (mo / 8)))) ((mo % 8) / 2) (mo % 2)) (mturned (sf lv) ((mo % 8) / 2) (mo % 2)))) hx hb hr (fun tt ht hW => ⟨⟨(mjudge (mturned ((ff lv) ||| (jshl 1 (nI (mo / 8)))) ((mo % 8) / 2) (mo % 2)) (mturned (sf lv) ((mo % 8) / 2) (mo % 2))), (vp_updL (vp_updL (vp_updL (vp_updL (vp_updL lo 1 (ff lv)) 2 (sf lv)) 1 ((ff lv) ||| (jshl 1 (nI (mo / 8))))) 1 (mturned ((ff lv) ||| (jshl 1 (nI (mo / 8)))) ((mo % 8) / 2) (mo % 2))) 2 (mturned (sf lv) ((mo % 8) / 2) (mo % 2))), rfl, ?_, by rw [ht]; exact hP, va_K.moved hW.alike hK, hD⟩, hS.F ht⟩) hS.2.2 dX7_tryMove_156
            first | exact Or.inl ⟨b53, rfl⟩ | exact Or.inr (Or.inl ⟨b53, b84, rfl⟩) | exact Or.inr (Or.inr ⟨b53, b84, rfl, ((pk_uLn (by decide)).trans (pk_uLs)), (pk_uLs)⟩)
          · exact absurd c87 (by decide)
      · exact absurd c56 (by decide)

set_option maxHeartbeats 400000 in
set_option maxRecDepth 100000 in
theorem c_X7_tryMove_turn2 (l : Launch) (D : va_G) (cI cJ : ClassId) (sz : Nat) (h0 ow cl tu lk f1 s2 ms nx bs : Nat) (th re mt fd : Int32) (w k : Nat) (fo lo ff sf : Nat → Int64) (cs ts mm nf bf : Nat → Int32) (lv mo : Nat) (hlv : lv < 6) (hmo : mo < 8) (hs9 : mm lv = 2) : Met l yX7_tryMove wsX7_tryMove ({ frames := 4, cells := 0, slots := 0, locals := 97 } : Room) (va_Pc [.ref h0, .int (nI lv), .int (nI mo), .int 1] (pv_C D cI cJ [(h0, .inr (4, [.int th, .ref ow, .int re, .int (nI w), .int mt, .ref cl, .ref tu, .int (nI k), .ref lk, .ref f1, .ref s2, .ref ms, .ref nx, .ref bs, .int fd])), (ow, .inl (cJ, 3, .inr (.inl fo))), (cl, .inl (cI, 36, .inl cs)), (tu, .inl (cI, 36, .inl ts)), (lk, .inl (cJ, 3, .inr (.inl lo))), (f1, .inl (cJ, 6, .inr (.inl ff))), (s2, .inl (cJ, 6, .inr (.inl sf))), (ms, .inl (cI, 6, .inl mm)), (nx, .inl (cI, 6, .inl nf)), (bs, .inl (cI, 6, .inl bf))] sz)) (va_Qi (fun (r : Int32) (u : (Nat → Int64)) => r = mjudge (mturned (ff lv) (mo % 8 / 2) (mo % 2)) (mturned (sf lv) (mo % 8 / 2) (mo % 2)) ∧ u 1 = (mturned (ff lv) (mo % 8 / 2) (mo % 2)) ∧ u 2 = (mturned (sf lv) (mo % 8 / 2) (mo % 2))) (fun (u : (Nat → Int64)) => pv_B D cI cJ (va_A [(h0, .inr (4, [.int th, .ref ow, .int re, .int (nI w), .int mt, .ref cl, .ref tu, .int (nI k), .ref lk, .ref f1, .ref s2, .ref ms, .ref nx, .ref bs, .int fd])), (ow, .inl (cJ, 3, .inr (.inl fo))), (cl, .inl (cI, 36, .inl cs)), (tu, .inl (cI, 36, .inl ts)), (lk, .inl (cJ, 3, .inr (.inl lo))), (f1, .inl (cJ, 6, .inr (.inl ff))), (s2, .inl (cJ, 6, .inr (.inl sf))), (ms, .inl (cI, 6, .inl mm)), (nx, .inl (cI, 6, .inl nf)), (bs, .inl (cI, 6, .inl bf))] sz) [(h0, .inr (4, [.int th, .ref ow, .int re, .int (nI w), .int mt, .ref cl, .ref tu, .int (nI k), .ref lk, .ref f1, .ref s2, .ref ms, .ref nx, .ref bs, .int fd])), (ow, .inl (cJ, 3, .inr (.inl fo))), (cl, .inl (cI, 36, .inl cs)), (tu, .inl (cI, 36, .inl ts)), (lk, .inl (cJ, 3, .inr (.inl u))), (f1, .inl (cJ, 6, .inr (.inl ff))), (s2, .inl (cJ, 6, .inr (.inl sf))), (ms, .inl (cI, 6, .inl mm)), (nx, .inl (cI, 6, .inl nf)), (bs, .inl (cI, 6, .inl bf))]) (va_A [(h0, .inr (4, [.int th, .ref ow, .int re, .int (nI w), .int mt, .ref cl, .ref tu, .int (nI k), .ref lk, .ref f1, .ref s2, .ref ms, .ref nx, .ref bs, .int fd])), (ow, .inl (cJ, 3, .inr (.inl fo))), (cl, .inl (cI, 36, .inl cs)), (tu, .inl (cI, 36, .inl ts)), (lk, .inl (cJ, 3, .inr (.inl lo))), (f1, .inl (cJ, 6, .inr (.inl ff))), (s2, .inl (cJ, 6, .inr (.inl sf))), (ms, .inl (cI, 6, .inl mm)), (nx, .inl (cI, 6, .inl nf)), (bs, .inl (cI, 6, .inl bf))] sz)) 0 0 (va_A [(h0, .inr (4, [.int th, .ref ow, .int re, .int (nI w), .int mt, .ref cl, .ref tu, .int (nI k), .ref lk, .ref f1, .ref s2, .ref ms, .ref nx, .ref bs, .int fd])), (ow, .inl (cJ, 3, .inr (.inl fo))), (cl, .inl (cI, 36, .inl cs)), (tu, .inl (cI, 36, .inl ts)), (lk, .inl (cJ, 3, .inr (.inl lo))), (f1, .inl (cJ, 6, .inr (.inl ff))), (s2, .inl (cJ, 6, .inr (.inl sf))), (ms, .inl (cI, 6, .inl mm)), (nx, .inl (cI, 6, .inl nf)), (bs, .inl (cI, 6, .inl bf))] sz) := by
  refine Met.ofW (cc := cX7_tryMove) (maxL := 5) (ret := (some .int)) (by decide) rfl ?_
  intro p e s m args below meth c s₁ B hml hv
  obtain ⟨rfl, rfl, hP, hK, hD0⟩ := hv
  have hx := B.exec
  have hb := B.bytes
  have hr := B.returns
  have hts := atoms_spec (ws := wsX7_tryMove) B.pre
  have hown : s.vm.findClass RX7 = some m.cls := findClass_of_methodNamed B.named
  have hlocks := B.notSynchronized
  have hD := hD0.self (sz := s.heap.size)
  generalize hAe : va_A [(h0, .inr (4, [.int th, .ref ow, .int re, .int (nI w), .int mt, .ref cl, .ref tu, .int (nI k), .ref lk, .ref f1, .ref s2, .ref ms, .ref nx, .ref bs, .int fd])), (ow, .inl (cJ, 3, .inr (.inl fo))), (cl, .inl (cI, 36, .inl cs)), (tu, .inl (cI, 36, .inl ts)), (lk, .inl (cJ, 3, .inr (.inl lo))), (f1, .inl (cJ, 6, .inr (.inl ff))), (s2, .inl (cJ, 6, .inr (.inl sf))), (ms, .inl (cI, 6, .inl mm)), (nx, .inl (cI, 6, .inl nf)), (bs, .inl (cI, 6, .inl bf))] s.heap.size = A at hD ⊢
  have hA : ∀ q : Nat, s.heap.size ≤ q → A q := fun q h => by rw [← hAe]; exact Or.inr h
  have hS : va_S A s.heap s.heap [] := va_S.rf
  have hinX7 : ∀ w ∈ wsX70, w ∈ wsX7_tryMove := by decide +kernel
  have hfl33 : (Cond.fieldLink RX7 33 "TwistquadModel" "movers" "[I").before ([.ref h0, .int (nI lv), .int (nI mo), .int 1] : List Value).toArray s = true := hts _ (by decide +kernel)
  have hfl24 : (Cond.fieldLink RX7 24 "TwistquadModel" "look" "[J").before ([.ref h0, .int (nI lv), .int (nI mo), .int 1] : List Value).toArray s = true := hts _ (by decide +kernel)
  have hfl27 : (Cond.fieldLink RX7 27 "TwistquadModel" "firsts" "[J").before ([.ref h0, .int (nI lv), .int (nI mo), .int 1] : List Value).toArray s = true := hts _ (by decide +kernel)
  have hfl30 : (Cond.fieldLink RX7 30 "TwistquadModel" "seconds" "[J").before ([.ref h0, .int (nI lv), .int (nI mo), .int 1] : List Value).toArray s = true := hts _ (by decide +kernel)
  have hl := lv_entry ([.ref h0, .int (nI lv), .int (nI mo), .int 1]) (n := 5) (Nat.le_of_ble_eq_true rfl)
  rw [lg_entry_eq]
  generalize (lg_sl ([.ref h0, .int (nI lv), .int (nI mo), .int 1]) ++ List.replicate (5 - (lg_sl ([.ref h0, .int (nI lv), .int (nI mo), .int 1])).length) Slot.unset).toArray = ls at hl ⊢
  have hl : lv_has ls 5 [(0, .ref h0), (1, .int (nI lv)), (2, .int (nI mo)), (3, .int 1)] := hl
  refine lv_aload_n hx hb dX7_tryMove_0 rfl (lv_at hl 0 rfl) ?_
  refine va_get (D := D) (ci := 4) (v := .ref ms) (C := RX7) (T := TX7) (N := 15) hx hb hts hinX7 hown hK hP 0 rfl rfl 11 (by decide) hfl33 (fun _ h9 => h9) rfl dX7_tryMove_1 ?_
  refine lv_iload_n hx hb dX7_tryMove_4 rfl (lv_at hl 1 rfl) ?_
  refine va_iald hx hb hK hP 7 0 rfl rfl (vp_in_nI (n := lv) (N := 6) (by omega) (by decide)) dX7_tryMove_5 ?_
  refine pk_ti (y := 2) ((congrArg mm (pk_cl lv)).trans (hs9)) ?_
  refine lv_istore (lv' := [(4, .int 2), (0, .ref h0), (1, .int (nI lv)), (2, .int (nI mo)), (3, .int 1)]) hx hb dX7_tryMove_6 hl (by decide) rfl (fun ls hl => ?_)
  refine lv_aload_n hx hb dX7_tryMove_8 rfl (lv_at hl 1 rfl) ?_
  refine va_get (D := D) (ci := 4) (v := .ref lk) (C := RX7) (T := TX7) (N := 15) hx hb hts hinX7 hown hK hP 0 rfl rfl 8 (by decide) hfl24 (fun _ h9 => h9) rfl dX7_tryMove_9 ?_
  refine lv_iconst (v := 1) hx hb dX7_tryMove_12 (by decide) ?_
  refine lv_aload_n hx hb dX7_tryMove_13 rfl (lv_at hl 1 rfl) ?_
  refine va_get (D := D) (ci := 4) (v := .ref f1) (C := RX7) (T := TX7) (N := 15) hx hb hts hinX7 hown hK hP 0 rfl rfl 9 (by decide) hfl27 (fun _ h9 => h9) rfl dX7_tryMove_14 ?_
  refine lv_iload_n hx hb dX7_tryMove_17 rfl (lv_at hl 2 rfl) ?_
  refine va_lald hx hb hK hP 5 1 rfl rfl (vp_in_nI (n := lv) (N := 6) (by omega) (by decide)) dX7_tryMove_18 ?_
  refine pk_tl (y := (ff lv)) (congrArg ff (pk_cl lv)) ?_
  refine va_last hx hb hK hP hD hS 4 1 rfl rfl (vp_in_nI (n := 1) (N := 3) (by omega) (by decide)) dX7_tryMove_19 (fun H locs hP hD hS => ?_)
  have hu19 : (1 : Int32).toNatClampNeg = 1 := pk_cl 1
  rw [hu19] at hP hD
  have hP : va_P D vwCl [(h0, .inr (4, [.int th, .ref ow, .int re, .int (nI w), .int mt, .ref cl, .ref tu, .int (nI k), .ref lk, .ref f1, .ref s2, .ref ms, .ref nx, .ref bs, .int fd])), (ow, .inl (cJ, 3, .inr (.inl fo))), (cl, .inl (cI, 36, .inl cs)), (tu, .inl (cI, 36, .inl ts)), (lk, .inl (cJ, 3, .inr (.inl (vp_updL lo 1 (ff lv))))), (f1, .inl (cJ, 6, .inr (.inl ff))), (s2, .inl (cJ, 6, .inr (.inl sf))), (ms, .inl (cI, 6, .inl mm)), (nx, .inl (cI, 6, .inl nf)), (bs, .inl (cI, 6, .inl bf))] H := hP
  have hD : va_D A [(h0, .inr (4, [.int th, .ref ow, .int re, .int (nI w), .int mt, .ref cl, .ref tu, .int (nI k), .ref lk, .ref f1, .ref s2, .ref ms, .ref nx, .ref bs, .int fd])), (ow, .inl (cJ, 3, .inr (.inl fo))), (cl, .inl (cI, 36, .inl cs)), (tu, .inl (cI, 36, .inl ts)), (lk, .inl (cJ, 3, .inr (.inl (vp_updL lo 1 (ff lv))))), (f1, .inl (cJ, 6, .inr (.inl ff))), (s2, .inl (cJ, 6, .inr (.inl sf))), (ms, .inl (cI, 6, .inl mm)), (nx, .inl (cI, 6, .inl nf)), (bs, .inl (cI, 6, .inl bf))] := hD
  refine lv_aload_n hx hb dX7_tryMove_20 rfl (lv_at hl 1 rfl) ?_
  refine va_get (D := D) (ci := 4) (v := .ref lk) (C := RX7) (T := TX7) (N := 15) hx hb hts hinX7 hown hK hP 0 rfl rfl 8 (by decide) hfl24 (fun _ h9 => h9) rfl dX7_tryMove_21 ?_
  refine lv_iconst (v := 2) hx hb dX7_tryMove_24 (by decide) ?_
  refine lv_aload_n hx hb dX7_tryMove_25 rfl (lv_at hl 1 rfl) ?_
  refine va_get (D := D) (ci := 4) (v := .ref s2) (C := RX7) (T := TX7) (N := 15) hx hb hts hinX7 hown hK hP 0 rfl rfl 10 (by decide) hfl30 (fun _ h9 => h9) rfl dX7_tryMove_26 ?_
  refine lv_iload_n hx hb dX7_tryMove_29 rfl (lv_at hl 2 rfl) ?_
  refine va_lald hx hb hK hP 6 1 rfl rfl (vp_in_nI (n := lv) (N := 6) (by omega) (by decide)) dX7_tryMove_30 ?_
  refine pk_tl (y := (sf lv)) (congrArg sf (pk_cl lv)) ?_
  refine va_last hx hb hK hP hD hS 4 1 rfl rfl (vp_in_nI (n := 2) (N := 3) (by omega) (by decide)) dX7_tryMove_31 (fun H locs hP hD hS => ?_)
  have hu31 : (2 : Int32).toNatClampNeg = 2 := pk_cl 2
  rw [hu31] at hP hD
  have hP : va_P D vwCl [(h0, .inr (4, [.int th, .ref ow, .int re, .int (nI w), .int mt, .ref cl, .ref tu, .int (nI k), .ref lk, .ref f1, .ref s2, .ref ms, .ref nx, .ref bs, .int fd])), (ow, .inl (cJ, 3, .inr (.inl fo))), (cl, .inl (cI, 36, .inl cs)), (tu, .inl (cI, 36, .inl ts)), (lk, .inl (cJ, 3, .inr (.inl (vp_updL (vp_updL lo 1 (ff lv)) 2 (sf lv))))), (f1, .inl (cJ, 6, .inr (.inl ff))), (s2, .inl (cJ, 6, .inr (.inl sf))), (ms, .inl (cI, 6, .inl mm)), (nx, .inl (cI, 6, .inl nf)), (bs, .inl (cI, 6, .inl bf))] H := hP
  have hD : va_D A [(h0, .inr (4, [.int th, .ref ow, .int re, .int (nI w), .int mt, .ref cl, .ref tu, .int (nI k), .ref lk, .ref f1, .ref s2, .ref ms, .ref nx, .ref bs, .int fd])), (ow, .inl (cJ, 3, .inr (.inl fo))), (cl, .inl (cI, 36, .inl cs)), (tu, .inl (cI, 36, .inl ts)), (lk, .inl (cJ, 3, .inr (.inl (vp_updL (vp_updL lo 1 (ff lv)) 2 (sf lv))))), (f1, .inl (cJ, 6, .inr (.inl ff))), (s2, .inl (cJ, 6, .inr (.inl sf))), (ms, .inl (cI, 6, .inl mm)), (nx, .inl (cI, 6, .inl nf)), (bs, .inl (cI, 6, .inl bf))] := hD
  refine lv_iload_n hx hb dX7_tryMove_32 rfl (lv_at hl 4 rfl) ?_
  refine lv_if_ne (tgt := 93) hx hb dX7_tryMove_33 (by decide) (fun c33 => ?_) (fun c33 => ?_)
  · refine lv_aload_n hx hb dX7_tryMove_93 rfl (lv_at hl 1 rfl) ?_
    refine va_get (D := D) (ci := 4) (v := .ref lk) (C := RX7) (T := TX7) (N := 15) hx hb hts hinX7 hown hK hP 0 rfl rfl 8 (by decide) hfl24 (fun _ h9 => h9) rfl dX7_tryMove_94 ?_
    refine lv_iconst (v := 1) hx hb dX7_tryMove_97 (by decide) ?_
    refine lv_aload_n hx hb dX7_tryMove_98 rfl (lv_at hl 1 rfl) ?_
    refine va_get (D := D) (ci := 4) (v := .ref lk) (C := RX7) (T := TX7) (N := 15) hx hb hts hinX7 hown hK hP 0 rfl rfl 8 (by decide) hfl24 (fun _ h9 => h9) rfl dX7_tryMove_99 ?_
    refine lv_iconst (v := 1) hx hb dX7_tryMove_102 (by decide) ?_
    refine va_lald hx hb hK hP 4 1 rfl rfl (vp_in_nI (n := 1) (N := 3) (by omega) (by decide)) dX7_tryMove_103 ?_
    refine pk_tl (y := (ff lv)) ((congrArg (vp_updL (vp_updL lo 1 (ff lv)) 2 (sf lv)) (pk_cl 1)).trans ((pk_uLn (by decide)).trans (pk_uLs))) ?_
    refine lv_iload_n hx hb dX7_tryMove_104 rfl (lv_at hl 3 rfl) ?_
    refine lv_bipush (v := 8) hx hb dX7_tryMove_105 (by decide) ?_
    refine lv_irem hx hb dX7_tryMove_107 (by decide) ?_
    refine pk_ti (y := nI (mo % 8)) (pk_rem (a := mo) (d := 8) (by omega) (by omega) (by omega)) ?_
    refine lv_iconst (v := 2) hx hb dX7_tryMove_108 (by decide) ?_
    refine lv_idiv hx hb dX7_tryMove_109 (by decide) ?_
    refine pk_ti (y := nI ((mo % 8) / 2)) (pk_div (a := (mo % 8)) (d := 2) (by omega) (by omega) (by omega)) ?_
    refine lv_iload_n hx hb dX7_tryMove_110 rfl (lv_at hl 3 rfl) ?_
    refine lv_iconst (v := 2) hx hb dX7_tryMove_111 (by decide) ?_
    refine lv_irem hx hb dX7_tryMove_112 (by decide) ?_
    refine pk_ti (y := nI (mo % 2)) (pk_rem (a := mo) (d := 2) (by omega) (by omega) (by omega)) ?_
    refine vp_callSl (W.runS (As := [.long (ff lv), .int (nI ((mo % 8) / 2)), .int (nI (mo % 2))]) (rest := [.int 1, .ref lk]) ⟨hx, hb, hml, hown, hts⟩ (c_X7_turned l (ff lv) ((mo % 8) / 2) (mo % 2) (by omega) (by omega)) (va_cwS 3 hts gX7_tryMove_X7_turned rfl rfl rfl (by decide +kernel) ⟨Nat.le_of_ble_eq_true rfl, Nat.le_of_ble_eq_true rfl⟩) ⟨px_blind0, fun U hU hW => ⟨rfl, trivial⟩⟩ rfl rfl hl.1 rfl (lv_room (Nat.le_of_ble_eq_true rfl)) dX7_tryMove_113 ⟨(Nat.le_of_ble_eq_true rfl), (Nat.le_of_ble_eq_true rfl)⟩) (fun r113 er113 => ?_)
    obtain rfl := er113.symm
    refine va_last hx hb hK hP hD hS 4 1 rfl rfl (vp_in_nI (n := 1) (N := 3) (by omega) (by decide)) dX7_tryMove_116 (fun H locs hP hD hS => ?_)
    have hu116 : (1 : Int32).toNatClampNeg = 1 := pk_cl 1
    rw [hu116] at hP hD
    have hP : va_P D vwCl [(h0, .inr (4, [.int th, .ref ow, .int re, .int (nI w), .int mt, .ref cl, .ref tu, .int (nI k), .ref lk, .ref f1, .ref s2, .ref ms, .ref nx, .ref bs, .int fd])), (ow, .inl (cJ, 3, .inr (.inl fo))), (cl, .inl (cI, 36, .inl cs)), (tu, .inl (cI, 36, .inl ts)), (lk, .inl (cJ, 3, .inr (.inl (vp_updL (vp_updL (vp_updL lo 1 (ff lv)) 2 (sf lv)) 1 (mturned (ff lv) ((mo % 8) / 2) (mo % 2)))))), (f1, .inl (cJ, 6, .inr (.inl ff))), (s2, .inl (cJ, 6, .inr (.inl sf))), (ms, .inl (cI, 6, .inl mm)), (nx, .inl (cI, 6, .inl nf)), (bs, .inl (cI, 6, .inl bf))] H := hP
    have hD : va_D A [(h0, .inr (4, [.int th, .ref ow, .int re, .int (nI w), .int mt, .ref cl, .ref tu, .int (nI k), .ref lk, .ref f1, .ref s2, .ref ms, .ref nx, .ref bs, .int fd])), (ow, .inl (cJ, 3, .inr (.inl fo))), (cl, .inl (cI, 36, .inl cs)), (tu, .inl (cI, 36, .inl ts)), (lk, .inl (cJ, 3, .inr (.inl (vp_updL (vp_updL (vp_updL lo 1 (ff lv)) 2 (sf lv)) 1 (mturned (ff lv) ((mo % 8) / 2) (mo % 2)))))), (f1, .inl (cJ, 6, .inr (.inl ff))), (s2, .inl (cJ, 6, .inr (.inl sf))), (ms, .inl (cI, 6, .inl mm)), (nx, .inl (cI, 6, .inl nf)), (bs, .inl (cI, 6, .inl bf))] := hD
    refine lv_aload_n hx hb dX7_tryMove_117 rfl (lv_at hl 1 rfl) ?_
    refine va_get (D := D) (ci := 4) (v := .ref lk) (C := RX7) (T := TX7) (N := 15) hx hb hts hinX7 hown hK hP 0 rfl rfl 8 (by decide) hfl24 (fun _ h9 => h9) rfl dX7_tryMove_118 ?_
    refine lv_iconst (v := 2) hx hb dX7_tryMove_121 (by decide) ?_
    refine lv_aload_n hx hb dX7_tryMove_122 rfl (lv_at hl 1 rfl) ?_
    refine va_get (D := D) (ci := 4) (v := .ref lk) (C := RX7) (T := TX7) (N := 15) hx hb hts hinX7 hown hK hP 0 rfl rfl 8 (by decide) hfl24 (fun _ h9 => h9) rfl dX7_tryMove_123 ?_
    refine lv_iconst (v := 2) hx hb dX7_tryMove_126 (by decide) ?_
    refine va_lald hx hb hK hP 4 1 rfl rfl (vp_in_nI (n := 2) (N := 3) (by omega) (by decide)) dX7_tryMove_127 ?_
    refine pk_tl (y := (sf lv)) ((congrArg (vp_updL (vp_updL (vp_updL lo 1 (ff lv)) 2 (sf lv)) 1 (mturned (ff lv) ((mo % 8) / 2) (mo % 2))) (pk_cl 2)).trans ((pk_uLn (by decide)).trans (pk_uLs))) ?_
    refine lv_iload_n hx hb dX7_tryMove_128 rfl (lv_at hl 3 rfl) ?_
    refine lv_bipush (v := 8) hx hb dX7_tryMove_129 (by decide) ?_
    refine lv_irem hx hb dX7_tryMove_131 (by decide) ?_
    refine pk_ti (y := nI (mo % 8)) (pk_rem (a := mo) (d := 8) (by omega) (by omega) (by omega)) ?_
    refine lv_iconst (v := 2) hx hb dX7_tryMove_132 (by decide) ?_
    refine lv_idiv hx hb dX7_tryMove_133 (by decide) ?_
    refine pk_ti (y := nI ((mo % 8) / 2)) (pk_div (a := (mo % 8)) (d := 2) (by omega) (by omega) (by omega)) ?_
    refine lv_iload_n hx hb dX7_tryMove_134 rfl (lv_at hl 3 rfl) ?_
    refine lv_iconst (v := 2) hx hb dX7_tryMove_135 (by decide) ?_
    refine lv_irem hx hb dX7_tryMove_136 (by decide) ?_
    refine pk_ti (y := nI (mo % 2)) (pk_rem (a := mo) (d := 2) (by omega) (by omega) (by omega)) ?_
    refine vp_callSl (W.runS (As := [.long (sf lv), .int (nI ((mo % 8) / 2)), .int (nI (mo % 2))]) (rest := [.int 2, .ref lk]) ⟨hx, hb, hml, hown, hts⟩ (c_X7_turned l (sf lv) ((mo % 8) / 2) (mo % 2) (by omega) (by omega)) (va_cwS 3 hts gX7_tryMove_X7_turned rfl rfl rfl (by decide +kernel) ⟨Nat.le_of_ble_eq_true rfl, Nat.le_of_ble_eq_true rfl⟩) ⟨px_blind0, fun U hU hW => ⟨rfl, trivial⟩⟩ rfl rfl hl.1 rfl (lv_room (Nat.le_of_ble_eq_true rfl)) dX7_tryMove_137 ⟨(Nat.le_of_ble_eq_true rfl), (Nat.le_of_ble_eq_true rfl)⟩) (fun r137 er137 => ?_)
    obtain rfl := er137.symm
    refine va_last hx hb hK hP hD hS 4 1 rfl rfl (vp_in_nI (n := 2) (N := 3) (by omega) (by decide)) dX7_tryMove_140 (fun H locs hP hD hS => ?_)
    have hu140 : (2 : Int32).toNatClampNeg = 2 := pk_cl 2
    rw [hu140] at hP hD
    have hP : va_P D vwCl [(h0, .inr (4, [.int th, .ref ow, .int re, .int (nI w), .int mt, .ref cl, .ref tu, .int (nI k), .ref lk, .ref f1, .ref s2, .ref ms, .ref nx, .ref bs, .int fd])), (ow, .inl (cJ, 3, .inr (.inl fo))), (cl, .inl (cI, 36, .inl cs)), (tu, .inl (cI, 36, .inl ts)), (lk, .inl (cJ, 3, .inr (.inl (vp_updL (vp_updL (vp_updL (vp_updL lo 1 (ff lv)) 2 (sf lv)) 1 (mturned (ff lv) ((mo % 8) / 2) (mo % 2))) 2 (mturned (sf lv) ((mo % 8) / 2) (mo % 2)))))), (f1, .inl (cJ, 6, .inr (.inl ff))), (s2, .inl (cJ, 6, .inr (.inl sf))), (ms, .inl (cI, 6, .inl mm)), (nx, .inl (cI, 6, .inl nf)), (bs, .inl (cI, 6, .inl bf))] H := hP
    have hD : va_D A [(h0, .inr (4, [.int th, .ref ow, .int re, .int (nI w), .int mt, .ref cl, .ref tu, .int (nI k), .ref lk, .ref f1, .ref s2, .ref ms, .ref nx, .ref bs, .int fd])), (ow, .inl (cJ, 3, .inr (.inl fo))), (cl, .inl (cI, 36, .inl cs)), (tu, .inl (cI, 36, .inl ts)), (lk, .inl (cJ, 3, .inr (.inl (vp_updL (vp_updL (vp_updL (vp_updL lo 1 (ff lv)) 2 (sf lv)) 1 (mturned (ff lv) ((mo % 8) / 2) (mo % 2))) 2 (mturned (sf lv) ((mo % 8) / 2) (mo % 2)))))), (f1, .inl (cJ, 6, .inr (.inl ff))), (s2, .inl (cJ, 6, .inr (.inl sf))), (ms, .inl (cI, 6, .inl mm)), (nx, .inl (cI, 6, .inl nf)), (bs, .inl (cI, 6, .inl bf))] := hD
    refine lv_aload_n hx hb dX7_tryMove_141 rfl (lv_at hl 1 rfl) ?_
    refine va_get (D := D) (ci := 4) (v := .ref lk) (C := RX7) (T := TX7) (N := 15) hx hb hts hinX7 hown hK hP 0 rfl rfl 8 (by decide) hfl24 (fun _ h9 => h9) rfl dX7_tryMove_142 ?_
    refine lv_iconst (v := 1) hx hb dX7_tryMove_145 (by decide) ?_
    refine va_lald hx hb hK hP 4 1 rfl rfl (vp_in_nI (n := 1) (N := 3) (by omega) (by decide)) dX7_tryMove_146 ?_
    refine pk_tl (y := (mturned (ff lv) ((mo % 8) / 2) (mo % 2))) ((congrArg (vp_updL (vp_updL (vp_updL (vp_updL lo 1 (ff lv)) 2 (sf lv)) 1 (mturned (ff lv) ((mo % 8) / 2) (mo % 2))) 2 (mturned (sf lv) ((mo % 8) / 2) (mo % 2))) (pk_cl 1)).trans ((pk_uLn (by decide)).trans (pk_uLs))) ?_
    refine lv_aload_n hx hb dX7_tryMove_147 rfl (lv_at hl 1 rfl) ?_
    refine va_get (D := D) (ci := 4) (v := .ref lk) (C := RX7) (T := TX7) (N := 15) hx hb hts hinX7 hown hK hP 0 rfl rfl 8 (by decide) hfl24 (fun _ h9 => h9) rfl dX7_tryMove_148 ?_
    refine lv_iconst (v := 2) hx hb dX7_tryMove_151 (by decide) ?_
    refine va_lald hx hb hK hP 4 1 rfl rfl (vp_in_nI (n := 2) (N := 3) (by omega) (by decide)) dX7_tryMove_152 ?_
    refine pk_tl (y := (mturned (sf lv) ((mo % 8) / 2) (mo % 2))) ((congrArg (vp_updL (vp_updL (vp_updL (vp_updL lo 1 (ff lv)) 2 (sf lv)) 1 (mturned (ff lv) ((mo % 8) / 2) (mo % 2))) 2 (mturned (sf lv) ((mo % 8) / 2) (mo % 2))) (pk_cl 2)).trans (pk_uLs)) ?_
    refine vp_callSi (W.runS (As := [.long (mturned (ff lv) ((mo % 8) / 2) (mo % 2)), .long (mturned (sf lv) ((mo % 8) / 2) (mo % 2))]) (rest := []) ⟨hx, hb, hml, hown, hts⟩ (c_X7_judge l (mturned (ff lv) ((mo % 8) / 2) (mo % 2)) (mturned (sf lv) ((mo % 8) / 2) (mo % 2))) (va_cwS 2 hts gX7_tryMove_X7_judge rfl rfl rfl (by decide +kernel) ⟨Nat.le_of_ble_eq_true rfl, Nat.le_of_ble_eq_true rfl⟩) ⟨px_blind0, fun U hU hW => ⟨rfl, trivial⟩⟩ rfl rfl hl.1 rfl (lv_room (Nat.le_of_ble_eq_true rfl)) dX7_tryMove_153 ⟨(Nat.le_of_ble_eq_true rfl), (Nat.le_of_ble_eq_true rfl)⟩) (fun r153 er153 => ?_)
    obtain rfl := er153.symm
    refine W.iret (v := (mjudge (mturned (ff lv) ((mo % 8) / 2) (mo % 2)) (mturned (sf lv) ((mo % 8) / 2) (mo % 2)))) hx hb hr (fun tt ht hW => ⟨⟨(mjudge (mturned (ff lv) ((mo % 8) / 2) (mo % 2)) (mturned (sf lv) ((mo % 8) / 2) (mo % 2))), (vp_updL (vp_updL (vp_updL (vp_updL lo 1 (ff lv)) 2 (sf lv)) 1 (mturned (ff lv) ((mo % 8) / 2) (mo % 2))) 2 (mturned (sf lv) ((mo % 8) / 2) (mo % 2))), rfl, ?_, by rw [ht]; exact hP, va_K.moved hW.alike hK, hD⟩, hS.F ht⟩) hS.2.2 dX7_tryMove_156
    exact ⟨rfl, ((pk_uLn (by decide)).trans (pk_uLs)), (pk_uLs)⟩
  · exact absurd c33 (by decide)

set_option maxHeartbeats 400000 in
set_option maxRecDepth 100000 in
theorem c_X7_tryMove_put2 (l : Launch) (D : va_G) (cI cJ : ClassId) (sz : Nat) (h0 ow cl tu lk f1 s2 ms nx bs : Nat) (th re mt fd : Int32) (w k : Nat) (fo lo ff sf : Nat → Int64) (cs ts mm nf bf : Nat → Int32) (lv mo : Nat) (hlv : lv < 6) (hmo : mo < 288) (hs9 : mm lv = 2) : Met l yX7_tryMove wsX7_tryMove ({ frames := 4, cells := 0, slots := 0, locals := 97 } : Room) (va_Pc [.ref h0, .int (nI lv), .int (nI mo), .int 0] (pv_C D cI cJ [(h0, .inr (4, [.int th, .ref ow, .int re, .int (nI w), .int mt, .ref cl, .ref tu, .int (nI k), .ref lk, .ref f1, .ref s2, .ref ms, .ref nx, .ref bs, .int fd])), (ow, .inl (cJ, 3, .inr (.inl fo))), (cl, .inl (cI, 36, .inl cs)), (tu, .inl (cI, 36, .inl ts)), (lk, .inl (cJ, 3, .inr (.inl lo))), (f1, .inl (cJ, 6, .inr (.inl ff))), (s2, .inl (cJ, 6, .inr (.inl sf))), (ms, .inl (cI, 6, .inl mm)), (nx, .inl (cI, 6, .inl nf)), (bs, .inl (cI, 6, .inl bf))] sz)) (va_Qi (fun (r : Int32) (u : (Nat → Int64)) => (bt (ff lv ||| sf lv) (mo / 8) = true ∧ r = (-1)) ∨ ((¬ bt (ff lv ||| sf lv) (mo / 8) = true) ∧ 0 < msum (sf lv ||| jshl 1 (nI (mo / 8))) 0 5 32 ∧ r = 2) ∨ ((¬ bt (ff lv ||| sf lv) (mo / 8) = true) ∧ (¬ 0 < msum (sf lv ||| jshl 1 (nI (mo / 8))) 0 5 32) ∧ r = mjudge (mturned (ff lv) (mo % 8 / 2) (mo % 2)) (mturned (sf lv ||| jshl 1 (nI (mo / 8))) (mo % 8 / 2) (mo % 2)) ∧ u 1 = (mturned (ff lv) (mo % 8 / 2) (mo % 2)) ∧ u 2 = (mturned (sf lv ||| jshl 1 (nI (mo / 8))) (mo % 8 / 2) (mo % 2)))) (fun (u : (Nat → Int64)) => pv_B D cI cJ (va_A [(h0, .inr (4, [.int th, .ref ow, .int re, .int (nI w), .int mt, .ref cl, .ref tu, .int (nI k), .ref lk, .ref f1, .ref s2, .ref ms, .ref nx, .ref bs, .int fd])), (ow, .inl (cJ, 3, .inr (.inl fo))), (cl, .inl (cI, 36, .inl cs)), (tu, .inl (cI, 36, .inl ts)), (lk, .inl (cJ, 3, .inr (.inl lo))), (f1, .inl (cJ, 6, .inr (.inl ff))), (s2, .inl (cJ, 6, .inr (.inl sf))), (ms, .inl (cI, 6, .inl mm)), (nx, .inl (cI, 6, .inl nf)), (bs, .inl (cI, 6, .inl bf))] sz) [(h0, .inr (4, [.int th, .ref ow, .int re, .int (nI w), .int mt, .ref cl, .ref tu, .int (nI k), .ref lk, .ref f1, .ref s2, .ref ms, .ref nx, .ref bs, .int fd])), (ow, .inl (cJ, 3, .inr (.inl fo))), (cl, .inl (cI, 36, .inl cs)), (tu, .inl (cI, 36, .inl ts)), (lk, .inl (cJ, 3, .inr (.inl u))), (f1, .inl (cJ, 6, .inr (.inl ff))), (s2, .inl (cJ, 6, .inr (.inl sf))), (ms, .inl (cI, 6, .inl mm)), (nx, .inl (cI, 6, .inl nf)), (bs, .inl (cI, 6, .inl bf))]) (va_A [(h0, .inr (4, [.int th, .ref ow, .int re, .int (nI w), .int mt, .ref cl, .ref tu, .int (nI k), .ref lk, .ref f1, .ref s2, .ref ms, .ref nx, .ref bs, .int fd])), (ow, .inl (cJ, 3, .inr (.inl fo))), (cl, .inl (cI, 36, .inl cs)), (tu, .inl (cI, 36, .inl ts)), (lk, .inl (cJ, 3, .inr (.inl lo))), (f1, .inl (cJ, 6, .inr (.inl ff))), (s2, .inl (cJ, 6, .inr (.inl sf))), (ms, .inl (cI, 6, .inl mm)), (nx, .inl (cI, 6, .inl nf)), (bs, .inl (cI, 6, .inl bf))] sz)) 0 0 (va_A [(h0, .inr (4, [.int th, .ref ow, .int re, .int (nI w), .int mt, .ref cl, .ref tu, .int (nI k), .ref lk, .ref f1, .ref s2, .ref ms, .ref nx, .ref bs, .int fd])), (ow, .inl (cJ, 3, .inr (.inl fo))), (cl, .inl (cI, 36, .inl cs)), (tu, .inl (cI, 36, .inl ts)), (lk, .inl (cJ, 3, .inr (.inl lo))), (f1, .inl (cJ, 6, .inr (.inl ff))), (s2, .inl (cJ, 6, .inr (.inl sf))), (ms, .inl (cI, 6, .inl mm)), (nx, .inl (cI, 6, .inl nf)), (bs, .inl (cI, 6, .inl bf))] sz) := by
  refine Met.ofW (cc := cX7_tryMove) (maxL := 5) (ret := (some .int)) (by decide) rfl ?_
  intro p e s m args below meth c s₁ B hml hv
  obtain ⟨rfl, rfl, hP, hK, hD0⟩ := hv
  have hx := B.exec
  have hb := B.bytes
  have hr := B.returns
  have hts := atoms_spec (ws := wsX7_tryMove) B.pre
  have hown : s.vm.findClass RX7 = some m.cls := findClass_of_methodNamed B.named
  have hlocks := B.notSynchronized
  have hD := hD0.self (sz := s.heap.size)
  generalize hAe : va_A [(h0, .inr (4, [.int th, .ref ow, .int re, .int (nI w), .int mt, .ref cl, .ref tu, .int (nI k), .ref lk, .ref f1, .ref s2, .ref ms, .ref nx, .ref bs, .int fd])), (ow, .inl (cJ, 3, .inr (.inl fo))), (cl, .inl (cI, 36, .inl cs)), (tu, .inl (cI, 36, .inl ts)), (lk, .inl (cJ, 3, .inr (.inl lo))), (f1, .inl (cJ, 6, .inr (.inl ff))), (s2, .inl (cJ, 6, .inr (.inl sf))), (ms, .inl (cI, 6, .inl mm)), (nx, .inl (cI, 6, .inl nf)), (bs, .inl (cI, 6, .inl bf))] s.heap.size = A at hD ⊢
  have hA : ∀ q : Nat, s.heap.size ≤ q → A q := fun q h => by rw [← hAe]; exact Or.inr h
  have hS : va_S A s.heap s.heap [] := va_S.rf
  have hinX7 : ∀ w ∈ wsX70, w ∈ wsX7_tryMove := by decide +kernel
  have hfl33 : (Cond.fieldLink RX7 33 "TwistquadModel" "movers" "[I").before ([.ref h0, .int (nI lv), .int (nI mo), .int 0] : List Value).toArray s = true := hts _ (by decide +kernel)
  have hfl24 : (Cond.fieldLink RX7 24 "TwistquadModel" "look" "[J").before ([.ref h0, .int (nI lv), .int (nI mo), .int 0] : List Value).toArray s = true := hts _ (by decide +kernel)
  have hfl27 : (Cond.fieldLink RX7 27 "TwistquadModel" "firsts" "[J").before ([.ref h0, .int (nI lv), .int (nI mo), .int 0] : List Value).toArray s = true := hts _ (by decide +kernel)
  have hfl30 : (Cond.fieldLink RX7 30 "TwistquadModel" "seconds" "[J").before ([.ref h0, .int (nI lv), .int (nI mo), .int 0] : List Value).toArray s = true := hts _ (by decide +kernel)
  have hl := lv_entry ([.ref h0, .int (nI lv), .int (nI mo), .int 0]) (n := 5) (Nat.le_of_ble_eq_true rfl)
  rw [lg_entry_eq]
  generalize (lg_sl ([.ref h0, .int (nI lv), .int (nI mo), .int 0]) ++ List.replicate (5 - (lg_sl ([.ref h0, .int (nI lv), .int (nI mo), .int 0])).length) Slot.unset).toArray = ls at hl ⊢
  have hl : lv_has ls 5 [(0, .ref h0), (1, .int (nI lv)), (2, .int (nI mo)), (3, .int 0)] := hl
  refine lv_aload_n hx hb dX7_tryMove_0 rfl (lv_at hl 0 rfl) ?_
  refine va_get (D := D) (ci := 4) (v := .ref ms) (C := RX7) (T := TX7) (N := 15) hx hb hts hinX7 hown hK hP 0 rfl rfl 11 (by decide) hfl33 (fun _ h9 => h9) rfl dX7_tryMove_1 ?_
  refine lv_iload_n hx hb dX7_tryMove_4 rfl (lv_at hl 1 rfl) ?_
  refine va_iald hx hb hK hP 7 0 rfl rfl (vp_in_nI (n := lv) (N := 6) (by omega) (by decide)) dX7_tryMove_5 ?_
  refine pk_ti (y := 2) ((congrArg mm (pk_cl lv)).trans (hs9)) ?_
  refine lv_istore (lv' := [(4, .int 2), (0, .ref h0), (1, .int (nI lv)), (2, .int (nI mo)), (3, .int 0)]) hx hb dX7_tryMove_6 hl (by decide) rfl (fun ls hl => ?_)
  refine lv_aload_n hx hb dX7_tryMove_8 rfl (lv_at hl 1 rfl) ?_
  refine va_get (D := D) (ci := 4) (v := .ref lk) (C := RX7) (T := TX7) (N := 15) hx hb hts hinX7 hown hK hP 0 rfl rfl 8 (by decide) hfl24 (fun _ h9 => h9) rfl dX7_tryMove_9 ?_
  refine lv_iconst (v := 1) hx hb dX7_tryMove_12 (by decide) ?_
  refine lv_aload_n hx hb dX7_tryMove_13 rfl (lv_at hl 1 rfl) ?_
  refine va_get (D := D) (ci := 4) (v := .ref f1) (C := RX7) (T := TX7) (N := 15) hx hb hts hinX7 hown hK hP 0 rfl rfl 9 (by decide) hfl27 (fun _ h9 => h9) rfl dX7_tryMove_14 ?_
  refine lv_iload_n hx hb dX7_tryMove_17 rfl (lv_at hl 2 rfl) ?_
  refine va_lald hx hb hK hP 5 1 rfl rfl (vp_in_nI (n := lv) (N := 6) (by omega) (by decide)) dX7_tryMove_18 ?_
  refine pk_tl (y := (ff lv)) (congrArg ff (pk_cl lv)) ?_
  refine va_last hx hb hK hP hD hS 4 1 rfl rfl (vp_in_nI (n := 1) (N := 3) (by omega) (by decide)) dX7_tryMove_19 (fun H locs hP hD hS => ?_)
  have hu19 : (1 : Int32).toNatClampNeg = 1 := pk_cl 1
  rw [hu19] at hP hD
  have hP : va_P D vwCl [(h0, .inr (4, [.int th, .ref ow, .int re, .int (nI w), .int mt, .ref cl, .ref tu, .int (nI k), .ref lk, .ref f1, .ref s2, .ref ms, .ref nx, .ref bs, .int fd])), (ow, .inl (cJ, 3, .inr (.inl fo))), (cl, .inl (cI, 36, .inl cs)), (tu, .inl (cI, 36, .inl ts)), (lk, .inl (cJ, 3, .inr (.inl (vp_updL lo 1 (ff lv))))), (f1, .inl (cJ, 6, .inr (.inl ff))), (s2, .inl (cJ, 6, .inr (.inl sf))), (ms, .inl (cI, 6, .inl mm)), (nx, .inl (cI, 6, .inl nf)), (bs, .inl (cI, 6, .inl bf))] H := hP
  have hD : va_D A [(h0, .inr (4, [.int th, .ref ow, .int re, .int (nI w), .int mt, .ref cl, .ref tu, .int (nI k), .ref lk, .ref f1, .ref s2, .ref ms, .ref nx, .ref bs, .int fd])), (ow, .inl (cJ, 3, .inr (.inl fo))), (cl, .inl (cI, 36, .inl cs)), (tu, .inl (cI, 36, .inl ts)), (lk, .inl (cJ, 3, .inr (.inl (vp_updL lo 1 (ff lv))))), (f1, .inl (cJ, 6, .inr (.inl ff))), (s2, .inl (cJ, 6, .inr (.inl sf))), (ms, .inl (cI, 6, .inl mm)), (nx, .inl (cI, 6, .inl nf)), (bs, .inl (cI, 6, .inl bf))] := hD
  refine lv_aload_n hx hb dX7_tryMove_20 rfl (lv_at hl 1 rfl) ?_
  refine va_get (D := D) (ci := 4) (v := .ref lk) (C := RX7) (T := TX7) (N := 15) hx hb hts hinX7 hown hK hP 0 rfl rfl 8 (by decide) hfl24 (fun _ h9 => h9) rfl dX7_tryMove_21 ?_
  refine lv_iconst (v := 2) hx hb dX7_tryMove_24 (by decide) ?_
  refine lv_aload_n hx hb dX7_tryMove_25 rfl (lv_at hl 1 rfl) ?_
  refine va_get (D := D) (ci := 4) (v := .ref s2) (C := RX7) (T := TX7) (N := 15) hx hb hts hinX7 hown hK hP 0 rfl rfl 10 (by decide) hfl30 (fun _ h9 => h9) rfl dX7_tryMove_26 ?_
  refine lv_iload_n hx hb dX7_tryMove_29 rfl (lv_at hl 2 rfl) ?_
  refine va_lald hx hb hK hP 6 1 rfl rfl (vp_in_nI (n := lv) (N := 6) (by omega) (by decide)) dX7_tryMove_30 ?_
  refine pk_tl (y := (sf lv)) (congrArg sf (pk_cl lv)) ?_
  refine va_last hx hb hK hP hD hS 4 1 rfl rfl (vp_in_nI (n := 2) (N := 3) (by omega) (by decide)) dX7_tryMove_31 (fun H locs hP hD hS => ?_)
  have hu31 : (2 : Int32).toNatClampNeg = 2 := pk_cl 2
  rw [hu31] at hP hD
  have hP : va_P D vwCl [(h0, .inr (4, [.int th, .ref ow, .int re, .int (nI w), .int mt, .ref cl, .ref tu, .int (nI k), .ref lk, .ref f1, .ref s2, .ref ms, .ref nx, .ref bs, .int fd])), (ow, .inl (cJ, 3, .inr (.inl fo))), (cl, .inl (cI, 36, .inl cs)), (tu, .inl (cI, 36, .inl ts)), (lk, .inl (cJ, 3, .inr (.inl (vp_updL (vp_updL lo 1 (ff lv)) 2 (sf lv))))), (f1, .inl (cJ, 6, .inr (.inl ff))), (s2, .inl (cJ, 6, .inr (.inl sf))), (ms, .inl (cI, 6, .inl mm)), (nx, .inl (cI, 6, .inl nf)), (bs, .inl (cI, 6, .inl bf))] H := hP
  have hD : va_D A [(h0, .inr (4, [.int th, .ref ow, .int re, .int (nI w), .int mt, .ref cl, .ref tu, .int (nI k), .ref lk, .ref f1, .ref s2, .ref ms, .ref nx, .ref bs, .int fd])), (ow, .inl (cJ, 3, .inr (.inl fo))), (cl, .inl (cI, 36, .inl cs)), (tu, .inl (cI, 36, .inl ts)), (lk, .inl (cJ, 3, .inr (.inl (vp_updL (vp_updL lo 1 (ff lv)) 2 (sf lv))))), (f1, .inl (cJ, 6, .inr (.inl ff))), (s2, .inl (cJ, 6, .inr (.inl sf))), (ms, .inl (cI, 6, .inl mm)), (nx, .inl (cI, 6, .inl nf)), (bs, .inl (cI, 6, .inl bf))] := hD
  refine lv_iload_n hx hb dX7_tryMove_32 rfl (lv_at hl 4 rfl) ?_
  refine lv_if_ne (tgt := 93) hx hb dX7_tryMove_33 (by decide) (fun c33 => ?_) (fun c33 => ?_)
  · exact absurd c33 (by decide)
  · refine lv_aload_n hx hb dX7_tryMove_36 rfl (lv_at hl 1 rfl) ?_
    refine va_get (D := D) (ci := 4) (v := .ref lk) (C := RX7) (T := TX7) (N := 15) hx hb hts hinX7 hown hK hP 0 rfl rfl 8 (by decide) hfl24 (fun _ h9 => h9) rfl dX7_tryMove_37 ?_
    refine lv_iconst (v := 1) hx hb dX7_tryMove_40 (by decide) ?_
    refine va_lald hx hb hK hP 4 1 rfl rfl (vp_in_nI (n := 1) (N := 3) (by omega) (by decide)) dX7_tryMove_41 ?_
    refine pk_tl (y := (ff lv)) ((congrArg (vp_updL (vp_updL lo 1 (ff lv)) 2 (sf lv)) (pk_cl 1)).trans ((pk_uLn (by decide)).trans (pk_uLs))) ?_
    refine lv_aload_n hx hb dX7_tryMove_42 rfl (lv_at hl 1 rfl) ?_
    refine va_get (D := D) (ci := 4) (v := .ref lk) (C := RX7) (T := TX7) (N := 15) hx hb hts hinX7 hown hK hP 0 rfl rfl 8 (by decide) hfl24 (fun _ h9 => h9) rfl dX7_tryMove_43 ?_
    refine lv_iconst (v := 2) hx hb dX7_tryMove_46 (by decide) ?_
    refine va_lald hx hb hK hP 4 1 rfl rfl (vp_in_nI (n := 2) (N := 3) (by omega) (by decide)) dX7_tryMove_47 ?_
    refine pk_tl (y := (sf lv)) ((congrArg (vp_updL (vp_updL lo 1 (ff lv)) 2 (sf lv)) (pk_cl 2)).trans (pk_uLs)) ?_
    refine lv_lor hx hb dX7_tryMove_48 ?_
    refine lv_topl (fun x48 ex48 => ?_)
    refine lv_iload_n hx hb dX7_tryMove_49 rfl (lv_at hl 3 rfl) ?_
    refine lv_bipush (v := 8) hx hb dX7_tryMove_50 (by decide) ?_
    refine lv_idiv hx hb dX7_tryMove_52 (by decide) ?_
    refine pk_ti (y := nI (mo / 8)) (pk_div (a := mo) (d := 8) (by omega) (by omega) (by omega)) ?_
    refine vp_callSi (W.runS (As := [.long x48, .int (nI (mo / 8))]) (rest := []) ⟨hx, hb, hml, hown, hts⟩ (c_X7_has l x48 (mo / 8) (by omega)) (va_cwS 2 hts gX7_tryMove_X7_has rfl rfl rfl (by decide +kernel) ⟨Nat.le_of_ble_eq_true rfl, Nat.le_of_ble_eq_true rfl⟩) ⟨px_blind0, fun U hU hW => ⟨rfl, trivial⟩⟩ rfl rfl hl.1 rfl (lv_room (Nat.le_of_ble_eq_true rfl)) dX7_tryMove_53 ⟨(Nat.le_of_ble_eq_true rfl), (Nat.le_of_ble_eq_true rfl)⟩) (fun r53 er53 => ?_)
    obtain rfl := er53.symm
    refine pk_b (P := bt x48 (mo / 8) = true) (fun b53 => ?_) (fun b53 => ?_)
    · refine lv_if_eq (tgt := 61) hx hb dX7_tryMove_56 (by decide) (fun c56 => ?_) (fun c56 => ?_)
      · exact absurd c56 (by decide)
      · refine lv_iconst (v := (-1)) hx hb dX7_tryMove_59 (by decide) ?_
        obtain rfl := ex48.symm
        refine W.iret (v := (-1)) hx hb hr (fun tt ht hW => ⟨⟨(-1), (vp_updL (vp_updL lo 1 (ff lv)) 2 (sf lv)), rfl, ?_, by rw [ht]; exact hP, va_K.moved hW.alike hK, hD⟩, hS.F ht⟩) hS.2.2 dX7_tryMove_60
        first | exact Or.inl ⟨b53, rfl⟩ | exact Or.inr (Or.inl ⟨b53, b84, rfl⟩) | exact Or.inr (Or.inr ⟨b53, b84, rfl, ((pk_uLn (by decide)).trans (pk_uLs)), (pk_uLs)⟩)
    · refine lv_if_eq (tgt := 61) hx hb dX7_tryMove_56 (by decide) (fun c56 => ?_) (fun c56 => ?_)
      · refine lv_aload_n hx hb dX7_tryMove_61 rfl (lv_at hl 1 rfl) ?_
        refine va_get (D := D) (ci := 4) (v := .ref lk) (C := RX7) (T := TX7) (N := 15) hx hb hts hinX7 hown hK hP 0 rfl rfl 8 (by decide) hfl24 (fun _ h9 => h9) rfl dX7_tryMove_62 ?_
        refine lv_iload hx hb dX7_tryMove_65 (lv_at hl 0 rfl) ?_
        refine lv_dup2_11 hx hb dX7_tryMove_67 rfl rfl ?_
        refine va_lald hx hb hK hP 4 1 rfl rfl (vp_in_nI (n := 2) (N := 3) (by omega) (by decide)) dX7_tryMove_68 ?_
        refine pk_tl (y := (sf lv)) ((congrArg (vp_updL (vp_updL lo 1 (ff lv)) 2 (sf lv)) (pk_cl 2)).trans (pk_uLs)) ?_
        refine lv_lconst (v := 1) hx hb dX7_tryMove_69 (by decide) ?_
        refine lv_iload_n hx hb dX7_tryMove_70 rfl (lv_at hl 3 rfl) ?_
        refine lv_bipush (v := 8) hx hb dX7_tryMove_71 (by decide) ?_
        refine lv_idiv hx hb dX7_tryMove_73 (by decide) ?_
        refine pk_ti (y := nI (mo / 8)) (pk_div (a := mo) (d := 8) (by omega) (by omega) (by omega)) ?_
        refine lv_lshl (v := jshl 1 (nI (mo / 8))) hx hb dX7_tryMove_74 rfl ?_
        refine lv_topl (fun x74 ex74 => ?_)
        refine lv_lor hx hb dX7_tryMove_75 ?_
        refine lv_topl (fun x75 ex75 => ?_)
        refine va_last hx hb hK hP hD hS 4 1 rfl rfl (vp_in_nI (n := 2) (N := 3) (by omega) (by decide)) dX7_tryMove_76 (fun H locs hP hD hS => ?_)
        have hu76 : (2 : Int32).toNatClampNeg = 2 := pk_cl 2
        rw [hu76] at hP hD
        have hP : va_P D vwCl [(h0, .inr (4, [.int th, .ref ow, .int re, .int (nI w), .int mt, .ref cl, .ref tu, .int (nI k), .ref lk, .ref f1, .ref s2, .ref ms, .ref nx, .ref bs, .int fd])), (ow, .inl (cJ, 3, .inr (.inl fo))), (cl, .inl (cI, 36, .inl cs)), (tu, .inl (cI, 36, .inl ts)), (lk, .inl (cJ, 3, .inr (.inl (vp_updL (vp_updL (vp_updL lo 1 (ff lv)) 2 (sf lv)) 2 x75)))), (f1, .inl (cJ, 6, .inr (.inl ff))), (s2, .inl (cJ, 6, .inr (.inl sf))), (ms, .inl (cI, 6, .inl mm)), (nx, .inl (cI, 6, .inl nf)), (bs, .inl (cI, 6, .inl bf))] H := hP
        have hD : va_D A [(h0, .inr (4, [.int th, .ref ow, .int re, .int (nI w), .int mt, .ref cl, .ref tu, .int (nI k), .ref lk, .ref f1, .ref s2, .ref ms, .ref nx, .ref bs, .int fd])), (ow, .inl (cJ, 3, .inr (.inl fo))), (cl, .inl (cI, 36, .inl cs)), (tu, .inl (cI, 36, .inl ts)), (lk, .inl (cJ, 3, .inr (.inl (vp_updL (vp_updL (vp_updL lo 1 (ff lv)) 2 (sf lv)) 2 x75)))), (f1, .inl (cJ, 6, .inr (.inl ff))), (s2, .inl (cJ, 6, .inr (.inl sf))), (ms, .inl (cI, 6, .inl mm)), (nx, .inl (cI, 6, .inl nf)), (bs, .inl (cI, 6, .inl bf))] := hD
        refine lv_aload_n hx hb dX7_tryMove_77 rfl (lv_at hl 1 rfl) ?_
        refine va_get (D := D) (ci := 4) (v := .ref lk) (C := RX7) (T := TX7) (N := 15) hx hb hts hinX7 hown hK hP 0 rfl rfl 8 (by decide) hfl24 (fun _ h9 => h9) rfl dX7_tryMove_78 ?_
        refine lv_iload hx hb dX7_tryMove_81 (lv_at hl 0 rfl) ?_
        refine va_lald hx hb hK hP 4 1 rfl rfl (vp_in_nI (n := 2) (N := 3) (by omega) (by decide)) dX7_tryMove_83 ?_
        refine pk_tl (y := x75) ((congrArg (vp_updL (vp_updL (vp_updL lo 1 (ff lv)) 2 (sf lv)) 2 x75) (pk_cl 2)).trans (pk_uLs)) ?_
        refine vp_callSi (W.runS (As := [.long x75]) (rest := []) ⟨hx, hb, hml, hown, hts⟩ (c_X7_hasLine l x75) (va_cwS 1 hts gX7_tryMove_X7_hasLine rfl rfl rfl (by decide +kernel) ⟨Nat.le_of_ble_eq_true rfl, Nat.le_of_ble_eq_true rfl⟩) ⟨px_blind0, fun U hU hW => ⟨rfl, trivial⟩⟩ rfl rfl hl.1 rfl (lv_room (Nat.le_of_ble_eq_true rfl)) dX7_tryMove_84 ⟨(Nat.le_of_ble_eq_true rfl), (Nat.le_of_ble_eq_true rfl)⟩) (fun r84 er84 => ?_)
        obtain rfl := er84.symm
        refine pk_b (P := 0 < msum x75 0 5 32) (fun b84 => ?_) (fun b84 => ?_)
        · refine lv_if_eq (tgt := 93) hx hb dX7_tryMove_87 (by decide) (fun c87 => ?_) (fun c87 => ?_)
          · exact absurd c87 (by decide)
          · refine lv_iload hx hb dX7_tryMove_90 (lv_at hl 0 rfl) ?_
            obtain rfl := ex48.symm; obtain rfl := ex74.symm; obtain rfl := ex75.symm
            refine W.iret (v := 2) hx hb hr (fun tt ht hW => ⟨⟨2, (vp_updL (vp_updL (vp_updL lo 1 (ff lv)) 2 (sf lv)) 2 ((sf lv) ||| (jshl 1 (nI (mo / 8))))), rfl, ?_, by rw [ht]; exact hP, va_K.moved hW.alike hK, hD⟩, hS.F ht⟩) hS.2.2 dX7_tryMove_92
            first | exact Or.inl ⟨b53, rfl⟩ | exact Or.inr (Or.inl ⟨b53, b84, rfl⟩) | exact Or.inr (Or.inr ⟨b53, b84, rfl, ((pk_uLn (by decide)).trans ((pk_uLn (by decide)).trans (pk_uLs))), (pk_uLs)⟩)
        · refine lv_if_eq (tgt := 93) hx hb dX7_tryMove_87 (by decide) (fun c87 => ?_) (fun c87 => ?_)
          · refine lv_aload_n hx hb dX7_tryMove_93 rfl (lv_at hl 1 rfl) ?_
            refine va_get (D := D) (ci := 4) (v := .ref lk) (C := RX7) (T := TX7) (N := 15) hx hb hts hinX7 hown hK hP 0 rfl rfl 8 (by decide) hfl24 (fun _ h9 => h9) rfl dX7_tryMove_94 ?_
            refine lv_iconst (v := 1) hx hb dX7_tryMove_97 (by decide) ?_
            refine lv_aload_n hx hb dX7_tryMove_98 rfl (lv_at hl 1 rfl) ?_
            refine va_get (D := D) (ci := 4) (v := .ref lk) (C := RX7) (T := TX7) (N := 15) hx hb hts hinX7 hown hK hP 0 rfl rfl 8 (by decide) hfl24 (fun _ h9 => h9) rfl dX7_tryMove_99 ?_
            refine lv_iconst (v := 1) hx hb dX7_tryMove_102 (by decide) ?_
            refine va_lald hx hb hK hP 4 1 rfl rfl (vp_in_nI (n := 1) (N := 3) (by omega) (by decide)) dX7_tryMove_103 ?_
            refine pk_tl (y := (ff lv)) ((congrArg (vp_updL (vp_updL (vp_updL lo 1 (ff lv)) 2 (sf lv)) 2 x75) (pk_cl 1)).trans ((pk_uLn (by decide)).trans ((pk_uLn (by decide)).trans (pk_uLs)))) ?_
            refine lv_iload_n hx hb dX7_tryMove_104 rfl (lv_at hl 3 rfl) ?_
            refine lv_bipush (v := 8) hx hb dX7_tryMove_105 (by decide) ?_
            refine lv_irem hx hb dX7_tryMove_107 (by decide) ?_
            refine pk_ti (y := nI (mo % 8)) (pk_rem (a := mo) (d := 8) (by omega) (by omega) (by omega)) ?_
            refine lv_iconst (v := 2) hx hb dX7_tryMove_108 (by decide) ?_
            refine lv_idiv hx hb dX7_tryMove_109 (by decide) ?_
            refine pk_ti (y := nI ((mo % 8) / 2)) (pk_div (a := (mo % 8)) (d := 2) (by omega) (by omega) (by omega)) ?_
            refine lv_iload_n hx hb dX7_tryMove_110 rfl (lv_at hl 3 rfl) ?_
            refine lv_iconst (v := 2) hx hb dX7_tryMove_111 (by decide) ?_
            refine lv_irem hx hb dX7_tryMove_112 (by decide) ?_
            refine pk_ti (y := nI (mo % 2)) (pk_rem (a := mo) (d := 2) (by omega) (by omega) (by omega)) ?_
            refine vp_callSl (W.runS (As := [.long (ff lv), .int (nI ((mo % 8) / 2)), .int (nI (mo % 2))]) (rest := [.int 1, .ref lk]) ⟨hx, hb, hml, hown, hts⟩ (c_X7_turned l (ff lv) ((mo % 8) / 2) (mo % 2) (by omega) (by omega)) (va_cwS 3 hts gX7_tryMove_X7_turned rfl rfl rfl (by decide +kernel) ⟨Nat.le_of_ble_eq_true rfl, Nat.le_of_ble_eq_true rfl⟩) ⟨px_blind0, fun U hU hW => ⟨rfl, trivial⟩⟩ rfl rfl hl.1 rfl (lv_room (Nat.le_of_ble_eq_true rfl)) dX7_tryMove_113 ⟨(Nat.le_of_ble_eq_true rfl), (Nat.le_of_ble_eq_true rfl)⟩) (fun r113 er113 => ?_)
            obtain rfl := er113.symm
            refine va_last hx hb hK hP hD hS 4 1 rfl rfl (vp_in_nI (n := 1) (N := 3) (by omega) (by decide)) dX7_tryMove_116 (fun H locs hP hD hS => ?_)
            have hu116 : (1 : Int32).toNatClampNeg = 1 := pk_cl 1
            rw [hu116] at hP hD
            have hP : va_P D vwCl [(h0, .inr (4, [.int th, .ref ow, .int re, .int (nI w), .int mt, .ref cl, .ref tu, .int (nI k), .ref lk, .ref f1, .ref s2, .ref ms, .ref nx, .ref bs, .int fd])), (ow, .inl (cJ, 3, .inr (.inl fo))), (cl, .inl (cI, 36, .inl cs)), (tu, .inl (cI, 36, .inl ts)), (lk, .inl (cJ, 3, .inr (.inl (vp_updL (vp_updL (vp_updL (vp_updL lo 1 (ff lv)) 2 (sf lv)) 2 x75) 1 (mturned (ff lv) ((mo % 8) / 2) (mo % 2)))))), (f1, .inl (cJ, 6, .inr (.inl ff))), (s2, .inl (cJ, 6, .inr (.inl sf))), (ms, .inl (cI, 6, .inl mm)), (nx, .inl (cI, 6, .inl nf)), (bs, .inl (cI, 6, .inl bf))] H := hP
            have hD : va_D A [(h0, .inr (4, [.int th, .ref ow, .int re, .int (nI w), .int mt, .ref cl, .ref tu, .int (nI k), .ref lk, .ref f1, .ref s2, .ref ms, .ref nx, .ref bs, .int fd])), (ow, .inl (cJ, 3, .inr (.inl fo))), (cl, .inl (cI, 36, .inl cs)), (tu, .inl (cI, 36, .inl ts)), (lk, .inl (cJ, 3, .inr (.inl (vp_updL (vp_updL (vp_updL (vp_updL lo 1 (ff lv)) 2 (sf lv)) 2 x75) 1 (mturned (ff lv) ((mo % 8) / 2) (mo % 2)))))), (f1, .inl (cJ, 6, .inr (.inl ff))), (s2, .inl (cJ, 6, .inr (.inl sf))), (ms, .inl (cI, 6, .inl mm)), (nx, .inl (cI, 6, .inl nf)), (bs, .inl (cI, 6, .inl bf))] := hD
            refine lv_aload_n hx hb dX7_tryMove_117 rfl (lv_at hl 1 rfl) ?_
            refine va_get (D := D) (ci := 4) (v := .ref lk) (C := RX7) (T := TX7) (N := 15) hx hb hts hinX7 hown hK hP 0 rfl rfl 8 (by decide) hfl24 (fun _ h9 => h9) rfl dX7_tryMove_118 ?_
            refine lv_iconst (v := 2) hx hb dX7_tryMove_121 (by decide) ?_
            refine lv_aload_n hx hb dX7_tryMove_122 rfl (lv_at hl 1 rfl) ?_
            refine va_get (D := D) (ci := 4) (v := .ref lk) (C := RX7) (T := TX7) (N := 15) hx hb hts hinX7 hown hK hP 0 rfl rfl 8 (by decide) hfl24 (fun _ h9 => h9) rfl dX7_tryMove_123 ?_
            refine lv_iconst (v := 2) hx hb dX7_tryMove_126 (by decide) ?_
            refine va_lald hx hb hK hP 4 1 rfl rfl (vp_in_nI (n := 2) (N := 3) (by omega) (by decide)) dX7_tryMove_127 ?_
            refine pk_tl (y := x75) ((congrArg (vp_updL (vp_updL (vp_updL (vp_updL lo 1 (ff lv)) 2 (sf lv)) 2 x75) 1 (mturned (ff lv) ((mo % 8) / 2) (mo % 2))) (pk_cl 2)).trans ((pk_uLn (by decide)).trans (pk_uLs))) ?_
            refine lv_iload_n hx hb dX7_tryMove_128 rfl (lv_at hl 3 rfl) ?_
            refine lv_bipush (v := 8) hx hb dX7_tryMove_129 (by decide) ?_
            refine lv_irem hx hb dX7_tryMove_131 (by decide) ?_
            refine pk_ti (y := nI (mo % 8)) (pk_rem (a := mo) (d := 8) (by omega) (by omega) (by omega)) ?_
            refine lv_iconst (v := 2) hx hb dX7_tryMove_132 (by decide) ?_
            refine lv_idiv hx hb dX7_tryMove_133 (by decide) ?_
            refine pk_ti (y := nI ((mo % 8) / 2)) (pk_div (a := (mo % 8)) (d := 2) (by omega) (by omega) (by omega)) ?_
            refine lv_iload_n hx hb dX7_tryMove_134 rfl (lv_at hl 3 rfl) ?_
            refine lv_iconst (v := 2) hx hb dX7_tryMove_135 (by decide) ?_
            refine lv_irem hx hb dX7_tryMove_136 (by decide) ?_
            refine pk_ti (y := nI (mo % 2)) (pk_rem (a := mo) (d := 2) (by omega) (by omega) (by omega)) ?_
            refine vp_callSl (W.runS (As := [.long x75, .int (nI ((mo % 8) / 2)), .int (nI (mo % 2))]) (rest := [.int 2, .ref lk]) ⟨hx, hb, hml, hown, hts⟩ (c_X7_turned l x75 ((mo % 8) / 2) (mo % 2) (by omega) (by omega)) (va_cwS 3 hts gX7_tryMove_X7_turned rfl rfl rfl (by decide +kernel) ⟨Nat.le_of_ble_eq_true rfl, Nat.le_of_ble_eq_true rfl⟩) ⟨px_blind0, fun U hU hW => ⟨rfl, trivial⟩⟩ rfl rfl hl.1 rfl (lv_room (Nat.le_of_ble_eq_true rfl)) dX7_tryMove_137 ⟨(Nat.le_of_ble_eq_true rfl), (Nat.le_of_ble_eq_true rfl)⟩) (fun r137 er137 => ?_)
            obtain rfl := er137.symm
            refine va_last hx hb hK hP hD hS 4 1 rfl rfl (vp_in_nI (n := 2) (N := 3) (by omega) (by decide)) dX7_tryMove_140 (fun H locs hP hD hS => ?_)
            have hu140 : (2 : Int32).toNatClampNeg = 2 := pk_cl 2
            rw [hu140] at hP hD
            have hP : va_P D vwCl [(h0, .inr (4, [.int th, .ref ow, .int re, .int (nI w), .int mt, .ref cl, .ref tu, .int (nI k), .ref lk, .ref f1, .ref s2, .ref ms, .ref nx, .ref bs, .int fd])), (ow, .inl (cJ, 3, .inr (.inl fo))), (cl, .inl (cI, 36, .inl cs)), (tu, .inl (cI, 36, .inl ts)), (lk, .inl (cJ, 3, .inr (.inl (vp_updL (vp_updL (vp_updL (vp_updL (vp_updL lo 1 (ff lv)) 2 (sf lv)) 2 x75) 1 (mturned (ff lv) ((mo % 8) / 2) (mo % 2))) 2 (mturned x75 ((mo % 8) / 2) (mo % 2)))))), (f1, .inl (cJ, 6, .inr (.inl ff))), (s2, .inl (cJ, 6, .inr (.inl sf))), (ms, .inl (cI, 6, .inl mm)), (nx, .inl (cI, 6, .inl nf)), (bs, .inl (cI, 6, .inl bf))] H := hP
            have hD : va_D A [(h0, .inr (4, [.int th, .ref ow, .int re, .int (nI w), .int mt, .ref cl, .ref tu, .int (nI k), .ref lk, .ref f1, .ref s2, .ref ms, .ref nx, .ref bs, .int fd])), (ow, .inl (cJ, 3, .inr (.inl fo))), (cl, .inl (cI, 36, .inl cs)), (tu, .inl (cI, 36, .inl ts)), (lk, .inl (cJ, 3, .inr (.inl (vp_updL (vp_updL (vp_updL (vp_updL (vp_updL lo 1 (ff lv)) 2 (sf lv)) 2 x75) 1 (mturned (ff lv) ((mo % 8) / 2) (mo % 2))) 2 (mturned x75 ((mo % 8) / 2) (mo % 2)))))), (f1, .inl (cJ, 6, .inr (.inl ff))), (s2, .inl (cJ, 6, .inr (.inl sf))), (ms, .inl (cI, 6, .inl mm)), (nx, .inl (cI, 6, .inl nf)), (bs, .inl (cI, 6, .inl bf))] := hD
            refine lv_aload_n hx hb dX7_tryMove_141 rfl (lv_at hl 1 rfl) ?_
            refine va_get (D := D) (ci := 4) (v := .ref lk) (C := RX7) (T := TX7) (N := 15) hx hb hts hinX7 hown hK hP 0 rfl rfl 8 (by decide) hfl24 (fun _ h9 => h9) rfl dX7_tryMove_142 ?_
            refine lv_iconst (v := 1) hx hb dX7_tryMove_145 (by decide) ?_
            refine va_lald hx hb hK hP 4 1 rfl rfl (vp_in_nI (n := 1) (N := 3) (by omega) (by decide)) dX7_tryMove_146 ?_
            refine pk_tl (y := (mturned (ff lv) ((mo % 8) / 2) (mo % 2))) ((congrArg (vp_updL (vp_updL (vp_updL (vp_updL (vp_updL lo 1 (ff lv)) 2 (sf lv)) 2 x75) 1 (mturned (ff lv) ((mo % 8) / 2) (mo % 2))) 2 (mturned x75 ((mo % 8) / 2) (mo % 2))) (pk_cl 1)).trans ((pk_uLn (by decide)).trans (pk_uLs))) ?_
            refine lv_aload_n hx hb dX7_tryMove_147 rfl (lv_at hl 1 rfl) ?_
            refine va_get (D := D) (ci := 4) (v := .ref lk) (C := RX7) (T := TX7) (N := 15) hx hb hts hinX7 hown hK hP 0 rfl rfl 8 (by decide) hfl24 (fun _ h9 => h9) rfl dX7_tryMove_148 ?_
            refine lv_iconst (v := 2) hx hb dX7_tryMove_151 (by decide) ?_
            refine va_lald hx hb hK hP 4 1 rfl rfl (vp_in_nI (n := 2) (N := 3) (by omega) (by decide)) dX7_tryMove_152 ?_
            refine pk_tl (y := (mturned x75 ((mo % 8) / 2) (mo % 2))) ((congrArg (vp_updL (vp_updL (vp_updL (vp_updL (vp_updL lo 1 (ff lv)) 2 (sf lv)) 2 x75) 1 (mturned (ff lv) ((mo % 8) / 2) (mo % 2))) 2 (mturned x75 ((mo % 8) / 2) (mo % 2))) (pk_cl 2)).trans (pk_uLs)) ?_
            refine vp_callSi (W.runS (As := [.long (mturned (ff lv) ((mo % 8) / 2) (mo % 2)), .long (mturned x75 ((mo % 8) / 2) (mo % 2))]) (rest := []) ⟨hx, hb, hml, hown, hts⟩ (c_X7_judge l (mturned (ff lv) ((mo % 8) / 2) (mo % 2)) (mturned x75 ((mo % 8) / 2) (mo % 2))) (va_cwS 2 hts gX7_tryMove_X7_judge rfl rfl rfl (by decide +kernel) ⟨Nat.le_of_ble_eq_true rfl, Nat.le_of_ble_eq_true rfl⟩) ⟨px_blind0, fun U hU hW => ⟨rfl, trivial⟩⟩ rfl rfl hl.1 rfl (lv_room (Nat.le_of_ble_eq_true rfl)) dX7_tryMove_153 ⟨(Nat.le_of_ble_eq_true rfl), (Nat.le_of_ble_eq_true rfl)⟩) (fun r153 er153 => ?_)
            obtain rfl := er153.symm
            obtain rfl := ex48.symm; obtain rfl := ex74.symm; obtain rfl := ex75.symm
            refine W.iret (v := (mjudge (mturned (ff lv) ((mo % 8) / 2) (mo % 2)) (mturned ((sf lv) ||| (jshl 1 (nI (mo / 8)))) ((mo % 8) / 2) (mo % 2)))) hx hb hr (fun tt ht hW => ⟨⟨(mjudge (mturned (ff lv) ((mo % 8) / 2) (mo % 2)) (mturned ((sf lv) ||| (jshl 1 (nI (mo / 8)))) ((mo % 8) / 2) (mo % 2))), (vp_updL (vp_updL (vp_updL (vp_updL (vp_updL lo 1 (ff lv)) 2 (sf lv)) 2 ((sf lv) ||| (jshl 1 (nI (mo / 8))))) 1 (mturned (ff lv) ((mo % 8) / 2) (mo % 2))) 2 (mturned ((sf lv) ||| (jshl 1 (nI (mo / 8)))) ((mo % 8) / 2) (mo % 2))), rfl, ?_, by rw [ht]; exact hP, va_K.moved hW.alike hK, hD⟩, hS.F ht⟩) hS.2.2 dX7_tryMove_156
            first | exact Or.inl ⟨b53, rfl⟩ | exact Or.inr (Or.inl ⟨b53, b84, rfl⟩) | exact Or.inr (Or.inr ⟨b53, b84, rfl, ((pk_uLn (by decide)).trans (pk_uLs)), (pk_uLs)⟩)
          · exact absurd c87 (by decide)
      · exact absurd c56 (by decide)
