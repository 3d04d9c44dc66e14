theorem law_lim {L i : Nat} (hL : L ≤ 2560) (hi : i ≤ 2570) : (Int32.ofNat L - 5 < nI i) ↔ L < i + 5 := by
  have e : (nI L - nI 5).toInt = (L : Int) - 5 := pk_sub_toInt (a := L) (b := 5) (by omega) (by omega)
  have e2 : (Int32.ofNat L - 5).toInt = (L : Int) - 5 := e
  rw [Int32.lt_iff_toInt_lt, e2, nI_toInt (by omega)]; omega
set_option maxHeartbeats 4000000 in
set_option maxRecDepth 100000 in
/-- THE LAW'S LOOP: at its head, with i ints read -/
theorem law_loop {p : Program} {l : Launch} {e : Env} {s : State} {m : MethodId} {below : List Frame} {meth : Method} {c : Code} {A : Nat → Prop} {D : va_G} {cI cJ : ClassId} {b L : Nat} {xs : Nat → Int32} {QQ : State → Prop} (C0 : LC p l s m c A D cI cJ b L xs) {xo lg lc lt fs ps vt vf vv ob mo ow cl tu lk f1 s2 ms nx bs : Nat} (hL : L ≤ 2560) (kx : ∀ (H : Heap) (locs : List Loc) (ls : Array Slot) (cc nn : Nat), cc ≤ 601024 → nn ≤ 7293034 → va_S A s.heap H locs → W p l e room_1 s m #[Value.ref b] below meth c H locs cc nn QQ (F0 m 1197 ls [.int 1])) : ∀ n i cc nn : Nat, L < i + 5 * n → i ≤ 2565 → cc + 3 * n ≤ 601024 → nn + 18 * n ≤ 7293034 → KK p l e s m below meth c A D cI cJ b QQ xo lg lc lt fs ps vt vf vv ob mo ow cl tu lk f1 s2 ms nx bs 23 i cc nn := by
  obtain ⟨hx, hb, hml, hown, hts, hX, hbl, hbA, hK, hA, hNC, hEN, hEX, hZ, hltr⟩ := id C0
  intro n
  induction n with
  | zero =>
    intro i cc nn h1 h2 h3 h4 fa fb mt re k cs ts fm vl ov th mt2 re2 fd w k2 fo lo ff sf cs2 ts2 mm nf bf H locs ls emt ere ek hR hT hP hD hS hl
    refine lv_iload hx hb dL_law_23 (lv_at hl 0 rfl) ?_
    refine lv_aload_n hx hb dL_law_25 rfl (lv_at hl 4 rfl) ?_
    refine va_slen hx hb hX hbl hbA hS dL_law_26 ?_
    refine lv_iconst (v := 5) hx hb dL_law_27 (by decide) ?_
    refine lv_isub hx hb dL_law_28 ?_
    refine lv_icmp_gt (tgt := 1196) hx hb dL_law_29 (by decide) (fun c29 => ?_) (fun c29 => ?_)
    · refine lv_iconst (v := 1) hx hb dL_law_1196 (by decide) ?_
      exact kx H locs ls cc nn (by omega) (by omega) hS
    · exact absurd ((law_lim hL (by omega)).mpr (by omega)) c29
  | succ n ih =>
    intro i cc nn h1 h2 h3 h4 fa fb mt re k cs ts fm vl ov th mt2 re2 fd w k2 fo lo ff sf cs2 ts2 mm nf bf H locs ls emt ere ek hR hT hP hD hS hl
    rw [emt, ere, ek] at hP hD
    refine lv_iload hx hb dL_law_23 (lv_at hl 0 rfl) ?_
    refine lv_aload_n hx hb dL_law_25 rfl (lv_at hl 4 rfl) ?_
    refine va_slen hx hb hX hbl hbA hS dL_law_26 ?_
    refine lv_iconst (v := 5) hx hb dL_law_27 (by decide) ?_
    refine lv_isub hx hb dL_law_28 ?_
    refine lv_icmp_gt (tgt := 1196) hx hb dL_law_29 (by decide) (fun c29 => ?_) (fun c29 => ?_)
    · refine lv_iconst (v := 1) hx hb dL_law_1196 (by decide) ?_
      exact kx H locs ls cc nn (by omega) (by omega) hS
    · have hi5 : i + 5 ≤ L := by
        rcases Nat.lt_or_ge L (i + 5) with h | h
        · exact absurd ((law_lim hL (by omega)).mpr h) c29
        · exact h
      have kk : KK p l e s m below meth c A D cI cJ b QQ xo lg lc lt fs ps vt vf vv ob mo ow cl tu lk f1 s2 ms nx bs 1190 i (cc + 3) (nn + 18) := by
        intro fa fb mt re k cs ts fm vl ov th mt2 re2 fd w k2 fo lo ff sf cs2 ts2 mm nf bf H locs ls emt ere ek hR hT hP hD hS hl
        refine lv_iinc (v := nI (i + 5)) (lv' := [(4, .int (nI (i + 5))), (3, .ref ob), (2, .ref mo), (1, .ref xo), (0, .ref b)]) hx hb dL_law_1190 hl (k := 0) rfl (nI_add i 5) (by decide) rfl (fun ls hl => ?_)
        refine lv_goto (tgt := 23) hx hb dL_law_1193 (by decide) ?_
        exact ih (i + 5) (cc + 3) (nn + 18) (by omega) (by omega) (by omega) (by omega) fa fb mt re k cs ts fm vl ov th mt2 re2 fd w k2 fo lo ff sf cs2 ts2 mm nf bf H locs ls emt ere ek hR hT hP hD hS hl
      refine lv_aload_n hx hb dL_law_32 rfl (lv_at hl 4 rfl) ?_
      refine lv_iload hx hb dL_law_33 (lv_at hl 0 rfl) ?_
      refine va_sld hx hb hX hbl hbA hS (vp_in_nI (n := i) (N := L) (by omega) (by omega)) dL_law_35 ?_
      refine pk_ti (y := xs i) (congrArg xs (pk_cl i)) ?_
      refine lv_bipush (v := 31) hx hb dL_law_36 (by decide) ?_
      refine lv_iand hx hb dL_law_38 ?_
      obtain ⟨q, hq, eq⟩ := pk_andE (xs i) (m := 31) 5 rfl
      refine pk_ti (y := nI q) eq ?_
      rcases (show q = 0 ∨ q = 1 ∨ q = 2 ∨ q = 3 ∨ q = 4 ∨ q = 5 ∨ q = 6 ∨ q = 7 ∨ q = 8 ∨ q = 9 ∨ q = 10 ∨ q = 11 ∨ q = 12 ∨ q = 13 ∨ q = 14 ∨ q = 15 ∨ q = 16 ∨ q = 17 ∨ q = 18 ∨ q = 19 ∨ q = 20 ∨ q = 21 ∨ q = 22 ∨ 22 < q by omega) with rfl | rfl | rfl | rfl | rfl | rfl | rfl | rfl | rfl | rfl | rfl | rfl | rfl | rfl | rfl | rfl | rfl | rfl | rfl | rfl | rfl | rfl | rfl | hq22
      · refine lv_tableIn (off := 105) (tgt := 144) hx hb dL_law_39 (by decide) (by decide) rfl (by decide) ?_
        exact lc_put C0 hL hi5 (by omega) (by omega) hR hT hP hD hS hl kk
      · refine lv_tableIn (off := 161) (tgt := 200) hx hb dL_law_39 (by decide) (by decide) rfl (by decide) ?_
        exact lc_turn C0 hL hi5 (by omega) (by omega) hR hT hP hD hS hl kk
      · refine lv_tableIn (off := 229) (tgt := 268) hx hb dL_law_39 (by decide) (by decide) rfl (by decide) ?_
        exact lc_undo C0 hL hi5 (by omega) (by omega) hR hT hP hD hS hl kk
      · refine lv_tableIn (off := 280) (tgt := 319) hx hb dL_law_39 (by decide) (by decide) rfl (by decide) ?_
        exact lc_lay C0 hL hi5 (by omega) (by omega) hR hT hP hD hS hl kk
      · refine lv_tableIn (off := 412) (tgt := 451) hx hb dL_law_39 (by decide) (by decide) rfl (by decide) ?_
        exact lc_result C0 hL hi5 (by omega) (by omega) hR hT hP hD hS hl kk
      · refine lv_tableIn (off := 425) (tgt := 464) hx hb dL_law_39 (by decide) (by decide) rfl (by decide) ?_
        exact lc_mover C0 hL hi5 (by omega) (by omega) hR hT hP hD hS hl kk
      · refine lv_tableIn (off := 438) (tgt := 477) hx hb dL_law_39 (by decide) (by decide) rfl (by decide) ?_
        exact lc_mustTurn C0 hL hi5 (by omega) (by omega) hR hT hP hD hS hl kk
      · refine lv_tableIn (off := 451) (tgt := 490) hx hb dL_law_39 (by decide) (by decide) rfl (by decide) ?_
        exact lc_at C0 hL hi5 (by omega) (by omega) hR hT hP hD hS hl kk
      · refine lv_tableIn (off := 507) (tgt := 546) hx hb dL_law_39 (by decide) (by decide) rfl (by decide) ?_
        exact lc_marbles C0 hL hi5 (by omega) (by omega) hR hT hP hD hS hl kk
      · refine lv_tableIn (off := 520) (tgt := 559) hx hb dL_law_39 (by decide) (by decide) rfl (by decide) ?_
        exact lc_share C0 hL hi5 (by omega) (by omega) hR hT hP hD hS hl kk
      · refine lv_tableIn (off := 563) (tgt := 602) hx hb dL_law_39 (by decide) (by decide) rfl (by decide) ?_
        exact lc_moves C0 hL hi5 (by omega) (by omega) hR hT hP hD hS hl kk
      · refine lv_tableIn (off := 576) (tgt := 615) hx hb dL_law_39 (by decide) (by decide) rfl (by decide) ?_
        exact lc_len C0 hL hi5 (by omega) (by omega) hR hT hP hD hS hl kk
      · refine lv_tableIn (off := 632) (tgt := 671) hx hb dL_law_39 (by decide) (by decide) rfl (by decide) ?_
        exact lc_txt C0 hL hi5 (by omega) (by omega) hR hT hP hD hS hl kk
      · refine lv_tableIn (off := 700) (tgt := 739) hx hb dL_law_39 (by decide) (by decide) rfl (by decide) ?_
        exact lc_lines C0 hL hi5 (by omega) (by omega) hR hT hP hD hS hl kk
      · refine lv_tableIn (off := 756) (tgt := 795) hx hb dL_law_39 (by decide) (by decide) rfl (by decide) ?_
        exact lc_fours C0 hL hi5 (by omega) (by omega) hR hT hP hD hS hl kk
      · refine lv_tableIn (off := 812) (tgt := 851) hx hb dL_law_39 (by decide) (by decide) rfl (by decide) ?_
        exact lc_fb C0 hL hi5 (by omega) (by omega) hR hT hP hD hS hl kk
      · refine lv_tableIn (off := 892) (tgt := 931) hx hb dL_law_39 (by decide) (by decide) rfl (by decide) ?_
        exact lc_form C0 hL hi5 (by omega) (by omega) hR hT hP hD hS hl kk
      · refine lv_tableIn (off := 906) (tgt := 945) hx hb dL_law_39 (by decide) (by decide) rfl (by decide) ?_
        exact lc_symm C0 hL hi5 (by omega) (by omega) hR hT hP hD hS hl kk
      · refine lv_tableIn (off := 919) (tgt := 958) hx hb dL_law_39 (by decide) (by decide) rfl (by decide) ?_
        exact lc_wc C0 hL hi5 (by omega) (by omega) hR hT hP hD hS hl kk
      · refine lv_tableIn (off := 963) (tgt := 1002) hx hb dL_law_39 (by decide) (by decide) rfl (by decide) ?_
        exact lc_wt C0 hL hi5 (by omega) (by omega) hR hT hP hD hS hl kk
      · refine lv_tableIn (off := 1019) (tgt := 1058) hx hb dL_law_39 (by decide) (by decide) rfl (by decide) ?_
        exact lc_value C0 hL hi5 (by omega) (by omega) hR hT hP hD hS hl kk
      · refine lv_tableIn (off := 1063) (tgt := 1102) hx hb dL_law_39 (by decide) (by decide) rfl (by decide) ?_
        exact lc_valueOnBoards C0 hL hi5 (by omega) (by omega) hR hT hP hD hS hl kk
      · refine lv_tableIn (off := 1107) (tgt := 1146) hx hb dL_law_39 (by decide) (by decide) rfl (by decide) ?_
        exact lc_bestMove C0 hL hi5 (by omega) (by omega) hR hT hP hD hS hl kk
      · refine lv_tableOut (tgt := 1190) hx hb dL_law_39 (Or.inr (by rw [nI_toInt (by omega)]; omega)) (by decide) ?_
        refine W.widen (k := cc + 3) (n := nn + 18) (by omega) (by omega) ?_
        exact kk fa fb mt re k cs ts fm vl ov th mt re fd w k fo lo ff sf cs2 ts2 mm nf bf H locs ls rfl rfl rfl hR hT hP hD hS hl
