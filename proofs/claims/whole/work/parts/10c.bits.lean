def jbits (a : Int64) : Int32 :=
  let x3 : Int64 := jushr a 1
  let x7 : Int64 := x3 &&& 6148914691236517205
  let x8 : Int64 := a - x7
  let x14 : Int64 := x8 &&& 3689348814741910323
  let x17 : Int64 := jushr x8 2
  let x21 : Int64 := x17 &&& 3689348814741910323
  let x22 : Int64 := x14 + x21
  let x27 : Int64 := jushr x22 4
  let x28 : Int64 := x22 + x27
  let x32 : Int64 := x28 &&& 1085102592571150095
  let x38 : Int64 := jushr x32 8
  let x39 : Int64 := x32 + x38
  let x45 : Int64 := jushr x39 16
  let x46 : Int64 := x39 + x45
  let x52 : Int64 := jushr x46 32
  let x53 : Int64 := x46 + x52
  let x56 : Int32 := (x53).toInt32
  let x59 : Int32 := x56 &&& 127
  x59
/-! Long.bitCount -/
theorem jand_split {x y r c : Nat} (hr : r < 256) (hc : c < 256) : (256 * x + r) &&& (256 * y + c) = 256 * (x &&& y) + (r &&& c) := by
  have h1 : ((256 * x + r) &&& (256 * y + c)) / 2 ^ 8 = x &&& y := by
    rw [Nat.and_div_two_pow, show (256 * x + r) / 2 ^ 8 = x by omega, show (256 * y + c) / 2 ^ 8 = y by omega]
  have h2 : ((256 * x + r) &&& (256 * y + c)) % 2 ^ 8 = r &&& c := by
    rw [Nat.and_mod_two_pow, show (256 * x + r) % 2 ^ 8 = r by omega, show (256 * y + c) % 2 ^ 8 = c by omega]
  have h3 := Nat.div_add_mod ((256 * x + r) &&& (256 * y + c)) (2 ^ 8)
  rw [h1, h2] at h3
  exact h3.symm
def mskN (c : Nat) : Nat → Nat
  | 0 => 0
  | k + 1 => 256 * mskN c k + c
def jb1 (r : Nat) : Nat := r - ((r / 2) &&& 85)
def jb2 (s : Nat) : Nat := (s &&& 51) + ((s / 4) &&& 51)
def pcn (n N : Nat) : Nat := sumL (fun i => bi (N.testBit i)) (List.range n)
theorem jt1 : ∀ r, r < 256 → ∀ c, c < 2 → (128 * c + r / 2) &&& 85 = (r / 2) &&& 85 := by decide +kernel
theorem jt1l : ∀ r, r < 256 → ((r / 2) &&& 85) ≤ r ∧ jb1 r < 256 := by decide +kernel
theorem jt2 : ∀ r, r < 256 → ∀ c, c < 4 → (64 * c + jb1 r / 4) &&& 51 = (jb1 r / 4) &&& 51 := by decide +kernel
theorem jt3 : ∀ r, r < 256 → jb2 (jb1 r) % 16 ≤ 4 ∧ jb2 (jb1 r) < 256 := by decide +kernel
theorem jt4 : ∀ r, r < 256 → ∀ c, c < 5 → (jb2 (jb1 r) + jb2 (jb1 r) / 16 + 16 * c) &&& 15 = pcn 8 r ∧ jb2 (jb1 r) + jb2 (jb1 r) / 16 + 16 * c < 256 := by decide +kernel
theorem pc8 : ∀ r, r < 256 → pcn 8 r ≤ 8 := by decide +kernel
def jX8 (k N : Nat) : Nat := N - ((N / 2) &&& mskN 85 k)
def jX22 (k N : Nat) : Nat := (jX8 k N &&& mskN 51 k) + ((jX8 k N / 4) &&& mskN 51 k)
def jX32 (k N : Nat) : Nat := (jX22 k N + jX22 k N / 16) &&& mskN 15 k
theorem jX8_s {k N r : Nat} (hr : r < 256) : jX8 (k + 1) (256 * N + r) = 256 * jX8 k N + jb1 r := by
  have e : (256 * N + r) / 2 = 256 * (N / 2) + (128 * (N % 2) + r / 2) := by omega
  have a1 : (256 * N + r) / 2 &&& mskN 85 (k + 1) = 256 * (N / 2 &&& mskN 85 k) + (r / 2 &&& 85) := by
    rw [e]
    show (256 * (N / 2) + (128 * (N % 2) + r / 2)) &&& (256 * mskN 85 k + 85) = _
    rw [jand_split (r := 128 * (N % 2) + r / 2) (c := 85) (by omega) (by omega), jt1 r hr (N % 2) (by omega)]
  have h2 : N / 2 &&& mskN 85 k ≤ N / 2 := Nat.and_le_left
  have h3 := (jt1l r hr).1
  unfold jX8 jb1
  rw [a1]
  generalize N / 2 &&& mskN 85 k = u at *
  generalize r / 2 &&& 85 = v at *
  omega
theorem jX22_s {k N r : Nat} (hr : r < 256) : jX22 (k + 1) (256 * N + r) = 256 * jX22 k N + jb2 (jb1 r) := by
  have hs := (jt1l r hr).2
  have ht := jt2 r hr (jX8 k N % 4) (by omega)
  unfold jX22
  rw [jX8_s hr]
  unfold jb2
  generalize jX8 k N = X at *
  generalize jb1 r = s at *
  have e : (256 * X + s) / 4 = 256 * (X / 4) + (64 * (X % 4) + s / 4) := by omega
  rw [e]
  show ((256 * X + s) &&& (256 * mskN 51 k + 51)) + ((256 * (X / 4) + (64 * (X % 4) + s / 4)) &&& (256 * mskN 51 k + 51)) = _
  rw [jand_split (r := s) (c := 51) hs (by omega), jand_split (r := 64 * (X % 4) + s / 4) (c := 51) (by omega) (by omega), ht]
  generalize X &&& mskN 51 k = u
  generalize X / 4 &&& mskN 51 k = v
  generalize s &&& 51 = y
  generalize s / 4 &&& 51 = z
  omega
theorem jX22_m (k N : Nat) : jX22 k N % 16 ≤ 4 := by
  cases k with
  | zero =>
    have : jX22 0 N = 0 := by
      show (jX8 0 N &&& 0) + ((jX8 0 N / 4) &&& 0) = 0
      rw [Nat.and_zero, Nat.and_zero]
    rw [this]; decide
  | succ k =>
    have h := jX22_s (k := k) (N := N / 256) (r := N % 256) (by omega)
    rw [show 256 * (N / 256) + N % 256 = N by omega] at h
    have h2 := (jt3 (N % 256) (by omega)).1
    rw [h]; omega
theorem jX32_s {k N r : Nat} (hr : r < 256) : jX32 (k + 1) (256 * N + r) = 256 * jX32 k N + pcn 8 r := by
  have hm := jX22_m k N
  have h4 := jt4 r hr (jX22 k N % 16) (by omega)
  unfold jX32
  rw [jX22_s hr]
  generalize jX22 k N = Y at *
  generalize jb2 (jb1 r) = u at *
  have e : 256 * Y + u + (256 * Y + u) / 16 = 256 * (Y + Y / 16) + (u + u / 16 + 16 * (Y % 16)) := by omega
  rw [e]
  show (256 * (Y + Y / 16) + (u + u / 16 + 16 * (Y % 16))) &&& (256 * mskN 15 k + 15) = _
  rw [jand_split (r := u + u / 16 + 16 * (Y % 16)) (c := 15) h4.2 (by omega), h4.1]
theorem jX32_d (k N : Nat) : jX32 (k + 1) N = 256 * jX32 k (N / 256) + pcn 8 (N % 256) := by
  have h := jX32_s (k := k) (N := N / 256) (r := N % 256) (by omega)
  rw [show 256 * (N / 256) + N % 256 = N by omega] at h; exact h
theorem jX32_0 (N : Nat) : jX32 0 N = 0 := Nat.and_zero _
theorem pcn_d (m N : Nat) : pcn (8 + m) N = pcn 8 (N % 256) + pcn m (N / 256) := by
  have e : N = 2 ^ 8 * (N / 256) + N % 256 := by omega
  have hb : N % 256 < 2 ^ 8 := by omega
  unfold pcn
  rw [List.range_add, sumL_app, sumL_map]
  have h1 : sumL (fun i => bi (N.testBit i)) (List.range 8) = sumL (fun i => bi ((N % 256).testBit i)) (List.range 8) := sumL_cong _ (fun i hi => by
    have hi := List.mem_range.mp hi
    show bi _ = bi _
    have h := Nat.testBit_two_pow_mul_add (N / 256) hb i
    rw [← e, if_pos hi] at h
    rw [h])
  have h2 : sumL (fun x => bi (N.testBit (8 + x))) (List.range m) = sumL (fun i => bi ((N / 256).testBit i)) (List.range m) := sumL_cong _ (fun i hi => by
    show bi _ = bi _
    have h := Nat.testBit_two_pow_mul_add (N / 256) hb (8 + i)
    rw [← e, if_neg (by omega), show 8 + i - 8 = i by omega] at h
    rw [h])
  rw [h1]
  exact congrArg (_ + ·) h2
theorem jX32_8 (N : Nat) (hN : N < 2 ^ 64) : ∃ c0 c1 c2 c3 c4 c5 c6 c7 : Nat, (c0 ≤ 8 ∧ c1 ≤ 8 ∧ c2 ≤ 8 ∧ c3 ≤ 8 ∧ c4 ≤ 8 ∧ c5 ≤ 8 ∧ c6 ≤ 8 ∧ c7 ≤ 8) ∧ jX32 8 N = c0 + 256 * c1 + 65536 * c2 + 16777216 * c3 + 4294967296 * c4 + 1099511627776 * c5 + 281474976710656 * c6 + 72057594037927936 * c7 ∧ pcn 64 N = c0 + c1 + c2 + c3 + c4 + c5 + c6 + c7 := by
  have b : ∀ M, pcn 8 (M % 256) ≤ 8 := fun M => pc8 (M % 256) (by omega)
  refine ⟨_, _, _, _, _, _, _, _, ⟨b N, b (N / 256), b (N / 256 / 256), b (N / 256 / 256 / 256), b (N / 256 / 256 / 256 / 256), b (N / 256 / 256 / 256 / 256 / 256), b (N / 256 / 256 / 256 / 256 / 256 / 256), b (N / 256 / 256 / 256 / 256 / 256 / 256 / 256)⟩, ?_, ?_⟩
  · rw [jX32_d, jX32_d, jX32_d, jX32_d, jX32_d, jX32_d, jX32_d, jX32_d, jX32_0]; omega
  · rw [show pcn 64 N = pcn (8 + 56) N from rfl, pcn_d, show ∀ M, pcn 56 M = pcn (8 + 48) M from fun _ => rfl, pcn_d, show ∀ M, pcn 48 M = pcn (8 + 40) M from fun _ => rfl, pcn_d, show ∀ M, pcn 40 M = pcn (8 + 32) M from fun _ => rfl, pcn_d, show ∀ M, pcn 32 M = pcn (8 + 24) M from fun _ => rfl, pcn_d, show ∀ M, pcn 24 M = pcn (8 + 16) M from fun _ => rfl, pcn_d, show ∀ M, pcn 16 M = pcn (8 + 8) M from fun _ => rfl, pcn_d]
    have h8 := pcn_d 0 (N / 256 / 256 / 256 / 256 / 256 / 256 / 256)
    have h0 : pcn 0 (N / 256 / 256 / 256 / 256 / 256 / 256 / 256 / 256) = 0 := rfl
    have h9 : pcn (8 + 0) (N / 256 / 256 / 256 / 256 / 256 / 256 / 256) = pcn 8 (N / 256 / 256 / 256 / 256 / 256 / 256 / 256) := rfl
    omega
theorem jand_L (a b : Nat) : lN a &&& lN b = lN (a &&& b) := by
  apply Int64.toBitVec_inj.mp
  rw [Int64.toBitVec_and, lN_bv, lN_bv, lN_bv, BitVec.ofNat_and]
theorem jush_L {X : Nat} (hX : X < 2 ^ 64) {k : Nat} (hk : k < 64) : jushr (lN X) (nI k) = lN (X / 2 ^ k) := by
  have hd : X / 2 ^ k ≤ X := Nat.div_le_self _ _
  apply Int64.toBitVec_inj.mp
  show ((lN X).toUInt64 >>> ((nI k).toInt64.toUInt64 &&& Int64.toUInt64 63)).toBitVec = _
  rw [UInt64.toBitVec_shiftRight]
  show (lN X).toBitVec >>> (((nI k).toInt64.toUInt64 &&& Int64.toUInt64 63).toBitVec % 64).toNat = _
  rw [bt_cu k hk]
  apply BitVec.eq_of_toNat_eq
  rw [BitVec.toNat_ushiftRight, lN_nat hX, lN_nat (n := X / 2 ^ k) (by omega), Nat.shiftRight_eq_div_pow]
def js1 (a : Int64) : Int64 := a - (jushr a 1 &&& 6148914691236517205)
def js2 (x : Int64) : Int64 := (x &&& 3689348814741910323) + (jushr x 2 &&& 3689348814741910323)
def js3 (x : Int64) : Int64 := (x + jushr x 4) &&& 1085102592571150095
def js4 (x : Int64) : Int64 := x + jushr x 8
def js5 (x : Int64) : Int64 := x + jushr x 16
def js6 (x : Int64) : Int64 := x + jushr x 32
theorem jbits_s (a : Int64) : jbits a = (js6 (js5 (js4 (js3 (js2 (js1 a)))))).toInt32 &&& 127 := rfl
theorem jX8_le (k N : Nat) : jX8 k N ≤ N := Nat.sub_le _ _
theorem js1_L {N : Nat} (hN : N < 2 ^ 64) : js1 (lN N) = lN (jX8 8 N) := by
  have hm : (6148914691236517205 : Int64) = lN (mskN 85 8) := by rw [show mskN 85 8 = 6148914691236517205 by decide +kernel]; rfl
  have h1 : jushr (lN N) 1 = lN (N / 2) := jush_L hN (k := 1) (by decide)
  have h2 : N / 2 &&& mskN 85 8 ≤ N / 2 := Nat.and_le_left
  unfold js1 jX8
  rw [h1, hm, jand_L, lN_sub (by omega)]
theorem jX22_le (N : Nat) : jX22 8 N ≤ 2 * 3689348814741910323 := by
  have h1 : jX8 8 N &&& mskN 51 8 ≤ mskN 51 8 := Nat.and_le_right
  have h2 : (jX8 8 N / 4) &&& mskN 51 8 ≤ mskN 51 8 := Nat.and_le_right
  have e : mskN 51 8 = 3689348814741910323 := by decide +kernel
  show (jX8 8 N &&& mskN 51 8) + ((jX8 8 N / 4) &&& mskN 51 8) ≤ _
  omega
theorem js2_L {N : Nat} (hN : N < 2 ^ 64) : js2 (lN (jX8 8 N)) = lN (jX22 8 N) := by
  have hm : (3689348814741910323 : Int64) = lN (mskN 51 8) := by rw [show mskN 51 8 = 3689348814741910323 by decide +kernel]; rfl
  have hl := jX8_le 8 N
  have h1 : jushr (lN (jX8 8 N)) 2 = lN (jX8 8 N / 4) := jush_L (by omega) (k := 2) (by decide)
  unfold js2 jX22
  rw [h1, hm, jand_L, jand_L, lN_add]
theorem js3_L (N : Nat) : js3 (lN (jX22 8 N)) = lN (jX32 8 N) := by
  have hm : (1085102592571150095 : Int64) = lN (mskN 15 8) := by rw [show mskN 15 8 = 1085102592571150095 by decide +kernel]; rfl
  have hl := jX22_le N
  have h1 : jushr (lN (jX22 8 N)) 4 = lN (jX22 8 N / 16) := jush_L (by omega) (k := 4) (by decide)
  unfold js3 jX32
  rw [h1, hm, lN_add, jand_L]
theorem nI_bits (M : Nat) : (nI M).toBitVec.toNat = M % 2 ^ 32 := BitVec.toNat_ofNat _ _
theorem jbits_nat {N : Nat} (hN : N < 2 ^ 64) : jbits (lN N) = nI (pcn 64 N) := by
  rw [jbits_s, js1_L hN, js2_L hN, js3_L]
  obtain ⟨c0, c1, c2, c3, c4, c5, c6, c7, ⟨b0, b1, b2, b3, b4, b5, b6, b7⟩, e, ep⟩ := jX32_8 N hN
  rw [e, ep]
  have q1 : (c0 + 256 * c1 + 65536 * c2 + 16777216 * c3 + 4294967296 * c4 + 1099511627776 * c5 + 281474976710656 * c6 + 72057594037927936 * c7) / 2 ^ 8 = c1 + 256 * c2 + 65536 * c3 + 16777216 * c4 + 4294967296 * c5 + 1099511627776 * c6 + 281474976710656 * c7 := by omega
  have r4 : js4 (lN (c0 + 256 * c1 + 65536 * c2 + 16777216 * c3 + 4294967296 * c4 + 1099511627776 * c5 + 281474976710656 * c6 + 72057594037927936 * c7)) = lN ((c0 + c1) + 256 * (c1 + c2) + 65536 * (c2 + c3) + 16777216 * (c3 + c4) + 4294967296 * (c4 + c5) + 1099511627776 * (c5 + c6) + 281474976710656 * (c6 + c7) + 72057594037927936 * c7) := by
    have h := jush_L (X := c0 + 256 * c1 + 65536 * c2 + 16777216 * c3 + 4294967296 * c4 + 1099511627776 * c5 + 281474976710656 * c6 + 72057594037927936 * c7) (by omega) (k := 8) (by decide)
    rw [q1] at h
    show lN _ + jushr (lN _) (nI 8) = _
    rw [h, lN_add]
    exact congrArg lN (by omega)
  rw [r4]
  generalize e0 : c0 + c1 = d0
  generalize e1 : c1 + c2 = d1
  generalize e2 : c2 + c3 = d2
  generalize e3 : c3 + c4 = d3
  generalize e4 : c4 + c5 = d4
  generalize e5 : c5 + c6 = d5
  generalize e6 : c6 + c7 = d6
  have q2 : (d0 + 256 * d1 + 65536 * d2 + 16777216 * d3 + 4294967296 * d4 + 1099511627776 * d5 + 281474976710656 * d6 + 72057594037927936 * c7) / 2 ^ 16 = d2 + 256 * d3 + 65536 * d4 + 16777216 * d5 + 4294967296 * d6 + 1099511627776 * c7 := by omega
  have r5 : js5 (lN (d0 + 256 * d1 + 65536 * d2 + 16777216 * d3 + 4294967296 * d4 + 1099511627776 * d5 + 281474976710656 * d6 + 72057594037927936 * c7)) = lN ((d0 + d2) + 256 * (d1 + d3) + 65536 * (d2 + d4) + 16777216 * (d3 + d5) + 4294967296 * (d4 + d6) + 1099511627776 * (d5 + c7) + 281474976710656 * d6 + 72057594037927936 * c7) := by
    have h := jush_L (X := d0 + 256 * d1 + 65536 * d2 + 16777216 * d3 + 4294967296 * d4 + 1099511627776 * d5 + 281474976710656 * d6 + 72057594037927936 * c7) (by omega) (k := 16) (by decide)
    rw [q2] at h
    show lN _ + jushr (lN _) (nI 16) = _
    rw [h, lN_add]
    exact congrArg lN (by omega)
  rw [r5]
  generalize f0 : d0 + d2 = g0
  generalize f1 : d1 + d3 = g1
  generalize f2 : d2 + d4 = g2
  generalize f3 : d3 + d5 = g3
  generalize f4 : d4 + d6 = g4
  generalize f5 : d5 + c7 = g5
  have q3 : (g0 + 256 * g1 + 65536 * g2 + 16777216 * g3 + 4294967296 * g4 + 1099511627776 * g5 + 281474976710656 * d6 + 72057594037927936 * c7) / 2 ^ 32 = g4 + 256 * g5 + 65536 * d6 + 16777216 * c7 := by omega
  have r6 : js6 (lN (g0 + 256 * g1 + 65536 * g2 + 16777216 * g3 + 4294967296 * g4 + 1099511627776 * g5 + 281474976710656 * d6 + 72057594037927936 * c7)) = lN ((g0 + 256 * g1 + 65536 * g2 + 16777216 * g3 + 4294967296 * g4 + 1099511627776 * g5 + 281474976710656 * d6 + 72057594037927936 * c7) + (g4 + 256 * g5 + 65536 * d6 + 16777216 * c7)) := by
    have h := jush_L (X := g0 + 256 * g1 + 65536 * g2 + 16777216 * g3 + 4294967296 * g4 + 1099511627776 * g5 + 281474976710656 * d6 + 72057594037927936 * c7) (by omega) (k := 32) (by decide)
    rw [q3] at h
    show lN _ + jushr (lN _) (nI 32) = _
    rw [h, lN_add]
  rw [r6, lN_i, pk_and _ 7 rfl, nI_bits]
  exact congrArg nI (by omega)
theorem pop_pcn (a : Int64) : pop a = pcn 64 a.toBitVec.toNat := msize_sum a 64
theorem jbits_pop (a : Int64) : jbits a = nI (pop a) := by
  have e : a = lN a.toBitVec.toNat := Int64.toBitVec_inj.mp (by rw [lN_bv, BitVec.ofNat_toNat, BitVec.setWidth_eq])
  rw [pop_pcn, ← jbits_nat a.toBitVec.isLt, ← e]
