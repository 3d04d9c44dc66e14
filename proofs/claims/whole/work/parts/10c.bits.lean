def jbits (a : Int64) : Int32 :=
  let x3 : Int64 := jushr a 1
  let x7 : Int64 := x3 &&& 6148914691236517205
  let x8 : Int64 := a - x7
  let x14 : Int64 := x8 &&& 3689348814741910323
  let x17 : Int64 := jushr x8 2
  let x21 : Int64 := x17 &&& 3689348814741910323
  let x22 : Int64 := x14 + x21
  let x27 : Int64 := jushr x22 4
  let x28 : Int64 := x22 + x27
  let x32 : Int64 := x28 &&& 1085102592571150095
  let x38 : Int64 := jushr x32 8
  let x39 : Int64 := x32 + x38
  let x45 : Int64 := jushr x39 16
  let x46 : Int64 := x39 + x45
  let x52 : Int64 := jushr x46 32
  let x53 : Int64 := x46 + x52
  let x56 : Int32 := (x53).toInt32
  let x59 : Int32 := x56 &&& 127
  x59
/-! Long.bitCount -/
theorem jand_split {x y r c : Nat} (hr : r < 256) (hc : c < 256) : (256 * x + r) &&& (256 * y + c) = 256 * (x &&& y) + (r &&& c) := by
  have h1 : ((256 * x + r) &&& (256 * y + c)) / 2 ^ 8 = x &&& y := by
    rw [Nat.and_div_two_pow, show (256 * x + r) / 2 ^ 8 = x by omega, show (256 * y + c) / 2 ^ 8 = y by omega]
  have h2 : ((256 * x + r) &&& (256 * y + c)) % 2 ^ 8 = r &&& c := by
    rw [Nat.and_mod_two_pow, show (256 * x + r) % 2 ^ 8 = r by omega, show (256 * y + c) % 2 ^ 8 = c by omega]
  have h3 := Nat.div_add_mod ((256 * x + r) &&& (256 * y + c)) (2 ^ 8)
  rw [h1, h2] at h3
  exact h3.symm
def mskN (c : Nat) : Nat → Nat
  | 0 => 0
  | k + 1 => 256 * mskN c k + c
def jb1 (r : Nat) : Nat := r - ((r / 2) &&& 85)
def jb2 (s : Nat) : Nat := (s &&& 51) + ((s / 4) &&& 51)
def pcn (n N : Nat) : Nat := sumL (fun i => bi (N.testBit i)) (List.range n)
theorem jt1 : ∀ r, r < 256 → ∀ c, c < 2 → (128 * c + r / 2) &&& 85 = (r / 2) &&& 85 := by decide +kernel
theorem jt1l : ∀ r, r < 256 → ((r / 2) &&& 85) ≤ r ∧ jb1 r < 256 := by decide +kernel
theorem jt2 : ∀ r, r < 256 → ∀ c, c < 4 → (64 * c + jb1 r / 4) &&& 51 = (jb1 r / 4) &&& 51 := by decide +kernel
theorem jt3 : ∀ r, r < 256 → jb2 (jb1 r) % 16 ≤ 4 ∧ jb2 (jb1 r) < 256 := by decide +kernel
theorem jt4 : ∀ r, r < 256 → ∀ c, c < 5 → (jb2 (jb1 r) + jb2 (jb1 r) / 16 + 16 * c) &&& 15 = pcn 8 r ∧ jb2 (jb1 r) + jb2 (jb1 r) / 16 + 16 * c < 256 := by decide +kernel
theorem pc8 : ∀ r, r < 256 → pcn 8 r ≤ 8 := by decide +kernel
def jX8 (k N : Nat) : Nat := N - ((N / 2) &&& mskN 85 k)
def jX22 (k N : Nat) : Nat := (jX8 k N &&& mskN 51 k) + ((jX8 k N / 4) &&& mskN 51 k)
def jX32 (k N : Nat) : Nat := (jX22 k N + jX22 k N / 16) &&& mskN 15 k
theorem jX8_s {k N r : Nat} (hr : r < 256) : jX8 (k + 1) (256 * N + r) = 256 * jX8 k N + jb1 r := by
  have e : (256 * N + r) / 2 = 256 * (N / 2) + (128 * (N % 2) + r / 2) := by omega
  have a1 : (256 * N + r) / 2 &&& mskN 85 (k + 1) = 256 * (N / 2 &&& mskN 85 k) + (r / 2 &&& 85) := by
    rw [e]
    show (256 * (N / 2) + (128 * (N % 2) + r / 2)) &&& (256 * mskN 85 k + 85) = _
    rw [jand_split (r := 128 * (N % 2) + r / 2) (c := 85) (by omega) (by omega), jt1 r hr (N % 2) (by omega)]
  have h2 : N / 2 &&& mskN 85 k ≤ N / 2 := Nat.and_le_left
  have h3 := (jt1l r hr).1
  unfold jX8 jb1
  rw [a1]
  generalize N / 2 &&& mskN 85 k = u at *
  generalize r / 2 &&& 85 = v at *
  omega
theorem jX22_s {k N r : Nat} (hr : r < 256) : jX22 (k + 1) (256 * N + r) = 256 * jX22 k N + jb2 (jb1 r) := by
  have hs := (jt1l r hr).2
  have ht := jt2 r hr (jX8 k N % 4) (by omega)
  unfold jX22
  rw [jX8_s hr]
  unfold jb2
  generalize jX8 k N = X at *
  generalize jb1 r = s at *
  have e : (256 * X + s) / 4 = 256 * (X / 4) + (64 * (X % 4) + s / 4) := by omega
  rw [e]
  show ((256 * X + s) &&& (256 * mskN 51 k + 51)) + ((256 * (X / 4) + (64 * (X % 4) + s / 4)) &&& (256 * mskN 51 k + 51)) = _
  rw [jand_split (r := s) (c := 51) hs (by omega), jand_split (r := 64 * (X % 4) + s / 4) (c := 51) (by omega) (by omega), ht]
  generalize X &&& mskN 51 k = u
  generalize X / 4 &&& mskN 51 k = v
  generalize s &&& 51 = y
  generalize s / 4 &&& 51 = z
  omega
theorem jX22_m (k N : Nat) : jX22 k N % 16 ≤ 4 := by
  cases k with
  | zero =>
    have : jX22 0 N = 0 := by
      show (jX8 0 N &&& 0) + ((jX8 0 N / 4) &&& 0) = 0
      rw [Nat.and_zero, Nat.and_zero]
    rw [this]; decide
  | succ k =>
    have h := jX22_s (k := k) (N := N / 256) (r := N % 256) (by omega)
    rw [show 256 * (N / 256) + N % 256 = N by omega] at h
    have h2 := (jt3 (N % 256) (by omega)).1
    rw [h]; omega
theorem jX32_s {k N r : Nat} (hr : r < 256) : jX32 (k + 1) (256 * N + r) = 256 * jX32 k N + pcn 8 r := by
  have hm := jX22_m k N
  have h4 := jt4 r hr (jX22 k N % 16) (by omega)
  unfold jX32
  rw [jX22_s hr]
  generalize jX22 k N = Y at *
  generalize jb2 (jb1 r) = u at *
  have e : 256 * Y + u + (256 * Y + u) / 16 = 256 * (Y + Y / 16) + (u + u / 16 + 16 * (Y % 16)) := by omega
  rw [e]
  show (256 * (Y + Y / 16) + (u + u / 16 + 16 * (Y % 16))) &&& (256 * mskN 15 k + 15) = _
  rw [jand_split (r := u + u / 16 + 16 * (Y % 16)) (c := 15) h4.2 (by omega), h4.1]
theorem jX32_d (k N : Nat) : jX32 (k + 1) N = 256 * jX32 k (N / 256) + pcn 8 (N % 256) := by
  have h := jX32_s (k := k) (N := N / 256) (r := N % 256) (by omega)
  rw [show 256 * (N / 256) + N % 256 = N by omega] at h; exact h
theorem jX32_0 (N : Nat) : jX32 0 N = 0 := Nat.and_zero _
theorem pcn_d (m N : Nat) : pcn (8 + m) N = pcn 8 (N % 256) + pcn m (N / 256) := by
  have e : N = 2 ^ 8 * (N / 256) + N % 256 := by omega
  have hb : N % 256 < 2 ^ 8 := by omega
  unfold pcn
  rw [List.range_add, sumL_app, sumL_map]
  have h1 : sumL (fun i => bi (N.testBit i)) (List.range 8) = sumL (fun i => bi ((N % 256).testBit i)) (List.range 8) := sumL_cong _ (fun i hi => by
    have hi := List.mem_range.mp hi
    show bi _ = bi _
    have h := Nat.testBit_two_pow_mul_add (N / 256) hb i
    rw [← e, if_pos hi] at h
    rw [h])
  have h2 : sumL (fun x => bi (N.testBit (8 + x))) (List.range m) = sumL (fun i => bi ((N / 256).testBit i)) (List.range m) := sumL_cong _ (fun i hi => by
    show bi _ = bi _
    have h := Nat.testBit_two_pow_mul_add (N / 256) hb (8 + i)
    rw [← e, if_neg (by omega), show 8 + i - 8 = i by omega] at h
    rw [h])
  rw [h1]
  exact congrArg (_ + ·) h2
def hz8 (c0 c1 c2 c3 c4 c5 c6 c7 : Nat) : Nat := c0 + 256 * (c1 + 256 * (c2 + 256 * (c3 + 256 * (c4 + 256 * (c5 + 256 * (c6 + 256 * c7))))))
theorem jX32_8 (N : Nat) : ∃ c0 c1 c2 c3 c4 c5 c6 c7 : Nat, (c0 ≤ 8 ∧ c1 ≤ 8 ∧ c2 ≤ 8 ∧ c3 ≤ 8 ∧ c4 ≤ 8 ∧ c5 ≤ 8 ∧ c6 ≤ 8 ∧ c7 ≤ 8) ∧ jX32 8 N = hz8 c0 c1 c2 c3 c4 c5 c6 c7 ∧ pcn 64 N = c0 + (c1 + (c2 + (c3 + (c4 + (c5 + (c6 + c7)))))) := by
  have b : ∀ M, pcn 8 (M % 256) ≤ 8 := fun M => pc8 (M % 256) (by omega)
  have e : ∀ k M, jX32 (k + 1) M = pcn 8 (M % 256) + 256 * jX32 k (M / 256) := fun k M => (jX32_d k M).trans (Nat.add_comm _ _)
  have z : ∀ M, jX32 1 M = pcn 8 (M % 256) := fun M => by rw [e 0 M, jX32_0, Nat.mul_zero, Nat.add_zero]
  have p8 : ∀ M, pcn 8 M = pcn 8 (M % 256) := fun M => pcn_d 0 M
  refine ⟨_, _, _, _, _, _, _, _, ⟨b N, b (N / 256), b (N / 256 / 256), b (N / 256 / 256 / 256), b (N / 256 / 256 / 256 / 256), b (N / 256 / 256 / 256 / 256 / 256), b (N / 256 / 256 / 256 / 256 / 256 / 256), b (N / 256 / 256 / 256 / 256 / 256 / 256 / 256)⟩, ?_, ?_⟩
  · rw [e 7, e 6, e 5, e 4, e 3, e 2, e 1, z]; rfl
  · rw [pcn_d 56, pcn_d 48, pcn_d 40, pcn_d 32, pcn_d 24, pcn_d 16, pcn_d 8, p8 (N / 256 / 256 / 256 / 256 / 256 / 256 / 256)]
theorem dv8 {c S : Nat} (h : c < 256) : (c + 256 * S) / 2 ^ 8 = S := by omega
theorem dvG {G S : Nat} (n : Nat) (h : G < 2 ^ n) : (G + 2 ^ n * S) / 2 ^ n = S := by
  rw [Nat.add_mul_div_left _ _ (Nat.two_pow_pos n), Nat.div_eq_of_lt h, Nat.zero_add]
theorem jand_L (a b : Nat) : lN a &&& lN b = lN (a &&& b) := by
  apply Int64.toBitVec_inj.mp
  rw [Int64.toBitVec_and, lN_bv, lN_bv, lN_bv, BitVec.ofNat_and]
theorem jush_L {X : Nat} (hX : X < 2 ^ 64) {k : Nat} (hk : k < 64) : jushr (lN X) (nI k) = lN (X / 2 ^ k) := by
  have hd : X / 2 ^ k ≤ X := Nat.div_le_self _ _
  apply Int64.toBitVec_inj.mp
  show ((lN X).toUInt64 >>> ((nI k).toInt64.toUInt64 &&& Int64.toUInt64 63)).toBitVec = _
  rw [UInt64.toBitVec_shiftRight]
  show (lN X).toBitVec >>> (((nI k).toInt64.toUInt64 &&& Int64.toUInt64 63).toBitVec % 64).toNat = _
  rw [bt_cu k hk]
  apply BitVec.eq_of_toNat_eq
  rw [BitVec.toNat_ushiftRight, lN_nat hX, lN_nat (n := X / 2 ^ k) (by omega), Nat.shiftRight_eq_div_pow]
def js1 (a : Int64) : Int64 := a - (jushr a 1 &&& 6148914691236517205)
def js2 (x : Int64) : Int64 := (x &&& 3689348814741910323) + (jushr x 2 &&& 3689348814741910323)
def js3 (x : Int64) : Int64 := (x + jushr x 4) &&& 1085102592571150095
def js4 (x : Int64) : Int64 := x + jushr x 8
def js5 (x : Int64) : Int64 := x + jushr x 16
def js6 (x : Int64) : Int64 := x + jushr x 32
theorem jbits_s (a : Int64) : jbits a = (js6 (js5 (js4 (js3 (js2 (js1 a)))))).toInt32 &&& 127 := rfl
theorem jX8_le (k N : Nat) : jX8 k N ≤ N := Nat.sub_le _ _
theorem js1_L {N : Nat} (hN : N < 2 ^ 64) : js1 (lN N) = lN (jX8 8 N) := by
  have hm : (6148914691236517205 : Int64) = lN (mskN 85 8) := by rw [show mskN 85 8 = 6148914691236517205 by decide +kernel]; rfl
  have h1 : jushr (lN N) 1 = lN (N / 2) := jush_L hN (k := 1) (by decide)
  have h2 : N / 2 &&& mskN 85 8 ≤ N / 2 := Nat.and_le_left
  unfold js1 jX8
  rw [h1, hm, jand_L, lN_sub (a := N) (b := N / 2 &&& mskN 85 8) (by omega)]
theorem jX22_le (N : Nat) : jX22 8 N ≤ 2 * 3689348814741910323 := by
  have h1 : jX8 8 N &&& mskN 51 8 ≤ mskN 51 8 := Nat.and_le_right
  have h2 : (jX8 8 N / 4) &&& mskN 51 8 ≤ mskN 51 8 := Nat.and_le_right
  have e : mskN 51 8 = 3689348814741910323 := by decide +kernel
  show (jX8 8 N &&& mskN 51 8) + ((jX8 8 N / 4) &&& mskN 51 8) ≤ _
  omega
theorem js2_L {N : Nat} (hN : N < 2 ^ 64) : js2 (lN (jX8 8 N)) = lN (jX22 8 N) := by
  have hm : (3689348814741910323 : Int64) = lN (mskN 51 8) := by rw [show mskN 51 8 = 3689348814741910323 by decide +kernel]; rfl
  have hl := jX8_le 8 N
  have h1 : jushr (lN (jX8 8 N)) 2 = lN (jX8 8 N / 4) := jush_L (by omega) (k := 2) (by decide)
  unfold js2 jX22
  rw [h1, hm, jand_L, jand_L, lN_add]
theorem js3_L (N : Nat) : js3 (lN (jX22 8 N)) = lN (jX32 8 N) := by
  have hm : (1085102592571150095 : Int64) = lN (mskN 15 8) := by rw [show mskN 15 8 = 1085102592571150095 by decide +kernel]; rfl
  have hl := jX22_le N
  have h1 : jushr (lN (jX22 8 N)) 4 = lN (jX22 8 N / 16) := jush_L (by omega) (k := 4) (by decide)
  unfold js3 jX32
  rw [h1, hm, lN_add, jand_L]
theorem nI_bits (M : Nat) : (nI M).toBitVec.toNat = M % 2 ^ 32 := BitVec.toNat_ofNat _ _
theorem hz8_lt {c0 c1 c2 c3 c4 c5 c6 c7 : Nat} (b0 : c0 ≤ 64) (b1 : c1 ≤ 64) (b2 : c2 ≤ 64) (b3 : c3 ≤ 64) (b4 : c4 ≤ 64) (b5 : c5 ≤ 64) (b6 : c6 ≤ 64) (b7 : c7 ≤ 64) : hz8 c0 c1 c2 c3 c4 c5 c6 c7 < 2 ^ 64 := by
  unfold hz8; omega
theorem js4_L {c0 c1 c2 c3 c4 c5 c6 c7 : Nat} (b0 : c0 ≤ 64) (b1 : c1 ≤ 64) (b2 : c2 ≤ 64) (b3 : c3 ≤ 64) (b4 : c4 ≤ 64) (b5 : c5 ≤ 64) (b6 : c6 ≤ 64) (b7 : c7 ≤ 64) : js4 (lN (hz8 c0 c1 c2 c3 c4 c5 c6 c7)) = lN (hz8 (c0 + c1) (c1 + c2) (c2 + c3) (c3 + c4) (c4 + c5) (c5 + c6) (c6 + c7) c7) := by
  have h := jush_L (hz8_lt b0 b1 b2 b3 b4 b5 b6 b7) (k := 8) (by decide)
  have q : hz8 c0 c1 c2 c3 c4 c5 c6 c7 / 2 ^ 8 = c1 + 256 * (c2 + 256 * (c3 + 256 * (c4 + 256 * (c5 + 256 * (c6 + 256 * c7))))) := dv8 (by omega)
  rw [q] at h
  show lN _ + jushr (lN _) (nI 8) = _
  rw [h, lN_add]
  exact congrArg lN (by unfold hz8; omega)
theorem js5_L {c0 c1 c2 c3 c4 c5 c6 c7 : Nat} (b0 : c0 ≤ 64) (b1 : c1 ≤ 64) (b2 : c2 ≤ 64) (b3 : c3 ≤ 64) (b4 : c4 ≤ 64) (b5 : c5 ≤ 64) (b6 : c6 ≤ 64) (b7 : c7 ≤ 64) : js5 (lN (hz8 c0 c1 c2 c3 c4 c5 c6 c7)) = lN (hz8 (c0 + c2) (c1 + c3) (c2 + c4) (c3 + c5) (c4 + c6) (c5 + c7) c6 c7) := by
  have h := jush_L (hz8_lt b0 b1 b2 b3 b4 b5 b6 b7) (k := 16) (by decide)
  have e : hz8 c0 c1 c2 c3 c4 c5 c6 c7 = (c0 + 256 * c1) + 2 ^ 16 * (c2 + 256 * (c3 + 256 * (c4 + 256 * (c5 + 256 * (c6 + 256 * c7))))) := by unfold hz8; omega
  have q : hz8 c0 c1 c2 c3 c4 c5 c6 c7 / 2 ^ 16 = c2 + 256 * (c3 + 256 * (c4 + 256 * (c5 + 256 * (c6 + 256 * c7)))) := by
    rw [e]; exact dvG 16 (by omega)
  rw [q] at h
  show lN _ + jushr (lN _) (nI 16) = _
  rw [h, lN_add]
  exact congrArg lN (by unfold hz8; omega)
theorem js6_L {c0 c1 c2 c3 c4 c5 c6 c7 : Nat} (b0 : c0 ≤ 64) (b1 : c1 ≤ 64) (b2 : c2 ≤ 64) (b3 : c3 ≤ 64) (b4 : c4 ≤ 64) (b5 : c5 ≤ 64) (b6 : c6 ≤ 64) (b7 : c7 ≤ 64) : ∃ T, js6 (lN (hz8 c0 c1 c2 c3 c4 c5 c6 c7)) = lN (c0 + c4 + 256 * T) := by
  have h := jush_L (hz8_lt b0 b1 b2 b3 b4 b5 b6 b7) (k := 32) (by decide)
  have e : hz8 c0 c1 c2 c3 c4 c5 c6 c7 = (c0 + 256 * c1 + 65536 * c2 + 16777216 * c3) + 2 ^ 32 * (c4 + 256 * (c5 + 256 * (c6 + 256 * c7))) := by unfold hz8; omega
  have q : hz8 c0 c1 c2 c3 c4 c5 c6 c7 / 2 ^ 32 = c4 + 256 * (c5 + 256 * (c6 + 256 * c7)) := by
    rw [e]; exact dvG 32 (by omega)
  rw [q] at h
  refine ⟨(c1 + 256 * (c2 + 256 * (c3 + 256 * (c4 + 256 * (c5 + 256 * (c6 + 256 * c7)))))) + (c5 + 256 * (c6 + 256 * c7)), ?_⟩
  show lN _ + jushr (lN _) (nI 32) = _
  rw [h, lN_add]
  exact congrArg lN (by unfold hz8; omega)
theorem md7 {a T : Nat} (h : a < 128) : (a + 256 * T) % 2 ^ 32 % 2 ^ 7 = a := by omega
theorem jbits_nat {N : Nat} (hN : N < 2 ^ 64) : jbits (lN N) = nI (pcn 64 N) := by
  rw [jbits_s, js1_L hN, js2_L hN, js3_L]
  obtain ⟨c0, c1, c2, c3, c4, c5, c6, c7, ⟨b0, b1, b2, b3, b4, b5, b6, b7⟩, e, ep⟩ := jX32_8 N
  rw [e, ep, js4_L (c0 := c0) (c1 := c1) (c2 := c2) (c3 := c3) (c4 := c4) (c5 := c5) (c6 := c6) (c7 := c7) (by omega) (by omega) (by omega) (by omega) (by omega) (by omega) (by omega) (by omega)]
  rw [js5_L (c0 := c0 + c1) (c1 := c1 + c2) (c2 := c2 + c3) (c3 := c3 + c4) (c4 := c4 + c5) (c5 := c5 + c6) (c6 := c6 + c7) (c7 := c7) (by omega) (by omega) (by omega) (by omega) (by omega) (by omega) (by omega) (by omega)]
  obtain ⟨T, h6⟩ := js6_L (c0 := c0 + c1 + (c2 + c3)) (c1 := c1 + c2 + (c3 + c4)) (c2 := c2 + c3 + (c4 + c5)) (c3 := c3 + c4 + (c5 + c6)) (c4 := c4 + c5 + (c6 + c7)) (c5 := c5 + c6 + c7) (c6 := c6 + c7) (c7 := c7) (by omega) (by omega) (by omega) (by omega) (by omega) (by omega) (by omega) (by omega)
  rw [h6, lN_i, pk_and _ 7 rfl, nI_bits, md7 (a := c0 + c1 + (c2 + c3) + (c4 + c5 + (c6 + c7))) (by omega)]
  exact congrArg nI (by omega)
theorem pop_pcn (a : Int64) : pop a = pcn 64 a.toBitVec.toNat := msize_sum a 64
theorem jbits_pop (a : Int64) : jbits a = nI (pop a) := by
  have e : a = lN a.toBitVec.toNat := Int64.toBitVec_inj.mp (by rw [lN_bv, BitVec.ofNat_toNat, BitVec.setWidth_eq])
  rw [pop_pcn, ← jbits_nat a.toBitVec.isLt, ← e]
