theorem arr_one {s : State} {ty : String} {a b : ClassId} (h1 : s.vm.findClass ty = some a) (h2 : s.vm.findClass ty = some b) : a = b := Option.some.inj (h1.symm.trans h2)
theorem nar_c (x : Int32) : narrow .char (.int (ji2c x)) = .int (ji2c x) := by
  show Value.int ((ji2c x).toUInt32.toUInt16.toUInt32.toInt32) = Value.int (ji2c x)
  have h : (ji2c x).toUInt32.toUInt16.toUInt32 = (ji2c x).toUInt32 := by
    show ((x.toUInt32 % 65536).toUInt16).toUInt32 = x.toUInt32 % 65536
    apply UInt32.toNat_inj.mp
    rw [UInt16.toNat_toUInt32, UInt32.toNat_toUInt16, UInt32.toNat_mod]
    show _ % 65536 % 65536 = _ % 65536
    omega
  rw [h]; rfl
def cshare (n : Nat) : UInt32 := FP.fdiv (FP.i2f (nI n)) 1108344832
theorem cshare_all : ∀ n, n < 65 → (FP.fdiv (FP.i2f (nI n)) 1108344832) &&& 0x7fffffff ≤ 0x7f800000 := by decide +kernel
theorem cshare_ok {n : Nat} (h : n ≤ 64) : vf_n32 (FP.fdiv (FP.i2f (nI n)) 1108344832) := cshare_all n (by omega)
theorem len_01 {P : Prop} [Decidable P] {x : Int32} (hx : x = 0 ∨ x = 1) : x < (if P then (2 : Int32) else 4) := by
  rcases hx with rfl | rfl <;> split <;> decide
theorem len_23 {P : Prop} [Decidable P] {x : Int32} (hx : x = 2 ∨ x = 3) (h : x < (if P then (2 : Int32) else 4)) : ¬ P := by
  intro hp
  rw [if_pos hp] at h
  rcases hx with rfl | rfl <;> exact absurd h (by decide)
theorem len_24 {P : Prop} [Decidable P] {x : Int32} (hx : x = 2 ∨ x = 3) (h : ¬ x < (if P then (2 : Int32) else 4)) : P := by
  by_cases hp : P
  · exact hp
  · rw [if_neg hp] at h
    exact absurd (by rcases hx with rfl | rfl <;> decide) h
theorem len_b {P : Prop} [Decidable P] {x : Int32} (h : x < (if P then (2 : Int32) else 4)) : x ≤ 3 := by
  rw [Int32.le_iff_toInt_le, show (3 : Int32).toInt = 3 from rfl]
  rw [Int32.lt_iff_toInt_lt] at h
  split at h
  · rw [show (2 : Int32).toInt = 2 from rfl] at h; omega
  · rw [show (4 : Int32).toInt = 4 from rfl] at h; omega

set_option maxHeartbeats 400000 in
set_option maxRecDepth 100000 in
theorem c_X2_init (l : Launch) (D : va_G) (cI cJ : ClassId) (sz : Nat) (h0 : Nat) : Met l yX2_init wsX2_init ({ frames := 1, cells := 2, slots := 72, locals := 40 } : Room) (va_Pc [.ref h0] (pv_C D cI cJ [(h0, .inr (0, [.null, .null, .int 0]))] sz)) (va_Qv (fun (u : (Nat) × (Nat)) => True) (fun (u : (Nat) × (Nat)) => pv_B D cI cJ (va_A [(h0, .inr (0, [.null, .null, .int 0]))] sz) [(h0, .inr (0, [.ref u.1, .ref u.2, .int 0])), (u.1, .inl (cI, 36, .inl (fun _ => (0 : Int32)))), (u.2, .inl (cI, 36, .inl (fun _ => (0 : Int32))))]) (va_A [(h0, .inr (0, [.null, .null, .int 0]))] sz)) 2 72 (va_A [(h0, .inr (0, [.null, .null, .int 0]))] sz) := by
  refine Met.ofW (cc := cX2_init) (maxL := 1) (ret := none) (by decide) rfl ?_
  intro p e s m args below meth c s₁ B hml hv
  obtain ⟨rfl, rfl, hP, hK, hD0⟩ := hv
  have hx := B.exec
  have hb := B.bytes
  have hr := B.returns
  have hts := atoms_spec (ws := wsX2_init) B.pre
  have hown : s.vm.findClass RX2 = some m.cls := findClass_of_methodNamed B.named
  have hlocks := B.notSynchronized
  have hin9 : meth.name = "<init>" := (name_of_methodNamed B.named B.method).1
  have hD := hD0.self (sz := s.heap.size)
  generalize hAe : va_A [(h0, .inr (0, [.null, .null, .int 0]))] s.heap.size = A at hD ⊢
  have hA : ∀ q : Nat, s.heap.size ≤ q → A q := fun q h => by rw [← hAe]; exact Or.inr h
  have hS : va_S A s.heap s.heap [] := va_S.rf
  have hinX2 : ∀ w ∈ wsX20, w ∈ wsX2_init := by decide +kernel
  have hfl9 : (Cond.fieldLink RX2 9 "Twistquad$MoveLog" "cells" "[I").before ([.ref h0] : List Value).toArray s = true := hts _ (by decide +kernel)
  have hfl15 : (Cond.fieldLink RX2 15 "Twistquad$MoveLog" "turns" "[I").before ([.ref h0] : List Value).toArray s = true := hts _ (by decide +kernel)
  have hl := lv_entry ([.ref h0]) (n := 1) (Nat.le_of_ble_eq_true rfl)
  rw [lg_entry_eq]
  generalize (lg_sl ([.ref h0]) ++ List.replicate (1 - (lg_sl ([.ref h0])).length) Slot.unset).toArray = ls at hl ⊢
  have hl : lv_has ls 1 [(0, .ref h0)] := hl
  refine lv_aload_n hx hb dX2_init_0 rfl (lv_at hl 0 rfl) ?_
  refine W.objInit hx hb hown (hts (.methodLink RX2 3 objectInit) (by decide +kernel)) (hts (.instanceMethod objectInit) (by decide +kernel)) (hts _ (List.mem_of_getElem? (i := 3) (rfl : _ = some (Cond.code objectInit ⟨#[0xb1]⟩ 1 none)))) rfl (by rw [hml]; exact hl.1) rfl dX2_init_1 (Nat.le_of_ble_eq_true rfl) (Nat.le_of_ble_eq_true rfl) ?_
  refine W.eq (g2 := F0 m 4 ls []) rfl ?_
  refine lv_aload_n hx hb dX2_init_4 rfl (lv_at hl 0 rfl) ?_
  refine lv_bipush (v := 36) hx hb dX2_init_5 (by decide) ?_
  refine va_newa (D := D) (atype := .int) (ty := .int) (n := 36) (N' := 36) (a0 := (36, .inl (fun _ => (0 : Int32)))) hx hb (hts (.arrayClass .int) (by decide +kernel)) rfl hK hP hD hS hA (fun _ => rfl) (by decide) (by decide) (Nat.le_of_ble_eq_true rfl) (Nat.le_of_ble_eq_true rfl) (Nat.le_of_ble_eq_true rfl) dX2_init_7 (fun q7 cA H hK hP hD hS => ?_)
  have e9 : cA = cI := arr_one (hK.2 2 _ rfl).2 (hK.2 0 _ rfl).2
  rw [e9] at hP hD
  have hK : va_K D vwCl [(cI, .int), (cJ, .long)] s := hK.sub (tys' := [(cI, .int), (cJ, .long)]) [0, 1] rfl
  refine W.widen (k := 1) (n := 36) (Nat.le_of_ble_eq_true rfl) (Nat.le_of_ble_eq_true rfl) ?_
  have hP : va_P D vwCl [(h0, .inr (0, [.null, .null, .int 0])), (q7, .inl (cI, 36, .inl (fun _ => (0 : Int32))))] H := hP
  have hD : va_D A [(h0, .inr (0, [.null, .null, .int 0])), (q7, .inl (cI, 36, .inl (fun _ => (0 : Int32))))] := hD
  refine va_putF (D := D) (ci := 0) (v := .ref q7) (ty := .array .int) (C := RX2) (T := TX2) (N := 3) hx hb hts hinX2 tyX2 tyX2_ok nmX2 hown hK hP hD hS 0 rfl rfl 0 (by decide) hfl9 (fun _ h9 => h9) rfl hin9 rfl (by decide +kernel) rfl rfl (Nat.le_of_ble_eq_true rfl) dX2_init_9 (fun H locs hP hD hS => ?_)
  have hP : va_P D vwCl [(h0, .inr (0, [.ref q7, .null, .int 0])), (q7, .inl (cI, 36, .inl (fun _ => (0 : Int32))))] H := hP
  have hD : va_D A [(h0, .inr (0, [.ref q7, .null, .int 0])), (q7, .inl (cI, 36, .inl (fun _ => (0 : Int32))))] := hD
  refine lv_aload_n hx hb dX2_init_12 rfl (lv_at hl 0 rfl) ?_
  refine lv_bipush (v := 36) hx hb dX2_init_13 (by decide) ?_
  refine va_newa (D := D) (atype := .int) (ty := .int) (n := 36) (N' := 36) (a0 := (36, .inl (fun _ => (0 : Int32)))) hx hb (hts (.arrayClass .int) (by decide +kernel)) rfl hK hP hD hS hA (fun _ => rfl) (by decide) (by decide) (Nat.le_of_ble_eq_true rfl) (Nat.le_of_ble_eq_true rfl) (Nat.le_of_ble_eq_true rfl) dX2_init_15 (fun q15 cA H hK hP hD hS => ?_)
  have e9 : cA = cI := arr_one (hK.2 2 _ rfl).2 (hK.2 0 _ rfl).2
  rw [e9] at hP hD
  have hK : va_K D vwCl [(cI, .int), (cJ, .long)] s := hK.sub (tys' := [(cI, .int), (cJ, .long)]) [0, 1] rfl
  refine W.widen (k := 2) (n := 72) (Nat.le_of_ble_eq_true rfl) (Nat.le_of_ble_eq_true rfl) ?_
  have hP : va_P D vwCl [(h0, .inr (0, [.ref q7, .null, .int 0])), (q7, .inl (cI, 36, .inl (fun _ => (0 : Int32)))), (q15, .inl (cI, 36, .inl (fun _ => (0 : Int32))))] H := hP
  have hD : va_D A [(h0, .inr (0, [.ref q7, .null, .int 0])), (q7, .inl (cI, 36, .inl (fun _ => (0 : Int32)))), (q15, .inl (cI, 36, .inl (fun _ => (0 : Int32))))] := hD
  refine va_putF (D := D) (ci := 0) (v := .ref q15) (ty := .array .int) (C := RX2) (T := TX2) (N := 3) hx hb hts hinX2 tyX2 tyX2_ok nmX2 hown hK hP hD hS 0 rfl rfl 1 (by decide) hfl15 (fun _ h9 => h9) rfl hin9 rfl (by decide +kernel) rfl rfl (Nat.le_of_ble_eq_true rfl) dX2_init_17 (fun H locs hP hD hS => ?_)
  have hP : va_P D vwCl [(h0, .inr (0, [.ref q7, .ref q15, .int 0])), (q7, .inl (cI, 36, .inl (fun _ => (0 : Int32)))), (q15, .inl (cI, 36, .inl (fun _ => (0 : Int32))))] H := hP
  have hD : va_D A [(h0, .inr (0, [.ref q7, .ref q15, .int 0])), (q7, .inl (cI, 36, .inl (fun _ => (0 : Int32)))), (q15, .inl (cI, 36, .inl (fun _ => (0 : Int32))))] := hD
  refine W.widen (k := 2) (n := 72) (Nat.le_of_ble_eq_true rfl) (Nat.le_of_ble_eq_true rfl) ?_
  refine W.vret hx hb hr (fun tt ht hW => ⟨⟨(q7, q15), rfl, ?_, by rw [ht]; exact hP, va_K.moved hW.alike hK, hD⟩, hS.F ht⟩) hS.2.2 dX2_init_20
  trivial

set_option maxHeartbeats 400000 in
set_option maxRecDepth 100000 in
theorem c_X5_init (l : Launch) (D : va_G) (cI cJ : ClassId) (sz : Nat) (h0 : Nat) : Met l yX5_init wsX5_init ({ frames := 1, cells := 2, slots := 2048, locals := 40 } : Room) (va_Pc [.ref h0] (pv_C D cI cJ [(h0, .inr (2, [.null, .null]))] sz)) (va_Qv (fun (u : (Nat) × (Nat)) => True) (fun (u : (Nat) × (Nat)) => pv_B D cI cJ (va_A [(h0, .inr (2, [.null, .null]))] sz) [(h0, .inr (2, [.ref u.1, .ref u.2])), (u.1, .inl (cJ, 1024, .inr (.inl (fun _ => (0 : Int64))))), (u.2, .inl (cI, 1024, .inl (fun _ => (0 : Int32))))]) (va_A [(h0, .inr (2, [.null, .null]))] sz)) 2 2048 (va_A [(h0, .inr (2, [.null, .null]))] sz) := by
  refine Met.ofW (cc := cX5_init) (maxL := 1) (ret := none) (by decide) rfl ?_
  intro p e s m args below meth c s₁ B hml hv
  obtain ⟨rfl, rfl, hP, hK, hD0⟩ := hv
  have hx := B.exec
  have hb := B.bytes
  have hr := B.returns
  have hts := atoms_spec (ws := wsX5_init) B.pre
  have hown : s.vm.findClass RX5 = some m.cls := findClass_of_methodNamed B.named
  have hlocks := B.notSynchronized
  have hin9 : meth.name = "<init>" := (name_of_methodNamed B.named B.method).1
  have hD := hD0.self (sz := s.heap.size)
  generalize hAe : va_A [(h0, .inr (2, [.null, .null]))] s.heap.size = A at hD ⊢
  have hA : ∀ q : Nat, s.heap.size ≤ q → A q := fun q h => by rw [← hAe]; exact Or.inr h
  have hS : va_S A s.heap s.heap [] := va_S.rf
  have hinX5 : ∀ w ∈ wsX50, w ∈ wsX5_init := by decide +kernel
  have hfl9 : (Cond.fieldLink RX5 9 "Twistquad$ValueTable" "forms" "[J").before ([.ref h0] : List Value).toArray s = true := hts _ (by decide +kernel)
  have hfl13 : (Cond.fieldLink RX5 13 "Twistquad$ValueTable" "values" "[I").before ([.ref h0] : List Value).toArray s = true := hts _ (by decide +kernel)
  have hl := lv_entry ([.ref h0]) (n := 1) (Nat.le_of_ble_eq_true rfl)
  rw [lg_entry_eq]
  generalize (lg_sl ([.ref h0]) ++ List.replicate (1 - (lg_sl ([.ref h0])).length) Slot.unset).toArray = ls at hl ⊢
  have hl : lv_has ls 1 [(0, .ref h0)] := hl
  refine lv_aload_n hx hb dX5_init_0 rfl (lv_at hl 0 rfl) ?_
  refine W.objInit hx hb hown (hts (.methodLink RX5 3 objectInit) (by decide +kernel)) (hts (.instanceMethod objectInit) (by decide +kernel)) (hts _ (List.mem_of_getElem? (i := 3) (rfl : _ = some (Cond.code objectInit ⟨#[0xb1]⟩ 1 none)))) rfl (by rw [hml]; exact hl.1) rfl dX5_init_1 (Nat.le_of_ble_eq_true rfl) (Nat.le_of_ble_eq_true rfl) ?_
  refine W.eq (g2 := F0 m 4 ls []) rfl ?_
  refine lv_aload_n hx hb dX5_init_4 rfl (lv_at hl 0 rfl) ?_
  refine lv_sipush (v := 1024) hx hb dX5_init_5 (by decide) ?_
  refine va_newa (D := D) (atype := .long) (ty := .long) (n := 1024) (N' := 1024) (a0 := (1024, .inr (.inl (fun _ => (0 : Int64))))) hx hb (hts (.arrayClass .long) (by decide +kernel)) rfl hK hP hD hS hA (fun _ => rfl) (by decide) (by decide) (Nat.le_of_ble_eq_true rfl) (Nat.le_of_ble_eq_true rfl) (Nat.le_of_ble_eq_true rfl) dX5_init_8 (fun q8 cA H hK hP hD hS => ?_)
  have e9 : cA = cJ := arr_one (hK.2 2 _ rfl).2 (hK.2 1 _ rfl).2
  rw [e9] at hP hD
  have hK : va_K D vwCl [(cI, .int), (cJ, .long)] s := hK.sub (tys' := [(cI, .int), (cJ, .long)]) [0, 1] rfl
  refine W.widen (k := 1) (n := 1024) (Nat.le_of_ble_eq_true rfl) (Nat.le_of_ble_eq_true rfl) ?_
  have hP : va_P D vwCl [(h0, .inr (2, [.null, .null])), (q8, .inl (cJ, 1024, .inr (.inl (fun _ => (0 : Int64)))))] H := hP
  have hD : va_D A [(h0, .inr (2, [.null, .null])), (q8, .inl (cJ, 1024, .inr (.inl (fun _ => (0 : Int64)))))] := hD
  refine va_putF (D := D) (ci := 2) (v := .ref q8) (ty := .array .long) (C := RX5) (T := TX5) (N := 2) hx hb hts hinX5 tyX5 tyX5_ok nmX5 hown hK hP hD hS 0 rfl rfl 0 (by decide) hfl9 (fun _ h9 => h9) rfl hin9 rfl (by decide +kernel) rfl rfl (Nat.le_of_ble_eq_true rfl) dX5_init_10 (fun H locs hP hD hS => ?_)
  have hP : va_P D vwCl [(h0, .inr (2, [.ref q8, .null])), (q8, .inl (cJ, 1024, .inr (.inl (fun _ => (0 : Int64)))))] H := hP
  have hD : va_D A [(h0, .inr (2, [.ref q8, .null])), (q8, .inl (cJ, 1024, .inr (.inl (fun _ => (0 : Int64)))))] := hD
  refine lv_aload_n hx hb dX5_init_13 rfl (lv_at hl 0 rfl) ?_
  refine lv_sipush (v := 1024) hx hb dX5_init_14 (by decide) ?_
  refine va_newa (D := D) (atype := .int) (ty := .int) (n := 1024) (N' := 1024) (a0 := (1024, .inl (fun _ => (0 : Int32)))) hx hb (hts (.arrayClass .int) (by decide +kernel)) rfl hK hP hD hS hA (fun _ => rfl) (by decide) (by decide) (Nat.le_of_ble_eq_true rfl) (Nat.le_of_ble_eq_true rfl) (Nat.le_of_ble_eq_true rfl) dX5_init_17 (fun q17 cA H hK hP hD hS => ?_)
  have e9 : cA = cI := arr_one (hK.2 2 _ rfl).2 (hK.2 0 _ rfl).2
  rw [e9] at hP hD
  have hK : va_K D vwCl [(cI, .int), (cJ, .long)] s := hK.sub (tys' := [(cI, .int), (cJ, .long)]) [0, 1] rfl
  refine W.widen (k := 2) (n := 2048) (Nat.le_of_ble_eq_true rfl) (Nat.le_of_ble_eq_true rfl) ?_
  have hP : va_P D vwCl [(h0, .inr (2, [.ref q8, .null])), (q8, .inl (cJ, 1024, .inr (.inl (fun _ => (0 : Int64))))), (q17, .inl (cI, 1024, .inl (fun _ => (0 : Int32))))] H := hP
  have hD : va_D A [(h0, .inr (2, [.ref q8, .null])), (q8, .inl (cJ, 1024, .inr (.inl (fun _ => (0 : Int64))))), (q17, .inl (cI, 1024, .inl (fun _ => (0 : Int32))))] := hD
  refine va_putF (D := D) (ci := 2) (v := .ref q17) (ty := .array .int) (C := RX5) (T := TX5) (N := 2) hx hb hts hinX5 tyX5 tyX5_ok nmX5 hown hK hP hD hS 0 rfl rfl 1 (by decide) hfl13 (fun _ h9 => h9) rfl hin9 rfl (by decide +kernel) rfl rfl (Nat.le_of_ble_eq_true rfl) dX5_init_19 (fun H locs hP hD hS => ?_)
  have hP : va_P D vwCl [(h0, .inr (2, [.ref q8, .ref q17])), (q8, .inl (cJ, 1024, .inr (.inl (fun _ => (0 : Int64))))), (q17, .inl (cI, 1024, .inl (fun _ => (0 : Int32))))] H := hP
  have hD : va_D A [(h0, .inr (2, [.ref q8, .ref q17])), (q8, .inl (cJ, 1024, .inr (.inl (fun _ => (0 : Int64))))), (q17, .inl (cI, 1024, .inl (fun _ => (0 : Int32))))] := hD
  refine W.widen (k := 2) (n := 2048) (Nat.le_of_ble_eq_true rfl) (Nat.le_of_ble_eq_true rfl) ?_
  refine W.vret hx hb hr (fun tt ht hW => ⟨⟨(q8, q17), rfl, ?_, by rw [ht]; exact hP, va_K.moved hW.alike hK, hD⟩, hS.F ht⟩) hS.2.2 dX5_init_22
  trivial

set_option maxHeartbeats 400000 in
set_option maxRecDepth 100000 in
theorem c_X3_init_t (l : Launch) (D : va_G) (cI cJ : ClassId) (sz : Nat) (h0 vt : Nat) : Met l yX3_init wsX3_init ({ frames := 1, cells := 0, slots := 0, locals := 40 } : Room) (va_Pc [.ref h0, .ref vt] (pv_C D cI cJ [(h0, .inr (1, [.null]))] sz)) (va_Qv (fun (u : Unit) => True) (fun (u : Unit) => pv_B D cI cJ (va_A [(h0, .inr (1, [.null]))] sz) [(h0, .inr (1, [.ref vt]))]) (va_A [(h0, .inr (1, [.null]))] sz)) 0 0 (va_A [(h0, .inr (1, [.null]))] sz) := by
  refine Met.ofW (cc := cX3_init) (maxL := 2) (ret := none) (by decide) rfl ?_
  intro p e s m args below meth c s₁ B hml hv
  obtain ⟨rfl, rfl, hP, hK, hD0⟩ := hv
  have hx := B.exec
  have hb := B.bytes
  have hr := B.returns
  have hts := atoms_spec (ws := wsX3_init) B.pre
  have hown : s.vm.findClass RX3 = some m.cls := findClass_of_methodNamed B.named
  have hlocks := B.notSynchronized
  have hin9 : meth.name = "<init>" := (name_of_methodNamed B.named B.method).1
  have hD := hD0.self (sz := s.heap.size)
  generalize hAe : va_A [(h0, .inr (1, [.null]))] s.heap.size = A at hD ⊢
  have hA : ∀ q : Nat, s.heap.size ≤ q → A q := fun q h => by rw [← hAe]; exact Or.inr h
  have hS : va_S A s.heap s.heap [] := va_S.rf
  have hinX3 : ∀ w ∈ wsX30, w ∈ wsX3_init := by decide +kernel
  have hfl9 : (Cond.fieldLink RX3 9 "Twistquad$Solver" "table" "LTwistquad$ValueTable;").before ([.ref h0, .ref vt] : List Value).toArray s = true := hts _ (by decide +kernel)
  have hl := lv_entry ([.ref h0, .ref vt]) (n := 2) (Nat.le_of_ble_eq_true rfl)
  rw [lg_entry_eq]
  generalize (lg_sl ([.ref h0, .ref vt]) ++ List.replicate (2 - (lg_sl ([.ref h0, .ref vt])).length) Slot.unset).toArray = ls at hl ⊢
  have hl : lv_has ls 2 [(0, .ref h0), (1, .ref vt)] := hl
  refine lv_aload_n hx hb dX3_init_0 rfl (lv_at hl 0 rfl) ?_
  refine W.objInit hx hb hown (hts (.methodLink RX3 3 objectInit) (by decide +kernel)) (hts (.instanceMethod objectInit) (by decide +kernel)) (hts _ (List.mem_of_getElem? (i := 3) (rfl : _ = some (Cond.code objectInit ⟨#[0xb1]⟩ 1 none)))) rfl (by rw [hml]; exact hl.1) rfl dX3_init_1 (Nat.le_of_ble_eq_true rfl) (Nat.le_of_ble_eq_true rfl) ?_
  refine W.eq (g2 := F0 m 4 ls []) rfl ?_
  refine lv_aload_n hx hb dX3_init_4 rfl (lv_at hl 0 rfl) ?_
  refine lv_aload_n hx hb dX3_init_5 rfl (lv_at hl 1 rfl) ?_
  refine va_putF (D := D) (ci := 1) (v := .ref vt) (ty := .object "Twistquad$ValueTable") (C := RX3) (T := TX3) (N := 1) hx hb hts hinX3 tyX3 tyX3_ok nmX3 hown hK hP hD hS 0 rfl rfl 0 (by decide) hfl9 (fun _ h9 => h9) rfl hin9 rfl (by decide +kernel) rfl rfl (Nat.le_of_ble_eq_true rfl) dX3_init_6 (fun H locs hP hD hS => ?_)
  have hP : va_P D vwCl [(h0, .inr (1, [.ref vt]))] H := hP
  have hD : va_D A [(h0, .inr (1, [.ref vt]))] := hD
  refine W.vret hx hb hr (fun tt ht hW => ⟨⟨(), rfl, ?_, by rw [ht]; exact hP, va_K.moved hW.alike hK, hD⟩, hS.F ht⟩) hS.2.2 dX3_init_9
  trivial

set_option maxHeartbeats 400000 in
set_option maxRecDepth 100000 in
theorem c_X3_init_n (l : Launch) (D : va_G) (cI cJ : ClassId) (sz : Nat) (h0 : Nat) : Met l yX3_init wsX3_init ({ frames := 1, cells := 0, slots := 0, locals := 40 } : Room) (va_Pc [.ref h0, .null] (pv_C D cI cJ [(h0, .inr (1, [.null]))] sz)) (va_Qv (fun (u : Unit) => True) (fun (u : Unit) => pv_B D cI cJ (va_A [(h0, .inr (1, [.null]))] sz) [(h0, .inr (1, [.null]))]) (va_A [(h0, .inr (1, [.null]))] sz)) 0 0 (va_A [(h0, .inr (1, [.null]))] sz) := by
  refine Met.ofW (cc := cX3_init) (maxL := 2) (ret := none) (by decide) rfl ?_
  intro p e s m args below meth c s₁ B hml hv
  obtain ⟨rfl, rfl, hP, hK, hD0⟩ := hv
  have hx := B.exec
  have hb := B.bytes
  have hr := B.returns
  have hts := atoms_spec (ws := wsX3_init) B.pre
  have hown : s.vm.findClass RX3 = some m.cls := findClass_of_methodNamed B.named
  have hlocks := B.notSynchronized
  have hin9 : meth.name = "<init>" := (name_of_methodNamed B.named B.method).1
  have hD := hD0.self (sz := s.heap.size)
  generalize hAe : va_A [(h0, .inr (1, [.null]))] s.heap.size = A at hD ⊢
  have hA : ∀ q : Nat, s.heap.size ≤ q → A q := fun q h => by rw [← hAe]; exact Or.inr h
  have hS : va_S A s.heap s.heap [] := va_S.rf
  have hinX3 : ∀ w ∈ wsX30, w ∈ wsX3_init := by decide +kernel
  have hfl9 : (Cond.fieldLink RX3 9 "Twistquad$Solver" "table" "LTwistquad$ValueTable;").before ([.ref h0, .null] : List Value).toArray s = true := hts _ (by decide +kernel)
  have hl := lv_entry ([.ref h0, .null]) (n := 2) (Nat.le_of_ble_eq_true rfl)
  rw [lg_entry_eq]
  generalize (lg_sl ([.ref h0, .null]) ++ List.replicate (2 - (lg_sl ([.ref h0, .null])).length) Slot.unset).toArray = ls at hl ⊢
  have hl : lv_has ls 2 [(0, .ref h0), (1, .null)] := hl
  refine lv_aload_n hx hb dX3_init_0 rfl (lv_at hl 0 rfl) ?_
  refine W.objInit hx hb hown (hts (.methodLink RX3 3 objectInit) (by decide +kernel)) (hts (.instanceMethod objectInit) (by decide +kernel)) (hts _ (List.mem_of_getElem? (i := 3) (rfl : _ = some (Cond.code objectInit ⟨#[0xb1]⟩ 1 none)))) rfl (by rw [hml]; exact hl.1) rfl dX3_init_1 (Nat.le_of_ble_eq_true rfl) (Nat.le_of_ble_eq_true rfl) ?_
  refine W.eq (g2 := F0 m 4 ls []) rfl ?_
  refine lv_aload_n hx hb dX3_init_4 rfl (lv_at hl 0 rfl) ?_
  refine lv_aload_nN hx hb dX3_init_5 rfl (lv_at hl 1 rfl) ?_
  refine va_putF (D := D) (ci := 1) (v := .null) (ty := .object "Twistquad$ValueTable") (C := RX3) (T := TX3) (N := 1) hx hb hts hinX3 tyX3 tyX3_ok nmX3 hown hK hP hD hS 0 rfl rfl 0 (by decide) hfl9 (fun _ h9 => h9) rfl hin9 rfl (by decide +kernel) rfl rfl (Nat.le_of_ble_eq_true rfl) dX3_init_6 (fun H locs hP hD hS => ?_)
  have hP : va_P D vwCl [(h0, .inr (1, [.null]))] H := hP
  have hD : va_D A [(h0, .inr (1, [.null]))] := hD
  refine W.vret hx hb hr (fun tt ht hW => ⟨⟨(), rfl, ?_, by rw [ht]; exact hP, va_K.moved hW.alike hK, hD⟩, hS.F ht⟩) hS.2.2 dX3_init_9
  trivial

set_option maxHeartbeats 400000 in
set_option maxRecDepth 100000 in
theorem c_X6_init (l : Launch) (D : va_G) (cI cJ : ClassId) (sz : Nat) (h0 : Nat) : Met l yX6_init wsX6_init ({ frames := 2, cells := 8, slots := 2127, locals := 61 } : Room) (va_Pc [.ref h0] (px_E (pv_C D cI cJ [(h0, .inr (3, [.null, .null, .null, .long 0, .long 0, .int 0, .int 0]))] sz))) (va_Qv (fun (u : (Nat) × (Nat) × (Nat) × (Nat) × (Nat) × (Nat) × (Nat) × (Nat)) => True) (fun (u : (Nat) × (Nat) × (Nat) × (Nat) × (Nat) × (Nat) × (Nat) × (Nat)) => pv_B D cI cJ (va_A [(h0, .inr (3, [.null, .null, .null, .long 0, .long 0, .int 0, .int 0]))] sz) [(h0, .inr (3, [.ref u.1, .ref u.2.2.2.1, .ref u.2.2.2.2.2.2.2, .long 0, .long 0, .int 0, .int 0])), (u.1, .inr (0, [.ref u.2.1, .ref u.2.2.1, .int 0])), (u.2.1, .inl (cI, 36, .inl (fun _ => (0 : Int32)))), (u.2.2.1, .inl (cI, 36, .inl (fun _ => (0 : Int32)))), (u.2.2.2.1, .inr (1, [.ref u.2.2.2.2.1])), (u.2.2.2.2.1, .inr (2, [.ref u.2.2.2.2.2.1, .ref u.2.2.2.2.2.2.1])), (u.2.2.2.2.2.1, .inl (cJ, 1024, .inr (.inl (fun _ => (0 : Int64))))), (u.2.2.2.2.2.2.1, .inl (cI, 1024, .inl (fun _ => (0 : Int32)))), (u.2.2.2.2.2.2.2, .inr (1, [.null]))]) (va_A [(h0, .inr (3, [.null, .null, .null, .long 0, .long 0, .int 0, .int 0]))] sz)) 8 2127 (va_A [(h0, .inr (3, [.null, .null, .null, .long 0, .long 0, .int 0, .int 0]))] sz) := by
  refine Met.ofW (cc := cX6_init) (maxL := 1) (ret := none) (by decide) rfl ?_
  intro p e s m args below meth c s₁ B hml hv
  obtain ⟨rfl, hEN, rfl, hP, hK, hD0⟩ := hv
  have hx := B.exec
  have hb := B.bytes
  have hr := B.returns
  have hts := atoms_spec (ws := wsX6_init) B.pre
  have hown : s.vm.findClass RX6 = some m.cls := findClass_of_methodNamed B.named
  have hlocks := B.notSynchronized
  have hin9 : meth.name = "<init>" := (name_of_methodNamed B.named B.method).1
  have hD := hD0.self (sz := s.heap.size)
  generalize hAe : va_A [(h0, .inr (3, [.null, .null, .null, .long 0, .long 0, .int 0, .int 0]))] s.heap.size = A at hD ⊢
  have hA : ∀ q : Nat, s.heap.size ≤ q → A q := fun q h => by rw [← hAe]; exact Or.inr h
  have hS : va_S A s.heap s.heap [] := va_S.rf
  have hiniX2 : (Cond.initialized RX2).before ([.ref h0] : List Value).toArray s = true := hts _ (by decide +kernel)
  have hinstX2 : (Cond.instanceMethod yX2_init).before ([.ref h0] : List Value).toArray s = true := hts _ (by decide +kernel)
  have hnest11 : va_Nw (.methodLinkNest RX6 11 yX2_init RX6) s := hEN.2.2.1
  have hinX6 : ∀ w ∈ wsX60, w ∈ wsX6_init := by decide +kernel
  have hfl12 : (Cond.fieldLink RX6 12 "Twistquad" "log" "LTwistquad$MoveLog;").before ([.ref h0] : List Value).toArray s = true := hts _ (by decide +kernel)
  have hiniX5 : (Cond.initialized RX5).before ([.ref h0] : List Value).toArray s = true := hts _ (by decide +kernel)
  have hinstX5 : (Cond.instanceMethod yX5_init).before ([.ref h0] : List Value).toArray s = true := hts _ (by decide +kernel)
  have hnest20 : va_Nw (.methodLinkNest RX6 20 yX5_init RX6) s := hEN.2.2.2.1
  have hiniX3 : (Cond.initialized RX3).before ([.ref h0] : List Value).toArray s = true := hts _ (by decide +kernel)
  have hinstX3 : (Cond.instanceMethod yX3_init).before ([.ref h0] : List Value).toArray s = true := hts _ (by decide +kernel)
  have hmlk21 : (Cond.methodLink RX6 21 yX3_init).before ([.ref h0] : List Value).toArray s = true := hts _ (by decide +kernel)
  have hfl24 : (Cond.fieldLink RX6 24 "Twistquad" "formSolver" "LTwistquad$Solver;").before ([.ref h0] : List Value).toArray s = true := hts _ (by decide +kernel)
  have hfl28 : (Cond.fieldLink RX6 28 "Twistquad" "plainSolver" "LTwistquad$Solver;").before ([.ref h0] : List Value).toArray s = true := hts _ (by decide +kernel)
  have hfl31 : (Cond.fieldLink RX6 31 "Twistquad" "result" "I").before ([.ref h0] : List Value).toArray s = true := hts _ (by decide +kernel)
  have hl := lv_entry ([.ref h0]) (n := 1) (Nat.le_of_ble_eq_true rfl)
  rw [lg_entry_eq]
  generalize (lg_sl ([.ref h0]) ++ List.replicate (1 - (lg_sl ([.ref h0])).length) Slot.unset).toArray = ls at hl ⊢
  have hl : lv_has ls 1 [(0, .ref h0)] := hl
  refine lv_aload_n hx hb dX6_init_0 rfl (lv_at hl 0 rfl) ?_
  refine W.objInit hx hb hown (hts (.methodLink RX6 3 objectInit) (by decide +kernel)) (hts (.instanceMethod objectInit) (by decide +kernel)) (hts _ (List.mem_of_getElem? (i := 3) (rfl : _ = some (Cond.code objectInit ⟨#[0xb1]⟩ 1 none)))) rfl (by rw [hml]; exact hl.1) rfl dX6_init_1 (Nat.le_of_ble_eq_true rfl) (Nat.le_of_ble_eq_true rfl) ?_
  refine W.eq (g2 := F0 m 4 ls []) rfl ?_
  refine lv_aload_n hx hb dX6_init_4 rfl (lv_at hl 0 rfl) ?_
  refine va_new (D := D) (ci := 0) (fs := [.null, .null, .int 0]) (C := RX2) (T := TX2) (N := 3) hx hb hts (by decide +kernel) tyX2 tyX2_ok hown (hts (.classLink RX6 9 RX2) (by decide +kernel)) (hts (.instantiable RX2 3) (by decide +kernel)) (hts (.initialized RX2) (by decide +kernel)) hK hP hD hS hA rfl (fun j hj => by rcases (show j = 0 ∨ j = 1 ∨ j = 2 by omega) with rfl | rfl | rfl <;> rfl) (Nat.le_of_ble_eq_true rfl) (Nat.le_of_ble_eq_true rfl) dX6_init_5 (fun q5 H hP hD hS => ?_)
  refine W.widen (k := 1) (n := 3) (Nat.le_of_ble_eq_true rfl) (Nat.le_of_ble_eq_true rfl) ?_
  have hP : va_P D vwCl [(h0, .inr (3, [.null, .null, .null, .long 0, .long 0, .int 0, .int 0])), (q5, .inr (0, [.null, .null, .int 0]))] H := hP
  have hD : va_D A [(h0, .inr (3, [.null, .null, .null, .long 0, .long 0, .int 0, .int 0])), (q5, .inr (0, [.null, .null, .int 0]))] := hD
  refine lv_dup hx hb dX6_init_8 rfl ?_
  have hPc := hP.sub (ws' := [(q5, .inr (0, [.null, .null, .int 0]))]) [1] rfl
  have hDc := hD.sub (ws' := [(q5, .inr (0, [.null, .null, .int 0]))]) [1] (by decide) rfl
  have hFc := va_free (wc := [(q5, .inr (0, [.null, .null, .int 0]))]) hD hS hA [1] rfl
  refine va_callv (va_runIN (As := []) (rest := [.ref q5, .ref h0]) ⟨hx, hb, hml, hown, hts⟩ (c_X2_init l D cI cJ H.size  q5) ⟨va_cnB 0 hts gX6_init_X2_init_n11 rfl rfl rfl hnest11 hiniX2 (by decide +kernel) ⟨Nat.le_of_ble_eq_true rfl, Nat.le_of_ble_eq_true rfl⟩, rfl, hinstX2⟩ ⟨pv_blind, fun U hU hW => ⟨rfl, by rw [hU], by rw [hU]; exact hPc, va_K.moved hW.alike hK, hDc.weaken (fun _ _ _ _ => trivial)⟩⟩ rfl rfl hl.1 rfl (lv_room (Nat.le_of_ble_eq_true rfl)) dX6_init_9 ⟨(Nat.le_of_ble_eq_true rfl), (Nat.le_of_ble_eq_true rfl)⟩) hS (fun q _ h => hFc q h) hFc (fun u t9 H1 locs hth hvm hw9 hB hz1 hk1 hS => ?_)
  obtain ⟨lc9, lt9⟩ := u
  try dsimp only at hw9
  obtain ⟨hP1, hK1, hD1⟩ := hB
  rw [hth] at hP1
  obtain ⟨hP, hD⟩ := va_join (wr := [(h0, .inr (3, [.null, .null, .null, .long 0, .long 0, .int 0, .int 0]))]) (w1 := [(q5, .inr (0, [.ref lc9, .ref lt9, .int 0])), (lc9, .inl (cI, 36, .inl (fun _ => (0 : Int32)))), (lt9, .inl (cI, 36, .inl (fun _ => (0 : Int32))))]) hP hD [1] [0] rfl rfl (by decide) (by decide) hk1 hFc hP1 hD1
  generalize H1 = H at hP hS ⊢
  have hP : va_P D vwCl [(h0, .inr (3, [.null, .null, .null, .long 0, .long 0, .int 0, .int 0])), (q5, .inr (0, [.ref lc9, .ref lt9, .int 0])), (lc9, .inl (cI, 36, .inl (fun _ => (0 : Int32)))), (lt9, .inl (cI, 36, .inl (fun _ => (0 : Int32))))] H := hP.sub (ws' := [(h0, .inr (3, [.null, .null, .null, .long 0, .long 0, .int 0, .int 0])), (q5, .inr (0, [.ref lc9, .ref lt9, .int 0])), (lc9, .inl (cI, 36, .inl (fun _ => (0 : Int32)))), (lt9, .inl (cI, 36, .inl (fun _ => (0 : Int32))))]) [0, 1, 2, 3] rfl
  have hD : va_D A [(h0, .inr (3, [.null, .null, .null, .long 0, .long 0, .int 0, .int 0])), (q5, .inr (0, [.ref lc9, .ref lt9, .int 0])), (lc9, .inl (cI, 36, .inl (fun _ => (0 : Int32)))), (lt9, .inl (cI, 36, .inl (fun _ => (0 : Int32))))] := hD.sub (ws' := [(h0, .inr (3, [.null, .null, .null, .long 0, .long 0, .int 0, .int 0])), (q5, .inr (0, [.ref lc9, .ref lt9, .int 0])), (lc9, .inl (cI, 36, .inl (fun _ => (0 : Int32)))), (lt9, .inl (cI, 36, .inl (fun _ => (0 : Int32))))]) [0, 1, 2, 3] (by decide) rfl
  refine va_putF (D := D) (ci := 3) (v := .ref q5) (ty := .object "Twistquad$MoveLog") (C := RX6) (T := TX6) (N := 7) hx hb hts hinX6 tyX6 tyX6_ok nmX6 hown hK hP hD hS 0 rfl rfl 0 (by decide) hfl12 (fun _ h9 => h9) rfl hin9 rfl (by decide +kernel) rfl rfl (Nat.le_of_ble_eq_true rfl) dX6_init_12 (fun H locs hP hD hS => ?_)
  have hP : va_P D vwCl [(h0, .inr (3, [.ref q5, .null, .null, .long 0, .long 0, .int 0, .int 0])), (q5, .inr (0, [.ref lc9, .ref lt9, .int 0])), (lc9, .inl (cI, 36, .inl (fun _ => (0 : Int32)))), (lt9, .inl (cI, 36, .inl (fun _ => (0 : Int32))))] H := hP
  have hD : va_D A [(h0, .inr (3, [.ref q5, .null, .null, .long 0, .long 0, .int 0, .int 0])), (q5, .inr (0, [.ref lc9, .ref lt9, .int 0])), (lc9, .inl (cI, 36, .inl (fun _ => (0 : Int32)))), (lt9, .inl (cI, 36, .inl (fun _ => (0 : Int32))))] := hD
  refine lv_aload_n hx hb dX6_init_15 rfl (lv_at hl 0 rfl) ?_
  refine va_new (D := D) (ci := 1) (fs := [.null]) (C := RX3) (T := TX3) (N := 1) hx hb hts (by decide +kernel) tyX3 tyX3_ok hown (hts (.classLink RX6 16 RX3) (by decide +kernel)) (hts (.instantiable RX3 1) (by decide +kernel)) (hts (.initialized RX3) (by decide +kernel)) hK hP hD hS hA rfl (fun j hj => by rcases (show j = 0 by omega) with rfl <;> rfl) (Nat.le_of_ble_eq_true rfl) (Nat.le_of_ble_eq_true rfl) dX6_init_16 (fun q16 H hP hD hS => ?_)
  refine W.widen (k := 4) (n := 76) (Nat.le_of_ble_eq_true rfl) (Nat.le_of_ble_eq_true rfl) ?_
  have hP : va_P D vwCl [(h0, .inr (3, [.ref q5, .null, .null, .long 0, .long 0, .int 0, .int 0])), (q5, .inr (0, [.ref lc9, .ref lt9, .int 0])), (lc9, .inl (cI, 36, .inl (fun _ => (0 : Int32)))), (lt9, .inl (cI, 36, .inl (fun _ => (0 : Int32)))), (q16, .inr (1, [.null]))] H := hP
  have hD : va_D A [(h0, .inr (3, [.ref q5, .null, .null, .long 0, .long 0, .int 0, .int 0])), (q5, .inr (0, [.ref lc9, .ref lt9, .int 0])), (lc9, .inl (cI, 36, .inl (fun _ => (0 : Int32)))), (lt9, .inl (cI, 36, .inl (fun _ => (0 : Int32)))), (q16, .inr (1, [.null]))] := hD
  refine lv_dup hx hb dX6_init_19 rfl ?_
  refine va_new (D := D) (ci := 2) (fs := [.null, .null]) (C := RX5) (T := TX5) (N := 2) hx hb hts (by decide +kernel) tyX5 tyX5_ok hown (hts (.classLink RX6 18 RX5) (by decide +kernel)) (hts (.instantiable RX5 2) (by decide +kernel)) (hts (.initialized RX5) (by decide +kernel)) hK hP hD hS hA rfl (fun j hj => by rcases (show j = 0 ∨ j = 1 by omega) with rfl | rfl <;> rfl) (Nat.le_of_ble_eq_true rfl) (Nat.le_of_ble_eq_true rfl) dX6_init_20 (fun q20 H hP hD hS => ?_)
  refine W.widen (k := 5) (n := 78) (Nat.le_of_ble_eq_true rfl) (Nat.le_of_ble_eq_true rfl) ?_
  have hP : va_P D vwCl [(h0, .inr (3, [.ref q5, .null, .null, .long 0, .long 0, .int 0, .int 0])), (q5, .inr (0, [.ref lc9, .ref lt9, .int 0])), (lc9, .inl (cI, 36, .inl (fun _ => (0 : Int32)))), (lt9, .inl (cI, 36, .inl (fun _ => (0 : Int32)))), (q16, .inr (1, [.null])), (q20, .inr (2, [.null, .null]))] H := hP
  have hD : va_D A [(h0, .inr (3, [.ref q5, .null, .null, .long 0, .long 0, .int 0, .int 0])), (q5, .inr (0, [.ref lc9, .ref lt9, .int 0])), (lc9, .inl (cI, 36, .inl (fun _ => (0 : Int32)))), (lt9, .inl (cI, 36, .inl (fun _ => (0 : Int32)))), (q16, .inr (1, [.null])), (q20, .inr (2, [.null, .null]))] := hD
  refine lv_dup hx hb dX6_init_23 rfl ?_
  have hPc := hP.sub (ws' := [(q20, .inr (2, [.null, .null]))]) [5] rfl
  have hDc := hD.sub (ws' := [(q20, .inr (2, [.null, .null]))]) [5] (by decide) rfl
  have hFc := va_free (wc := [(q20, .inr (2, [.null, .null]))]) hD hS hA [5] rfl
  refine va_callv (va_runIN (As := []) (rest := [.ref q20, .ref q16, .ref q16, .ref h0]) ⟨hx, hb, hml, hown, hts⟩ (c_X5_init l D cI cJ H.size  q20) ⟨va_cnB 0 hts gX6_init_X5_init_n20 rfl rfl rfl hnest20 hiniX5 (by decide +kernel) ⟨Nat.le_of_ble_eq_true rfl, Nat.le_of_ble_eq_true rfl⟩, rfl, hinstX5⟩ ⟨pv_blind, fun U hU hW => ⟨rfl, by rw [hU], by rw [hU]; exact hPc, va_K.moved hW.alike hK, hDc.weaken (fun _ _ _ _ => trivial)⟩⟩ rfl rfl hl.1 rfl (lv_room (Nat.le_of_ble_eq_true rfl)) dX6_init_24 ⟨(Nat.le_of_ble_eq_true rfl), (Nat.le_of_ble_eq_true rfl)⟩) hS (fun q _ h => hFc q h) hFc (fun u t9 H1 locs hth hvm hw24 hB hz1 hk1 hS => ?_)
  obtain ⟨vf24, vv24⟩ := u
  try dsimp only at hw24
  obtain ⟨hP1, hK1, hD1⟩ := hB
  rw [hth] at hP1
  obtain ⟨hP, hD⟩ := va_join (wr := [(h0, .inr (3, [.ref q5, .null, .null, .long 0, .long 0, .int 0, .int 0])), (q5, .inr (0, [.ref lc9, .ref lt9, .int 0])), (lc9, .inl (cI, 36, .inl (fun _ => (0 : Int32)))), (lt9, .inl (cI, 36, .inl (fun _ => (0 : Int32)))), (q16, .inr (1, [.null]))]) (w1 := [(q20, .inr (2, [.ref vf24, .ref vv24])), (vf24, .inl (cJ, 1024, .inr (.inl (fun _ => (0 : Int64))))), (vv24, .inl (cI, 1024, .inl (fun _ => (0 : Int32))))]) hP hD [5] [0, 1, 2, 3, 4] rfl rfl (by decide) (by decide) hk1 hFc hP1 hD1
  generalize H1 = H at hP hS ⊢
  have hP : va_P D vwCl [(h0, .inr (3, [.ref q5, .null, .null, .long 0, .long 0, .int 0, .int 0])), (q5, .inr (0, [.ref lc9, .ref lt9, .int 0])), (lc9, .inl (cI, 36, .inl (fun _ => (0 : Int32)))), (lt9, .inl (cI, 36, .inl (fun _ => (0 : Int32)))), (q16, .inr (1, [.null])), (q20, .inr (2, [.ref vf24, .ref vv24])), (vf24, .inl (cJ, 1024, .inr (.inl (fun _ => (0 : Int64))))), (vv24, .inl (cI, 1024, .inl (fun _ => (0 : Int32))))] H := hP.sub (ws' := [(h0, .inr (3, [.ref q5, .null, .null, .long 0, .long 0, .int 0, .int 0])), (q5, .inr (0, [.ref lc9, .ref lt9, .int 0])), (lc9, .inl (cI, 36, .inl (fun _ => (0 : Int32)))), (lt9, .inl (cI, 36, .inl (fun _ => (0 : Int32)))), (q16, .inr (1, [.null])), (q20, .inr (2, [.ref vf24, .ref vv24])), (vf24, .inl (cJ, 1024, .inr (.inl (fun _ => (0 : Int64))))), (vv24, .inl (cI, 1024, .inl (fun _ => (0 : Int32))))]) [0, 1, 2, 3, 4, 5, 6, 7] rfl
  have hD : va_D A [(h0, .inr (3, [.ref q5, .null, .null, .long 0, .long 0, .int 0, .int 0])), (q5, .inr (0, [.ref lc9, .ref lt9, .int 0])), (lc9, .inl (cI, 36, .inl (fun _ => (0 : Int32)))), (lt9, .inl (cI, 36, .inl (fun _ => (0 : Int32)))), (q16, .inr (1, [.null])), (q20, .inr (2, [.ref vf24, .ref vv24])), (vf24, .inl (cJ, 1024, .inr (.inl (fun _ => (0 : Int64))))), (vv24, .inl (cI, 1024, .inl (fun _ => (0 : Int32))))] := hD.sub (ws' := [(h0, .inr (3, [.ref q5, .null, .null, .long 0, .long 0, .int 0, .int 0])), (q5, .inr (0, [.ref lc9, .ref lt9, .int 0])), (lc9, .inl (cI, 36, .inl (fun _ => (0 : Int32)))), (lt9, .inl (cI, 36, .inl (fun _ => (0 : Int32)))), (q16, .inr (1, [.null])), (q20, .inr (2, [.ref vf24, .ref vv24])), (vf24, .inl (cJ, 1024, .inr (.inl (fun _ => (0 : Int64))))), (vv24, .inl (cI, 1024, .inl (fun _ => (0 : Int32))))]) [0, 1, 2, 3, 4, 5, 6, 7] (by decide) rfl
  have hPc := hP.sub (ws' := [(q16, .inr (1, [.null]))]) [4] rfl
  have hDc := hD.sub (ws' := [(q16, .inr (1, [.null]))]) [4] (by decide) rfl
  have hFc := va_free (wc := [(q16, .inr (1, [.null]))]) hD hS hA [4] rfl
  refine va_callv (va_runI (As := [.ref q20]) (rest := [.ref q16, .ref h0]) ⟨hx, hb, hml, hown, hts⟩ (c_X3_init_t l D cI cJ H.size  q16 q20) (cwI 1 hts gX6_init_X3_init rfl rfl rfl hiniX3 hmlk21 hinstX3 rfl (by decide +kernel) ⟨Nat.le_of_ble_eq_true rfl, Nat.le_of_ble_eq_true rfl⟩) ⟨pv_blind, fun U hU hW => ⟨rfl, by rw [hU], by rw [hU]; exact hPc, va_K.moved hW.alike hK, hDc.weaken (fun _ _ _ _ => trivial)⟩⟩ rfl rfl hl.1 rfl (lv_room (Nat.le_of_ble_eq_true rfl)) dX6_init_27 ⟨(Nat.le_of_ble_eq_true rfl), (Nat.le_of_ble_eq_true rfl)⟩) hS (fun q _ h => hFc q h) hFc (fun u t9 H1 locs hth hvm hw27 hB hz1 hk1 hS => ?_)
  try dsimp only at hw27
  obtain ⟨hP1, hK1, hD1⟩ := hB
  rw [hth] at hP1
  obtain ⟨hP, hD⟩ := va_join (wr := [(h0, .inr (3, [.ref q5, .null, .null, .long 0, .long 0, .int 0, .int 0])), (q5, .inr (0, [.ref lc9, .ref lt9, .int 0])), (lc9, .inl (cI, 36, .inl (fun _ => (0 : Int32)))), (lt9, .inl (cI, 36, .inl (fun _ => (0 : Int32)))), (q20, .inr (2, [.ref vf24, .ref vv24])), (vf24, .inl (cJ, 1024, .inr (.inl (fun _ => (0 : Int64))))), (vv24, .inl (cI, 1024, .inl (fun _ => (0 : Int32))))]) (w1 := [(q16, .inr (1, [.ref q20]))]) hP hD [4] [0, 1, 2, 3, 5, 6, 7] rfl rfl (by decide) (by decide) hk1 hFc hP1 hD1
  generalize H1 = H at hP hS ⊢
  have hP : va_P D vwCl [(h0, .inr (3, [.ref q5, .null, .null, .long 0, .long 0, .int 0, .int 0])), (q5, .inr (0, [.ref lc9, .ref lt9, .int 0])), (lc9, .inl (cI, 36, .inl (fun _ => (0 : Int32)))), (lt9, .inl (cI, 36, .inl (fun _ => (0 : Int32)))), (q16, .inr (1, [.ref q20])), (q20, .inr (2, [.ref vf24, .ref vv24])), (vf24, .inl (cJ, 1024, .inr (.inl (fun _ => (0 : Int64))))), (vv24, .inl (cI, 1024, .inl (fun _ => (0 : Int32))))] H := hP.sub (ws' := [(h0, .inr (3, [.ref q5, .null, .null, .long 0, .long 0, .int 0, .int 0])), (q5, .inr (0, [.ref lc9, .ref lt9, .int 0])), (lc9, .inl (cI, 36, .inl (fun _ => (0 : Int32)))), (lt9, .inl (cI, 36, .inl (fun _ => (0 : Int32)))), (q16, .inr (1, [.ref q20])), (q20, .inr (2, [.ref vf24, .ref vv24])), (vf24, .inl (cJ, 1024, .inr (.inl (fun _ => (0 : Int64))))), (vv24, .inl (cI, 1024, .inl (fun _ => (0 : Int32))))]) [0, 1, 2, 3, 7, 4, 5, 6] rfl
  have hD : va_D A [(h0, .inr (3, [.ref q5, .null, .null, .long 0, .long 0, .int 0, .int 0])), (q5, .inr (0, [.ref lc9, .ref lt9, .int 0])), (lc9, .inl (cI, 36, .inl (fun _ => (0 : Int32)))), (lt9, .inl (cI, 36, .inl (fun _ => (0 : Int32)))), (q16, .inr (1, [.ref q20])), (q20, .inr (2, [.ref vf24, .ref vv24])), (vf24, .inl (cJ, 1024, .inr (.inl (fun _ => (0 : Int64))))), (vv24, .inl (cI, 1024, .inl (fun _ => (0 : Int32))))] := hD.sub (ws' := [(h0, .inr (3, [.ref q5, .null, .null, .long 0, .long 0, .int 0, .int 0])), (q5, .inr (0, [.ref lc9, .ref lt9, .int 0])), (lc9, .inl (cI, 36, .inl (fun _ => (0 : Int32)))), (lt9, .inl (cI, 36, .inl (fun _ => (0 : Int32)))), (q16, .inr (1, [.ref q20])), (q20, .inr (2, [.ref vf24, .ref vv24])), (vf24, .inl (cJ, 1024, .inr (.inl (fun _ => (0 : Int64))))), (vv24, .inl (cI, 1024, .inl (fun _ => (0 : Int32))))]) [0, 1, 2, 3, 7, 4, 5, 6] (by decide) rfl
  refine va_putF (D := D) (ci := 3) (v := .ref q16) (ty := .object "Twistquad$Solver") (C := RX6) (T := TX6) (N := 7) hx hb hts hinX6 tyX6 tyX6_ok nmX6 hown hK hP hD hS 0 rfl rfl 1 (by decide) hfl24 (fun _ h9 => h9) rfl hin9 rfl (by decide +kernel) rfl rfl (Nat.le_of_ble_eq_true rfl) dX6_init_30 (fun H locs hP hD hS => ?_)
  have hP : va_P D vwCl [(h0, .inr (3, [.ref q5, .ref q16, .null, .long 0, .long 0, .int 0, .int 0])), (q5, .inr (0, [.ref lc9, .ref lt9, .int 0])), (lc9, .inl (cI, 36, .inl (fun _ => (0 : Int32)))), (lt9, .inl (cI, 36, .inl (fun _ => (0 : Int32)))), (q16, .inr (1, [.ref q20])), (q20, .inr (2, [.ref vf24, .ref vv24])), (vf24, .inl (cJ, 1024, .inr (.inl (fun _ => (0 : Int64))))), (vv24, .inl (cI, 1024, .inl (fun _ => (0 : Int32))))] H := hP
  have hD : va_D A [(h0, .inr (3, [.ref q5, .ref q16, .null, .long 0, .long 0, .int 0, .int 0])), (q5, .inr (0, [.ref lc9, .ref lt9, .int 0])), (lc9, .inl (cI, 36, .inl (fun _ => (0 : Int32)))), (lt9, .inl (cI, 36, .inl (fun _ => (0 : Int32)))), (q16, .inr (1, [.ref q20])), (q20, .inr (2, [.ref vf24, .ref vv24])), (vf24, .inl (cJ, 1024, .inr (.inl (fun _ => (0 : Int64))))), (vv24, .inl (cI, 1024, .inl (fun _ => (0 : Int32))))] := hD
  refine lv_aload_n hx hb dX6_init_33 rfl (lv_at hl 0 rfl) ?_
  refine va_new (D := D) (ci := 1) (fs := [.null]) (C := RX3) (T := TX3) (N := 1) hx hb hts (by decide +kernel) tyX3 tyX3_ok hown (hts (.classLink RX6 16 RX3) (by decide +kernel)) (hts (.instantiable RX3 1) (by decide +kernel)) (hts (.initialized RX3) (by decide +kernel)) hK hP hD hS hA rfl (fun j hj => by rcases (show j = 0 by omega) with rfl <;> rfl) (Nat.le_of_ble_eq_true rfl) (Nat.le_of_ble_eq_true rfl) dX6_init_34 (fun q34 H hP hD hS => ?_)
  refine W.widen (k := 8) (n := 2127) (Nat.le_of_ble_eq_true rfl) (Nat.le_of_ble_eq_true rfl) ?_
  have hP : va_P D vwCl [(h0, .inr (3, [.ref q5, .ref q16, .null, .long 0, .long 0, .int 0, .int 0])), (q5, .inr (0, [.ref lc9, .ref lt9, .int 0])), (lc9, .inl (cI, 36, .inl (fun _ => (0 : Int32)))), (lt9, .inl (cI, 36, .inl (fun _ => (0 : Int32)))), (q16, .inr (1, [.ref q20])), (q20, .inr (2, [.ref vf24, .ref vv24])), (vf24, .inl (cJ, 1024, .inr (.inl (fun _ => (0 : Int64))))), (vv24, .inl (cI, 1024, .inl (fun _ => (0 : Int32)))), (q34, .inr (1, [.null]))] H := hP
  have hD : va_D A [(h0, .inr (3, [.ref q5, .ref q16, .null, .long 0, .long 0, .int 0, .int 0])), (q5, .inr (0, [.ref lc9, .ref lt9, .int 0])), (lc9, .inl (cI, 36, .inl (fun _ => (0 : Int32)))), (lt9, .inl (cI, 36, .inl (fun _ => (0 : Int32)))), (q16, .inr (1, [.ref q20])), (q20, .inr (2, [.ref vf24, .ref vv24])), (vf24, .inl (cJ, 1024, .inr (.inl (fun _ => (0 : Int64))))), (vv24, .inl (cI, 1024, .inl (fun _ => (0 : Int32)))), (q34, .inr (1, [.null]))] := hD
  refine lv_dup hx hb dX6_init_37 rfl ?_
  refine lv_null hx hb dX6_init_38 ?_
  have hPc := hP.sub (ws' := [(q34, .inr (1, [.null]))]) [8] rfl
  have hDc := hD.sub (ws' := [(q34, .inr (1, [.null]))]) [8] (by decide) rfl
  have hFc := va_free (wc := [(q34, .inr (1, [.null]))]) hD hS hA [8] rfl
  refine va_callv (va_runI (As := [.null]) (rest := [.ref q34, .ref h0]) ⟨hx, hb, hml, hown, hts⟩ (c_X3_init_n l D cI cJ H.size  q34) (cwI 1 hts gX6_init_X3_init rfl rfl rfl hiniX3 hmlk21 hinstX3 rfl (by decide +kernel) ⟨Nat.le_of_ble_eq_true rfl, Nat.le_of_ble_eq_true rfl⟩) ⟨pv_blind, fun U hU hW => ⟨rfl, by rw [hU], by rw [hU]; exact hPc, va_K.moved hW.alike hK, hDc.weaken (fun _ _ _ _ => trivial)⟩⟩ rfl rfl hl.1 rfl (lv_room (Nat.le_of_ble_eq_true rfl)) dX6_init_39 ⟨(Nat.le_of_ble_eq_true rfl), (Nat.le_of_ble_eq_true rfl)⟩) hS (fun q _ h => hFc q h) hFc (fun u t9 H1 locs hth hvm hw39 hB hz1 hk1 hS => ?_)
  try dsimp only at hw39
  obtain ⟨hP1, hK1, hD1⟩ := hB
  rw [hth] at hP1
  obtain ⟨hP, hD⟩ := va_join (wr := [(h0, .inr (3, [.ref q5, .ref q16, .null, .long 0, .long 0, .int 0, .int 0])), (q5, .inr (0, [.ref lc9, .ref lt9, .int 0])), (lc9, .inl (cI, 36, .inl (fun _ => (0 : Int32)))), (lt9, .inl (cI, 36, .inl (fun _ => (0 : Int32)))), (q16, .inr (1, [.ref q20])), (q20, .inr (2, [.ref vf24, .ref vv24])), (vf24, .inl (cJ, 1024, .inr (.inl (fun _ => (0 : Int64))))), (vv24, .inl (cI, 1024, .inl (fun _ => (0 : Int32))))]) (w1 := [(q34, .inr (1, [.null]))]) hP hD [8] [0, 1, 2, 3, 4, 5, 6, 7] rfl rfl (by decide) (by decide) hk1 hFc hP1 hD1
  generalize H1 = H at hP hS ⊢
  have hP : va_P D vwCl [(h0, .inr (3, [.ref q5, .ref q16, .null, .long 0, .long 0, .int 0, .int 0])), (q5, .inr (0, [.ref lc9, .ref lt9, .int 0])), (lc9, .inl (cI, 36, .inl (fun _ => (0 : Int32)))), (lt9, .inl (cI, 36, .inl (fun _ => (0 : Int32)))), (q16, .inr (1, [.ref q20])), (q20, .inr (2, [.ref vf24, .ref vv24])), (vf24, .inl (cJ, 1024, .inr (.inl (fun _ => (0 : Int64))))), (vv24, .inl (cI, 1024, .inl (fun _ => (0 : Int32)))), (q34, .inr (1, [.null]))] H := hP.sub (ws' := [(h0, .inr (3, [.ref q5, .ref q16, .null, .long 0, .long 0, .int 0, .int 0])), (q5, .inr (0, [.ref lc9, .ref lt9, .int 0])), (lc9, .inl (cI, 36, .inl (fun _ => (0 : Int32)))), (lt9, .inl (cI, 36, .inl (fun _ => (0 : Int32)))), (q16, .inr (1, [.ref q20])), (q20, .inr (2, [.ref vf24, .ref vv24])), (vf24, .inl (cJ, 1024, .inr (.inl (fun _ => (0 : Int64))))), (vv24, .inl (cI, 1024, .inl (fun _ => (0 : Int32)))), (q34, .inr (1, [.null]))]) [0, 1, 2, 3, 4, 5, 6, 7, 8] rfl
  have hD : va_D A [(h0, .inr (3, [.ref q5, .ref q16, .null, .long 0, .long 0, .int 0, .int 0])), (q5, .inr (0, [.ref lc9, .ref lt9, .int 0])), (lc9, .inl (cI, 36, .inl (fun _ => (0 : Int32)))), (lt9, .inl (cI, 36, .inl (fun _ => (0 : Int32)))), (q16, .inr (1, [.ref q20])), (q20, .inr (2, [.ref vf24, .ref vv24])), (vf24, .inl (cJ, 1024, .inr (.inl (fun _ => (0 : Int64))))), (vv24, .inl (cI, 1024, .inl (fun _ => (0 : Int32)))), (q34, .inr (1, [.null]))] := hD.sub (ws' := [(h0, .inr (3, [.ref q5, .ref q16, .null, .long 0, .long 0, .int 0, .int 0])), (q5, .inr (0, [.ref lc9, .ref lt9, .int 0])), (lc9, .inl (cI, 36, .inl (fun _ => (0 : Int32)))), (lt9, .inl (cI, 36, .inl (fun _ => (0 : Int32)))), (q16, .inr (1, [.ref q20])), (q20, .inr (2, [.ref vf24, .ref vv24])), (vf24, .inl (cJ, 1024, .inr (.inl (fun _ => (0 : Int64))))), (vv24, .inl (cI, 1024, .inl (fun _ => (0 : Int32)))), (q34, .inr (1, [.null]))]) [0, 1, 2, 3, 4, 5, 6, 7, 8] (by decide) rfl
  refine va_putF (D := D) (ci := 3) (v := .ref q34) (ty := .object "Twistquad$Solver") (C := RX6) (T := TX6) (N := 7) hx hb hts hinX6 tyX6 tyX6_ok nmX6 hown hK hP hD hS 0 rfl rfl 2 (by decide) hfl28 (fun _ h9 => h9) rfl hin9 rfl (by decide +kernel) rfl rfl (Nat.le_of_ble_eq_true rfl) dX6_init_42 (fun H locs hP hD hS => ?_)
  have hP : va_P D vwCl [(h0, .inr (3, [.ref q5, .ref q16, .ref q34, .long 0, .long 0, .int 0, .int 0])), (q5, .inr (0, [.ref lc9, .ref lt9, .int 0])), (lc9, .inl (cI, 36, .inl (fun _ => (0 : Int32)))), (lt9, .inl (cI, 36, .inl (fun _ => (0 : Int32)))), (q16, .inr (1, [.ref q20])), (q20, .inr (2, [.ref vf24, .ref vv24])), (vf24, .inl (cJ, 1024, .inr (.inl (fun _ => (0 : Int64))))), (vv24, .inl (cI, 1024, .inl (fun _ => (0 : Int32)))), (q34, .inr (1, [.null]))] H := hP
  have hD : va_D A [(h0, .inr (3, [.ref q5, .ref q16, .ref q34, .long 0, .long 0, .int 0, .int 0])), (q5, .inr (0, [.ref lc9, .ref lt9, .int 0])), (lc9, .inl (cI, 36, .inl (fun _ => (0 : Int32)))), (lt9, .inl (cI, 36, .inl (fun _ => (0 : Int32)))), (q16, .inr (1, [.ref q20])), (q20, .inr (2, [.ref vf24, .ref vv24])), (vf24, .inl (cJ, 1024, .inr (.inl (fun _ => (0 : Int64))))), (vv24, .inl (cI, 1024, .inl (fun _ => (0 : Int32)))), (q34, .inr (1, [.null]))] := hD
  refine lv_aload_n hx hb dX6_init_45 rfl (lv_at hl 0 rfl) ?_
  refine lv_iconst (v := 0) hx hb dX6_init_46 (by decide) ?_
  refine va_put (D := D) (ci := 3) (v := .int 0) (ty := .int) (C := RX6) (T := TX6) (N := 7) hx hb hts hinX6 tyX6 tyX6_ok nmX6 hown hK hP hD hS 0 rfl rfl 6 (by decide) hfl31 (fun _ h9 => h9) rfl (by decide +kernel) rfl rfl (Nat.le_of_ble_eq_true rfl) dX6_init_47 (fun H locs hP hD hS => ?_)
  have hP : va_P D vwCl [(h0, .inr (3, [.ref q5, .ref q16, .ref q34, .long 0, .long 0, .int 0, .int 0])), (q5, .inr (0, [.ref lc9, .ref lt9, .int 0])), (lc9, .inl (cI, 36, .inl (fun _ => (0 : Int32)))), (lt9, .inl (cI, 36, .inl (fun _ => (0 : Int32)))), (q16, .inr (1, [.ref q20])), (q20, .inr (2, [.ref vf24, .ref vv24])), (vf24, .inl (cJ, 1024, .inr (.inl (fun _ => (0 : Int64))))), (vv24, .inl (cI, 1024, .inl (fun _ => (0 : Int32)))), (q34, .inr (1, [.null]))] H := hP
  have hD : va_D A [(h0, .inr (3, [.ref q5, .ref q16, .ref q34, .long 0, .long 0, .int 0, .int 0])), (q5, .inr (0, [.ref lc9, .ref lt9, .int 0])), (lc9, .inl (cI, 36, .inl (fun _ => (0 : Int32)))), (lt9, .inl (cI, 36, .inl (fun _ => (0 : Int32)))), (q16, .inr (1, [.ref q20])), (q20, .inr (2, [.ref vf24, .ref vv24])), (vf24, .inl (cJ, 1024, .inr (.inl (fun _ => (0 : Int64))))), (vv24, .inl (cI, 1024, .inl (fun _ => (0 : Int32)))), (q34, .inr (1, [.null]))] := hD
  refine W.widen (k := 8) (n := 2127) (Nat.le_of_ble_eq_true rfl) (Nat.le_of_ble_eq_true rfl) ?_
  have hP : va_P D vwCl [(h0, .inr (3, [.ref q5, .ref q16, .ref q34, .long 0, .long 0, .int 0, .int 0])), (q5, .inr (0, [.ref lc9, .ref lt9, .int 0])), (lc9, .inl (cI, 36, .inl (fun _ => (0 : Int32)))), (lt9, .inl (cI, 36, .inl (fun _ => (0 : Int32)))), (q16, .inr (1, [.ref q20])), (q20, .inr (2, [.ref vf24, .ref vv24])), (vf24, .inl (cJ, 1024, .inr (.inl (fun _ => (0 : Int64))))), (vv24, .inl (cI, 1024, .inl (fun _ => (0 : Int32)))), (q34, .inr (1, [.null]))] H := hP.sub (ws' := [(h0, .inr (3, [.ref q5, .ref q16, .ref q34, .long 0, .long 0, .int 0, .int 0])), (q5, .inr (0, [.ref lc9, .ref lt9, .int 0])), (lc9, .inl (cI, 36, .inl (fun _ => (0 : Int32)))), (lt9, .inl (cI, 36, .inl (fun _ => (0 : Int32)))), (q16, .inr (1, [.ref q20])), (q20, .inr (2, [.ref vf24, .ref vv24])), (vf24, .inl (cJ, 1024, .inr (.inl (fun _ => (0 : Int64))))), (vv24, .inl (cI, 1024, .inl (fun _ => (0 : Int32)))), (q34, .inr (1, [.null]))]) [0, 1, 2, 3, 4, 5, 6, 7, 8] rfl
  have hD : va_D A [(h0, .inr (3, [.ref q5, .ref q16, .ref q34, .long 0, .long 0, .int 0, .int 0])), (q5, .inr (0, [.ref lc9, .ref lt9, .int 0])), (lc9, .inl (cI, 36, .inl (fun _ => (0 : Int32)))), (lt9, .inl (cI, 36, .inl (fun _ => (0 : Int32)))), (q16, .inr (1, [.ref q20])), (q20, .inr (2, [.ref vf24, .ref vv24])), (vf24, .inl (cJ, 1024, .inr (.inl (fun _ => (0 : Int64))))), (vv24, .inl (cI, 1024, .inl (fun _ => (0 : Int32)))), (q34, .inr (1, [.null]))] := hD.sub (ws' := [(h0, .inr (3, [.ref q5, .ref q16, .ref q34, .long 0, .long 0, .int 0, .int 0])), (q5, .inr (0, [.ref lc9, .ref lt9, .int 0])), (lc9, .inl (cI, 36, .inl (fun _ => (0 : Int32)))), (lt9, .inl (cI, 36, .inl (fun _ => (0 : Int32)))), (q16, .inr (1, [.ref q20])), (q20, .inr (2, [.ref vf24, .ref vv24])), (vf24, .inl (cJ, 1024, .inr (.inl (fun _ => (0 : Int64))))), (vv24, .inl (cI, 1024, .inl (fun _ => (0 : Int32)))), (q34, .inr (1, [.null]))]) [0, 1, 2, 3, 4, 5, 6, 7, 8] (by decide) rfl
  refine W.vret hx hb hr (fun tt ht hW => ⟨⟨(q5, lc9, lt9, q16, q20, vf24, vv24, q34), rfl, ?_, by rw [ht]; exact hP, va_K.moved hW.alike hK, hD⟩, hS.F ht⟩) hS.2.2 dX6_init_50
  trivial

set_option maxHeartbeats 400000 in
set_option maxRecDepth 100000 in
theorem c_X7_init (l : Launch) (D : va_G) (cI cJ : ClassId) (sz : Nat) (h0 : Nat) : Met l yX7_init wsX7_init ({ frames := 1, cells := 9, slots := 108, locals := 40 } : Room) (va_Pc [.ref h0] (pv_C D cI cJ [(h0, .inr (4, [.int 0, .null, .int 0, .int 0, .int 0, .null, .null, .int 0, .null, .null, .null, .null, .null, .null, .int 0]))] sz)) (va_Qv (fun (u : (Nat) × (Nat) × (Nat) × (Nat) × (Nat) × (Nat) × (Nat) × (Nat) × (Nat)) => True) (fun (u : (Nat) × (Nat) × (Nat) × (Nat) × (Nat) × (Nat) × (Nat) × (Nat) × (Nat)) => pv_B D cI cJ (va_A [(h0, .inr (4, [.int 0, .null, .int 0, .int 0, .int 0, .null, .null, .int 0, .null, .null, .null, .null, .null, .null, .int 0]))] sz) [(h0, .inr (4, [.int 0, .ref u.1, .int 0, .int 1, .int 0, .ref u.2.1, .ref u.2.2.1, .int 0, .ref u.2.2.2.1, .ref u.2.2.2.2.1, .ref u.2.2.2.2.2.1, .ref u.2.2.2.2.2.2.1, .ref u.2.2.2.2.2.2.2.1, .ref u.2.2.2.2.2.2.2.2, .int 0])), (u.1, .inl (cJ, 3, .inr (.inl (fun _ => (0 : Int64))))), (u.2.1, .inl (cI, 36, .inl (fun _ => (0 : Int32)))), (u.2.2.1, .inl (cI, 36, .inl (fun _ => (0 : Int32)))), (u.2.2.2.1, .inl (cJ, 3, .inr (.inl (fun _ => (0 : Int64))))), (u.2.2.2.2.1, .inl (cJ, 6, .inr (.inl (fun _ => (0 : Int64))))), (u.2.2.2.2.2.1, .inl (cJ, 6, .inr (.inl (fun _ => (0 : Int64))))), (u.2.2.2.2.2.2.1, .inl (cI, 6, .inl (fun _ => (0 : Int32)))), (u.2.2.2.2.2.2.2.1, .inl (cI, 6, .inl (fun _ => (0 : Int32)))), (u.2.2.2.2.2.2.2.2, .inl (cI, 6, .inl (fun _ => (0 : Int32))))]) (va_A [(h0, .inr (4, [.int 0, .null, .int 0, .int 0, .int 0, .null, .null, .int 0, .null, .null, .null, .null, .null, .null, .int 0]))] sz)) 9 108 (va_A [(h0, .inr (4, [.int 0, .null, .int 0, .int 0, .int 0, .null, .null, .int 0, .null, .null, .null, .null, .null, .null, .int 0]))] sz) := by
  refine Met.ofW (cc := cX7_init) (maxL := 1) (ret := none) (by decide) rfl ?_
  intro p e s m args below meth c s₁ B hml hv
  obtain ⟨rfl, rfl, hP, hK, hD0⟩ := hv
  have hx := B.exec
  have hb := B.bytes
  have hr := B.returns
  have hts := atoms_spec (ws := wsX7_init) B.pre
  have hown : s.vm.findClass RX7 = some m.cls := findClass_of_methodNamed B.named
  have hlocks := B.notSynchronized
  have hin9 : meth.name = "<init>" := (name_of_methodNamed B.named B.method).1
  have hD := hD0.self (sz := s.heap.size)
  generalize hAe : va_A [(h0, .inr (4, [.int 0, .null, .int 0, .int 0, .int 0, .null, .null, .int 0, .null, .null, .null, .null, .null, .null, .int 0]))] s.heap.size = A at hD ⊢
  have hA : ∀ q : Nat, s.heap.size ≤ q → A q := fun q h => by rw [← hAe]; exact Or.inr h
  have hS : va_S A s.heap s.heap [] := va_S.rf
  have hinX7 : ∀ w ∈ wsX70, w ∈ wsX7_init := by decide +kernel
  have hfl7 : (Cond.fieldLink RX7 7 "TwistquadModel" "own" "[J").before ([.ref h0] : List Value).toArray s = true := hts _ (by decide +kernel)
  have hfl13 : (Cond.fieldLink RX7 13 "TwistquadModel" "mover" "I").before ([.ref h0] : List Value).toArray s = true := hts _ (by decide +kernel)
  have hfl17 : (Cond.fieldLink RX7 17 "TwistquadModel" "cells" "[I").before ([.ref h0] : List Value).toArray s = true := hts _ (by decide +kernel)
  have hfl21 : (Cond.fieldLink RX7 21 "TwistquadModel" "turns" "[I").before ([.ref h0] : List Value).toArray s = true := hts _ (by decide +kernel)
  have hfl24 : (Cond.fieldLink RX7 24 "TwistquadModel" "look" "[J").before ([.ref h0] : List Value).toArray s = true := hts _ (by decide +kernel)
  have hfl27 : (Cond.fieldLink RX7 27 "TwistquadModel" "firsts" "[J").before ([.ref h0] : List Value).toArray s = true := hts _ (by decide +kernel)
  have hfl30 : (Cond.fieldLink RX7 30 "TwistquadModel" "seconds" "[J").before ([.ref h0] : List Value).toArray s = true := hts _ (by decide +kernel)
  have hfl33 : (Cond.fieldLink RX7 33 "TwistquadModel" "movers" "[I").before ([.ref h0] : List Value).toArray s = true := hts _ (by decide +kernel)
  have hfl36 : (Cond.fieldLink RX7 36 "TwistquadModel" "nexts" "[I").before ([.ref h0] : List Value).toArray s = true := hts _ (by decide +kernel)
  have hfl39 : (Cond.fieldLink RX7 39 "TwistquadModel" "bests" "[I").before ([.ref h0] : List Value).toArray s = true := hts _ (by decide +kernel)
  have hl := lv_entry ([.ref h0]) (n := 1) (Nat.le_of_ble_eq_true rfl)
  rw [lg_entry_eq]
  generalize (lg_sl ([.ref h0]) ++ List.replicate (1 - (lg_sl ([.ref h0])).length) Slot.unset).toArray = ls at hl ⊢
  have hl : lv_has ls 1 [(0, .ref h0)] := hl
  refine lv_aload_n hx hb dX7_init_0 rfl (lv_at hl 0 rfl) ?_
  refine W.objInit hx hb hown (hts (.methodLink RX7 1 objectInit) (by decide +kernel)) (hts (.instanceMethod objectInit) (by decide +kernel)) (hts _ (List.mem_of_getElem? (i := 3) (rfl : _ = some (Cond.code objectInit ⟨#[0xb1]⟩ 1 none)))) rfl (by rw [hml]; exact hl.1) rfl dX7_init_1 (Nat.le_of_ble_eq_true rfl) (Nat.le_of_ble_eq_true rfl) ?_
  refine W.eq (g2 := F0 m 4 ls []) rfl ?_
  refine lv_aload_n hx hb dX7_init_4 rfl (lv_at hl 0 rfl) ?_
  refine lv_iconst (v := 3) hx hb dX7_init_5 (by decide) ?_
  refine va_newa (D := D) (atype := .long) (ty := .long) (n := 3) (N' := 3) (a0 := (3, .inr (.inl (fun _ => (0 : Int64))))) hx hb (hts (.arrayClass .long) (by decide +kernel)) rfl hK hP hD hS hA (fun _ => rfl) (by decide) (by decide) (Nat.le_of_ble_eq_true rfl) (Nat.le_of_ble_eq_true rfl) (Nat.le_of_ble_eq_true rfl) dX7_init_6 (fun q6 cA H hK hP hD hS => ?_)
  have e9 : cA = cJ := arr_one (hK.2 2 _ rfl).2 (hK.2 1 _ rfl).2
  rw [e9] at hP hD
  have hK : va_K D vwCl [(cI, .int), (cJ, .long)] s := hK.sub (tys' := [(cI, .int), (cJ, .long)]) [0, 1] rfl
  refine W.widen (k := 1) (n := 3) (Nat.le_of_ble_eq_true rfl) (Nat.le_of_ble_eq_true rfl) ?_
  have hP : va_P D vwCl [(h0, .inr (4, [.int 0, .null, .int 0, .int 0, .int 0, .null, .null, .int 0, .null, .null, .null, .null, .null, .null, .int 0])), (q6, .inl (cJ, 3, .inr (.inl (fun _ => (0 : Int64)))))] H := hP
  have hD : va_D A [(h0, .inr (4, [.int 0, .null, .int 0, .int 0, .int 0, .null, .null, .int 0, .null, .null, .null, .null, .null, .null, .int 0])), (q6, .inl (cJ, 3, .inr (.inl (fun _ => (0 : Int64)))))] := hD
  refine va_putF (D := D) (ci := 4) (v := .ref q6) (ty := .array .long) (C := RX7) (T := TX7) (N := 15) hx hb hts hinX7 tyX7 tyX7_ok nmX7 hown hK hP hD hS 0 rfl rfl 1 (by decide) hfl7 (fun _ h9 => h9) rfl hin9 rfl (by decide +kernel) rfl rfl (Nat.le_of_ble_eq_true rfl) dX7_init_8 (fun H locs hP hD hS => ?_)
  have hP : va_P D vwCl [(h0, .inr (4, [.int 0, .ref q6, .int 0, .int 0, .int 0, .null, .null, .int 0, .null, .null, .null, .null, .null, .null, .int 0])), (q6, .inl (cJ, 3, .inr (.inl (fun _ => (0 : Int64)))))] H := hP
  have hD : va_D A [(h0, .inr (4, [.int 0, .ref q6, .int 0, .int 0, .int 0, .null, .null, .int 0, .null, .null, .null, .null, .null, .null, .int 0])), (q6, .inl (cJ, 3, .inr (.inl (fun _ => (0 : Int64)))))] := hD
  refine lv_aload_n hx hb dX7_init_11 rfl (lv_at hl 0 rfl) ?_
  refine lv_iconst (v := 1) hx hb dX7_init_12 (by decide) ?_
  refine va_put (D := D) (ci := 4) (v := .int 1) (ty := .int) (C := RX7) (T := TX7) (N := 15) hx hb hts hinX7 tyX7 tyX7_ok nmX7 hown hK hP hD hS 0 rfl rfl 3 (by decide) hfl13 (fun _ h9 => h9) rfl (by decide +kernel) rfl rfl (Nat.le_of_ble_eq_true rfl) dX7_init_13 (fun H locs hP hD hS => ?_)
  have hP : va_P D vwCl [(h0, .inr (4, [.int 0, .ref q6, .int 0, .int 1, .int 0, .null, .null, .int 0, .null, .null, .null, .null, .null, .null, .int 0])), (q6, .inl (cJ, 3, .inr (.inl (fun _ => (0 : Int64)))))] H := hP
  have hD : va_D A [(h0, .inr (4, [.int 0, .ref q6, .int 0, .int 1, .int 0, .null, .null, .int 0, .null, .null, .null, .null, .null, .null, .int 0])), (q6, .inl (cJ, 3, .inr (.inl (fun _ => (0 : Int64)))))] := hD
  refine lv_aload_n hx hb dX7_init_16 rfl (lv_at hl 0 rfl) ?_
  refine lv_bipush (v := 36) hx hb dX7_init_17 (by decide) ?_
  refine va_newa (D := D) (atype := .int) (ty := .int) (n := 36) (N' := 36) (a0 := (36, .inl (fun _ => (0 : Int32)))) hx hb (hts (.arrayClass .int) (by decide +kernel)) rfl hK hP hD hS hA (fun _ => rfl) (by decide) (by decide) (Nat.le_of_ble_eq_true rfl) (Nat.le_of_ble_eq_true rfl) (Nat.le_of_ble_eq_true rfl) dX7_init_19 (fun q19 cA H hK hP hD hS => ?_)
  have e9 : cA = cI := arr_one (hK.2 2 _ rfl).2 (hK.2 0 _ rfl).2
  rw [e9] at hP hD
  have hK : va_K D vwCl [(cI, .int), (cJ, .long)] s := hK.sub (tys' := [(cI, .int), (cJ, .long)]) [0, 1] rfl
  refine W.widen (k := 2) (n := 39) (Nat.le_of_ble_eq_true rfl) (Nat.le_of_ble_eq_true rfl) ?_
  have hP : va_P D vwCl [(h0, .inr (4, [.int 0, .ref q6, .int 0, .int 1, .int 0, .null, .null, .int 0, .null, .null, .null, .null, .null, .null, .int 0])), (q6, .inl (cJ, 3, .inr (.inl (fun _ => (0 : Int64))))), (q19, .inl (cI, 36, .inl (fun _ => (0 : Int32))))] H := hP
  have hD : va_D A [(h0, .inr (4, [.int 0, .ref q6, .int 0, .int 1, .int 0, .null, .null, .int 0, .null, .null, .null, .null, .null, .null, .int 0])), (q6, .inl (cJ, 3, .inr (.inl (fun _ => (0 : Int64))))), (q19, .inl (cI, 36, .inl (fun _ => (0 : Int32))))] := hD
  refine va_putF (D := D) (ci := 4) (v := .ref q19) (ty := .array .int) (C := RX7) (T := TX7) (N := 15) hx hb hts hinX7 tyX7 tyX7_ok nmX7 hown hK hP hD hS 0 rfl rfl 5 (by decide) hfl17 (fun _ h9 => h9) rfl hin9 rfl (by decide +kernel) rfl rfl (Nat.le_of_ble_eq_true rfl) dX7_init_21 (fun H locs hP hD hS => ?_)
  have hP : va_P D vwCl [(h0, .inr (4, [.int 0, .ref q6, .int 0, .int 1, .int 0, .ref q19, .null, .int 0, .null, .null, .null, .null, .null, .null, .int 0])), (q6, .inl (cJ, 3, .inr (.inl (fun _ => (0 : Int64))))), (q19, .inl (cI, 36, .inl (fun _ => (0 : Int32))))] H := hP
  have hD : va_D A [(h0, .inr (4, [.int 0, .ref q6, .int 0, .int 1, .int 0, .ref q19, .null, .int 0, .null, .null, .null, .null, .null, .null, .int 0])), (q6, .inl (cJ, 3, .inr (.inl (fun _ => (0 : Int64))))), (q19, .inl (cI, 36, .inl (fun _ => (0 : Int32))))] := hD
  refine lv_aload_n hx hb dX7_init_24 rfl (lv_at hl 0 rfl) ?_
  refine lv_bipush (v := 36) hx hb dX7_init_25 (by decide) ?_
  refine va_newa (D := D) (atype := .int) (ty := .int) (n := 36) (N' := 36) (a0 := (36, .inl (fun _ => (0 : Int32)))) hx hb (hts (.arrayClass .int) (by decide +kernel)) rfl hK hP hD hS hA (fun _ => rfl) (by decide) (by decide) (Nat.le_of_ble_eq_true rfl) (Nat.le_of_ble_eq_true rfl) (Nat.le_of_ble_eq_true rfl) dX7_init_27 (fun q27 cA H hK hP hD hS => ?_)
  have e9 : cA = cI := arr_one (hK.2 2 _ rfl).2 (hK.2 0 _ rfl).2
  rw [e9] at hP hD
  have hK : va_K D vwCl [(cI, .int), (cJ, .long)] s := hK.sub (tys' := [(cI, .int), (cJ, .long)]) [0, 1] rfl
  refine W.widen (k := 3) (n := 75) (Nat.le_of_ble_eq_true rfl) (Nat.le_of_ble_eq_true rfl) ?_
  have hP : va_P D vwCl [(h0, .inr (4, [.int 0, .ref q6, .int 0, .int 1, .int 0, .ref q19, .null, .int 0, .null, .null, .null, .null, .null, .null, .int 0])), (q6, .inl (cJ, 3, .inr (.inl (fun _ => (0 : Int64))))), (q19, .inl (cI, 36, .inl (fun _ => (0 : Int32)))), (q27, .inl (cI, 36, .inl (fun _ => (0 : Int32))))] H := hP
  have hD : va_D A [(h0, .inr (4, [.int 0, .ref q6, .int 0, .int 1, .int 0, .ref q19, .null, .int 0, .null, .null, .null, .null, .null, .null, .int 0])), (q6, .inl (cJ, 3, .inr (.inl (fun _ => (0 : Int64))))), (q19, .inl (cI, 36, .inl (fun _ => (0 : Int32)))), (q27, .inl (cI, 36, .inl (fun _ => (0 : Int32))))] := hD
  refine va_putF (D := D) (ci := 4) (v := .ref q27) (ty := .array .int) (C := RX7) (T := TX7) (N := 15) hx hb hts hinX7 tyX7 tyX7_ok nmX7 hown hK hP hD hS 0 rfl rfl 6 (by decide) hfl21 (fun _ h9 => h9) rfl hin9 rfl (by decide +kernel) rfl rfl (Nat.le_of_ble_eq_true rfl) dX7_init_29 (fun H locs hP hD hS => ?_)
  have hP : va_P D vwCl [(h0, .inr (4, [.int 0, .ref q6, .int 0, .int 1, .int 0, .ref q19, .ref q27, .int 0, .null, .null, .null, .null, .null, .null, .int 0])), (q6, .inl (cJ, 3, .inr (.inl (fun _ => (0 : Int64))))), (q19, .inl (cI, 36, .inl (fun _ => (0 : Int32)))), (q27, .inl (cI, 36, .inl (fun _ => (0 : Int32))))] H := hP
  have hD : va_D A [(h0, .inr (4, [.int 0, .ref q6, .int 0, .int 1, .int 0, .ref q19, .ref q27, .int 0, .null, .null, .null, .null, .null, .null, .int 0])), (q6, .inl (cJ, 3, .inr (.inl (fun _ => (0 : Int64))))), (q19, .inl (cI, 36, .inl (fun _ => (0 : Int32)))), (q27, .inl (cI, 36, .inl (fun _ => (0 : Int32))))] := hD
  refine lv_aload_n hx hb dX7_init_32 rfl (lv_at hl 0 rfl) ?_
  refine lv_iconst (v := 3) hx hb dX7_init_33 (by decide) ?_
  refine va_newa (D := D) (atype := .long) (ty := .long) (n := 3) (N' := 3) (a0 := (3, .inr (.inl (fun _ => (0 : Int64))))) hx hb (hts (.arrayClass .long) (by decide +kernel)) rfl hK hP hD hS hA (fun _ => rfl) (by decide) (by decide) (Nat.le_of_ble_eq_true rfl) (Nat.le_of_ble_eq_true rfl) (Nat.le_of_ble_eq_true rfl) dX7_init_34 (fun q34 cA H hK hP hD hS => ?_)
  have e9 : cA = cJ := arr_one (hK.2 2 _ rfl).2 (hK.2 1 _ rfl).2
  rw [e9] at hP hD
  have hK : va_K D vwCl [(cI, .int), (cJ, .long)] s := hK.sub (tys' := [(cI, .int), (cJ, .long)]) [0, 1] rfl
  refine W.widen (k := 4) (n := 78) (Nat.le_of_ble_eq_true rfl) (Nat.le_of_ble_eq_true rfl) ?_
  have hP : va_P D vwCl [(h0, .inr (4, [.int 0, .ref q6, .int 0, .int 1, .int 0, .ref q19, .ref q27, .int 0, .null, .null, .null, .null, .null, .null, .int 0])), (q6, .inl (cJ, 3, .inr (.inl (fun _ => (0 : Int64))))), (q19, .inl (cI, 36, .inl (fun _ => (0 : Int32)))), (q27, .inl (cI, 36, .inl (fun _ => (0 : Int32)))), (q34, .inl (cJ, 3, .inr (.inl (fun _ => (0 : Int64)))))] H := hP
  have hD : va_D A [(h0, .inr (4, [.int 0, .ref q6, .int 0, .int 1, .int 0, .ref q19, .ref q27, .int 0, .null, .null, .null, .null, .null, .null, .int 0])), (q6, .inl (cJ, 3, .inr (.inl (fun _ => (0 : Int64))))), (q19, .inl (cI, 36, .inl (fun _ => (0 : Int32)))), (q27, .inl (cI, 36, .inl (fun _ => (0 : Int32)))), (q34, .inl (cJ, 3, .inr (.inl (fun _ => (0 : Int64)))))] := hD
  refine va_putF (D := D) (ci := 4) (v := .ref q34) (ty := .array .long) (C := RX7) (T := TX7) (N := 15) hx hb hts hinX7 tyX7 tyX7_ok nmX7 hown hK hP hD hS 0 rfl rfl 8 (by decide) hfl24 (fun _ h9 => h9) rfl hin9 rfl (by decide +kernel) rfl rfl (Nat.le_of_ble_eq_true rfl) dX7_init_36 (fun H locs hP hD hS => ?_)
  have hP : va_P D vwCl [(h0, .inr (4, [.int 0, .ref q6, .int 0, .int 1, .int 0, .ref q19, .ref q27, .int 0, .ref q34, .null, .null, .null, .null, .null, .int 0])), (q6, .inl (cJ, 3, .inr (.inl (fun _ => (0 : Int64))))), (q19, .inl (cI, 36, .inl (fun _ => (0 : Int32)))), (q27, .inl (cI, 36, .inl (fun _ => (0 : Int32)))), (q34, .inl (cJ, 3, .inr (.inl (fun _ => (0 : Int64)))))] H := hP
  have hD : va_D A [(h0, .inr (4, [.int 0, .ref q6, .int 0, .int 1, .int 0, .ref q19, .ref q27, .int 0, .ref q34, .null, .null, .null, .null, .null, .int 0])), (q6, .inl (cJ, 3, .inr (.inl (fun _ => (0 : Int64))))), (q19, .inl (cI, 36, .inl (fun _ => (0 : Int32)))), (q27, .inl (cI, 36, .inl (fun _ => (0 : Int32)))), (q34, .inl (cJ, 3, .inr (.inl (fun _ => (0 : Int64)))))] := hD
  refine lv_aload_n hx hb dX7_init_39 rfl (lv_at hl 0 rfl) ?_
  refine lv_bipush (v := 6) hx hb dX7_init_40 (by decide) ?_
  refine va_newa (D := D) (atype := .long) (ty := .long) (n := 6) (N' := 6) (a0 := (6, .inr (.inl (fun _ => (0 : Int64))))) hx hb (hts (.arrayClass .long) (by decide +kernel)) rfl hK hP hD hS hA (fun _ => rfl) (by decide) (by decide) (Nat.le_of_ble_eq_true rfl) (Nat.le_of_ble_eq_true rfl) (Nat.le_of_ble_eq_true rfl) dX7_init_42 (fun q42 cA H hK hP hD hS => ?_)
  have e9 : cA = cJ := arr_one (hK.2 2 _ rfl).2 (hK.2 1 _ rfl).2
  rw [e9] at hP hD
  have hK : va_K D vwCl [(cI, .int), (cJ, .long)] s := hK.sub (tys' := [(cI, .int), (cJ, .long)]) [0, 1] rfl
  refine W.widen (k := 5) (n := 84) (Nat.le_of_ble_eq_true rfl) (Nat.le_of_ble_eq_true rfl) ?_
  have hP : va_P D vwCl [(h0, .inr (4, [.int 0, .ref q6, .int 0, .int 1, .int 0, .ref q19, .ref q27, .int 0, .ref q34, .null, .null, .null, .null, .null, .int 0])), (q6, .inl (cJ, 3, .inr (.inl (fun _ => (0 : Int64))))), (q19, .inl (cI, 36, .inl (fun _ => (0 : Int32)))), (q27, .inl (cI, 36, .inl (fun _ => (0 : Int32)))), (q34, .inl (cJ, 3, .inr (.inl (fun _ => (0 : Int64))))), (q42, .inl (cJ, 6, .inr (.inl (fun _ => (0 : Int64)))))] H := hP
  have hD : va_D A [(h0, .inr (4, [.int 0, .ref q6, .int 0, .int 1, .int 0, .ref q19, .ref q27, .int 0, .ref q34, .null, .null, .null, .null, .null, .int 0])), (q6, .inl (cJ, 3, .inr (.inl (fun _ => (0 : Int64))))), (q19, .inl (cI, 36, .inl (fun _ => (0 : Int32)))), (q27, .inl (cI, 36, .inl (fun _ => (0 : Int32)))), (q34, .inl (cJ, 3, .inr (.inl (fun _ => (0 : Int64))))), (q42, .inl (cJ, 6, .inr (.inl (fun _ => (0 : Int64)))))] := hD
  refine va_putF (D := D) (ci := 4) (v := .ref q42) (ty := .array .long) (C := RX7) (T := TX7) (N := 15) hx hb hts hinX7 tyX7 tyX7_ok nmX7 hown hK hP hD hS 0 rfl rfl 9 (by decide) hfl27 (fun _ h9 => h9) rfl hin9 rfl (by decide +kernel) rfl rfl (Nat.le_of_ble_eq_true rfl) dX7_init_44 (fun H locs hP hD hS => ?_)
  have hP : va_P D vwCl [(h0, .inr (4, [.int 0, .ref q6, .int 0, .int 1, .int 0, .ref q19, .ref q27, .int 0, .ref q34, .ref q42, .null, .null, .null, .null, .int 0])), (q6, .inl (cJ, 3, .inr (.inl (fun _ => (0 : Int64))))), (q19, .inl (cI, 36, .inl (fun _ => (0 : Int32)))), (q27, .inl (cI, 36, .inl (fun _ => (0 : Int32)))), (q34, .inl (cJ, 3, .inr (.inl (fun _ => (0 : Int64))))), (q42, .inl (cJ, 6, .inr (.inl (fun _ => (0 : Int64)))))] H := hP
  have hD : va_D A [(h0, .inr (4, [.int 0, .ref q6, .int 0, .int 1, .int 0, .ref q19, .ref q27, .int 0, .ref q34, .ref q42, .null, .null, .null, .null, .int 0])), (q6, .inl (cJ, 3, .inr (.inl (fun _ => (0 : Int64))))), (q19, .inl (cI, 36, .inl (fun _ => (0 : Int32)))), (q27, .inl (cI, 36, .inl (fun _ => (0 : Int32)))), (q34, .inl (cJ, 3, .inr (.inl (fun _ => (0 : Int64))))), (q42, .inl (cJ, 6, .inr (.inl (fun _ => (0 : Int64)))))] := hD
  refine lv_aload_n hx hb dX7_init_47 rfl (lv_at hl 0 rfl) ?_
  refine lv_bipush (v := 6) hx hb dX7_init_48 (by decide) ?_
  refine va_newa (D := D) (atype := .long) (ty := .long) (n := 6) (N' := 6) (a0 := (6, .inr (.inl (fun _ => (0 : Int64))))) hx hb (hts (.arrayClass .long) (by decide +kernel)) rfl hK hP hD hS hA (fun _ => rfl) (by decide) (by decide) (Nat.le_of_ble_eq_true rfl) (Nat.le_of_ble_eq_true rfl) (Nat.le_of_ble_eq_true rfl) dX7_init_50 (fun q50 cA H hK hP hD hS => ?_)
  have e9 : cA = cJ := arr_one (hK.2 2 _ rfl).2 (hK.2 1 _ rfl).2
  rw [e9] at hP hD
  have hK : va_K D vwCl [(cI, .int), (cJ, .long)] s := hK.sub (tys' := [(cI, .int), (cJ, .long)]) [0, 1] rfl
  refine W.widen (k := 6) (n := 90) (Nat.le_of_ble_eq_true rfl) (Nat.le_of_ble_eq_true rfl) ?_
  have hP : va_P D vwCl [(h0, .inr (4, [.int 0, .ref q6, .int 0, .int 1, .int 0, .ref q19, .ref q27, .int 0, .ref q34, .ref q42, .null, .null, .null, .null, .int 0])), (q6, .inl (cJ, 3, .inr (.inl (fun _ => (0 : Int64))))), (q19, .inl (cI, 36, .inl (fun _ => (0 : Int32)))), (q27, .inl (cI, 36, .inl (fun _ => (0 : Int32)))), (q34, .inl (cJ, 3, .inr (.inl (fun _ => (0 : Int64))))), (q42, .inl (cJ, 6, .inr (.inl (fun _ => (0 : Int64))))), (q50, .inl (cJ, 6, .inr (.inl (fun _ => (0 : Int64)))))] H := hP
  have hD : va_D A [(h0, .inr (4, [.int 0, .ref q6, .int 0, .int 1, .int 0, .ref q19, .ref q27, .int 0, .ref q34, .ref q42, .null, .null, .null, .null, .int 0])), (q6, .inl (cJ, 3, .inr (.inl (fun _ => (0 : Int64))))), (q19, .inl (cI, 36, .inl (fun _ => (0 : Int32)))), (q27, .inl (cI, 36, .inl (fun _ => (0 : Int32)))), (q34, .inl (cJ, 3, .inr (.inl (fun _ => (0 : Int64))))), (q42, .inl (cJ, 6, .inr (.inl (fun _ => (0 : Int64))))), (q50, .inl (cJ, 6, .inr (.inl (fun _ => (0 : Int64)))))] := hD
  refine va_putF (D := D) (ci := 4) (v := .ref q50) (ty := .array .long) (C := RX7) (T := TX7) (N := 15) hx hb hts hinX7 tyX7 tyX7_ok nmX7 hown hK hP hD hS 0 rfl rfl 10 (by decide) hfl30 (fun _ h9 => h9) rfl hin9 rfl (by decide +kernel) rfl rfl (Nat.le_of_ble_eq_true rfl) dX7_init_52 (fun H locs hP hD hS => ?_)
  have hP : va_P D vwCl [(h0, .inr (4, [.int 0, .ref q6, .int 0, .int 1, .int 0, .ref q19, .ref q27, .int 0, .ref q34, .ref q42, .ref q50, .null, .null, .null, .int 0])), (q6, .inl (cJ, 3, .inr (.inl (fun _ => (0 : Int64))))), (q19, .inl (cI, 36, .inl (fun _ => (0 : Int32)))), (q27, .inl (cI, 36, .inl (fun _ => (0 : Int32)))), (q34, .inl (cJ, 3, .inr (.inl (fun _ => (0 : Int64))))), (q42, .inl (cJ, 6, .inr (.inl (fun _ => (0 : Int64))))), (q50, .inl (cJ, 6, .inr (.inl (fun _ => (0 : Int64)))))] H := hP
  have hD : va_D A [(h0, .inr (4, [.int 0, .ref q6, .int 0, .int 1, .int 0, .ref q19, .ref q27, .int 0, .ref q34, .ref q42, .ref q50, .null, .null, .null, .int 0])), (q6, .inl (cJ, 3, .inr (.inl (fun _ => (0 : Int64))))), (q19, .inl (cI, 36, .inl (fun _ => (0 : Int32)))), (q27, .inl (cI, 36, .inl (fun _ => (0 : Int32)))), (q34, .inl (cJ, 3, .inr (.inl (fun _ => (0 : Int64))))), (q42, .inl (cJ, 6, .inr (.inl (fun _ => (0 : Int64))))), (q50, .inl (cJ, 6, .inr (.inl (fun _ => (0 : Int64)))))] := hD
  refine lv_aload_n hx hb dX7_init_55 rfl (lv_at hl 0 rfl) ?_
  refine lv_bipush (v := 6) hx hb dX7_init_56 (by decide) ?_
  refine va_newa (D := D) (atype := .int) (ty := .int) (n := 6) (N' := 6) (a0 := (6, .inl (fun _ => (0 : Int32)))) hx hb (hts (.arrayClass .int) (by decide +kernel)) rfl hK hP hD hS hA (fun _ => rfl) (by decide) (by decide) (Nat.le_of_ble_eq_true rfl) (Nat.le_of_ble_eq_true rfl) (Nat.le_of_ble_eq_true rfl) dX7_init_58 (fun q58 cA H hK hP hD hS => ?_)
  have e9 : cA = cI := arr_one (hK.2 2 _ rfl).2 (hK.2 0 _ rfl).2
  rw [e9] at hP hD
  have hK : va_K D vwCl [(cI, .int), (cJ, .long)] s := hK.sub (tys' := [(cI, .int), (cJ, .long)]) [0, 1] rfl
  refine W.widen (k := 7) (n := 96) (Nat.le_of_ble_eq_true rfl) (Nat.le_of_ble_eq_true rfl) ?_
  have hP : va_P D vwCl [(h0, .inr (4, [.int 0, .ref q6, .int 0, .int 1, .int 0, .ref q19, .ref q27, .int 0, .ref q34, .ref q42, .ref q50, .null, .null, .null, .int 0])), (q6, .inl (cJ, 3, .inr (.inl (fun _ => (0 : Int64))))), (q19, .inl (cI, 36, .inl (fun _ => (0 : Int32)))), (q27, .inl (cI, 36, .inl (fun _ => (0 : Int32)))), (q34, .inl (cJ, 3, .inr (.inl (fun _ => (0 : Int64))))), (q42, .inl (cJ, 6, .inr (.inl (fun _ => (0 : Int64))))), (q50, .inl (cJ, 6, .inr (.inl (fun _ => (0 : Int64))))), (q58, .inl (cI, 6, .inl (fun _ => (0 : Int32))))] H := hP
  have hD : va_D A [(h0, .inr (4, [.int 0, .ref q6, .int 0, .int 1, .int 0, .ref q19, .ref q27, .int 0, .ref q34, .ref q42, .ref q50, .null, .null, .null, .int 0])), (q6, .inl (cJ, 3, .inr (.inl (fun _ => (0 : Int64))))), (q19, .inl (cI, 36, .inl (fun _ => (0 : Int32)))), (q27, .inl (cI, 36, .inl (fun _ => (0 : Int32)))), (q34, .inl (cJ, 3, .inr (.inl (fun _ => (0 : Int64))))), (q42, .inl (cJ, 6, .inr (.inl (fun _ => (0 : Int64))))), (q50, .inl (cJ, 6, .inr (.inl (fun _ => (0 : Int64))))), (q58, .inl (cI, 6, .inl (fun _ => (0 : Int32))))] := hD
  refine va_putF (D := D) (ci := 4) (v := .ref q58) (ty := .array .int) (C := RX7) (T := TX7) (N := 15) hx hb hts hinX7 tyX7 tyX7_ok nmX7 hown hK hP hD hS 0 rfl rfl 11 (by decide) hfl33 (fun _ h9 => h9) rfl hin9 rfl (by decide +kernel) rfl rfl (Nat.le_of_ble_eq_true rfl) dX7_init_60 (fun H locs hP hD hS => ?_)
  have hP : va_P D vwCl [(h0, .inr (4, [.int 0, .ref q6, .int 0, .int 1, .int 0, .ref q19, .ref q27, .int 0, .ref q34, .ref q42, .ref q50, .ref q58, .null, .null, .int 0])), (q6, .inl (cJ, 3, .inr (.inl (fun _ => (0 : Int64))))), (q19, .inl (cI, 36, .inl (fun _ => (0 : Int32)))), (q27, .inl (cI, 36, .inl (fun _ => (0 : Int32)))), (q34, .inl (cJ, 3, .inr (.inl (fun _ => (0 : Int64))))), (q42, .inl (cJ, 6, .inr (.inl (fun _ => (0 : Int64))))), (q50, .inl (cJ, 6, .inr (.inl (fun _ => (0 : Int64))))), (q58, .inl (cI, 6, .inl (fun _ => (0 : Int32))))] H := hP
  have hD : va_D A [(h0, .inr (4, [.int 0, .ref q6, .int 0, .int 1, .int 0, .ref q19, .ref q27, .int 0, .ref q34, .ref q42, .ref q50, .ref q58, .null, .null, .int 0])), (q6, .inl (cJ, 3, .inr (.inl (fun _ => (0 : Int64))))), (q19, .inl (cI, 36, .inl (fun _ => (0 : Int32)))), (q27, .inl (cI, 36, .inl (fun _ => (0 : Int32)))), (q34, .inl (cJ, 3, .inr (.inl (fun _ => (0 : Int64))))), (q42, .inl (cJ, 6, .inr (.inl (fun _ => (0 : Int64))))), (q50, .inl (cJ, 6, .inr (.inl (fun _ => (0 : Int64))))), (q58, .inl (cI, 6, .inl (fun _ => (0 : Int32))))] := hD
  refine lv_aload_n hx hb dX7_init_63 rfl (lv_at hl 0 rfl) ?_
  refine lv_bipush (v := 6) hx hb dX7_init_64 (by decide) ?_
  refine va_newa (D := D) (atype := .int) (ty := .int) (n := 6) (N' := 6) (a0 := (6, .inl (fun _ => (0 : Int32)))) hx hb (hts (.arrayClass .int) (by decide +kernel)) rfl hK hP hD hS hA (fun _ => rfl) (by decide) (by decide) (Nat.le_of_ble_eq_true rfl) (Nat.le_of_ble_eq_true rfl) (Nat.le_of_ble_eq_true rfl) dX7_init_66 (fun q66 cA H hK hP hD hS => ?_)
  have e9 : cA = cI := arr_one (hK.2 2 _ rfl).2 (hK.2 0 _ rfl).2
  rw [e9] at hP hD
  have hK : va_K D vwCl [(cI, .int), (cJ, .long)] s := hK.sub (tys' := [(cI, .int), (cJ, .long)]) [0, 1] rfl
  refine W.widen (k := 8) (n := 102) (Nat.le_of_ble_eq_true rfl) (Nat.le_of_ble_eq_true rfl) ?_
  have hP : va_P D vwCl [(h0, .inr (4, [.int 0, .ref q6, .int 0, .int 1, .int 0, .ref q19, .ref q27, .int 0, .ref q34, .ref q42, .ref q50, .ref q58, .null, .null, .int 0])), (q6, .inl (cJ, 3, .inr (.inl (fun _ => (0 : Int64))))), (q19, .inl (cI, 36, .inl (fun _ => (0 : Int32)))), (q27, .inl (cI, 36, .inl (fun _ => (0 : Int32)))), (q34, .inl (cJ, 3, .inr (.inl (fun _ => (0 : Int64))))), (q42, .inl (cJ, 6, .inr (.inl (fun _ => (0 : Int64))))), (q50, .inl (cJ, 6, .inr (.inl (fun _ => (0 : Int64))))), (q58, .inl (cI, 6, .inl (fun _ => (0 : Int32)))), (q66, .inl (cI, 6, .inl (fun _ => (0 : Int32))))] H := hP
  have hD : va_D A [(h0, .inr (4, [.int 0, .ref q6, .int 0, .int 1, .int 0, .ref q19, .ref q27, .int 0, .ref q34, .ref q42, .ref q50, .ref q58, .null, .null, .int 0])), (q6, .inl (cJ, 3, .inr (.inl (fun _ => (0 : Int64))))), (q19, .inl (cI, 36, .inl (fun _ => (0 : Int32)))), (q27, .inl (cI, 36, .inl (fun _ => (0 : Int32)))), (q34, .inl (cJ, 3, .inr (.inl (fun _ => (0 : Int64))))), (q42, .inl (cJ, 6, .inr (.inl (fun _ => (0 : Int64))))), (q50, .inl (cJ, 6, .inr (.inl (fun _ => (0 : Int64))))), (q58, .inl (cI, 6, .inl (fun _ => (0 : Int32)))), (q66, .inl (cI, 6, .inl (fun _ => (0 : Int32))))] := hD
  refine va_putF (D := D) (ci := 4) (v := .ref q66) (ty := .array .int) (C := RX7) (T := TX7) (N := 15) hx hb hts hinX7 tyX7 tyX7_ok nmX7 hown hK hP hD hS 0 rfl rfl 12 (by decide) hfl36 (fun _ h9 => h9) rfl hin9 rfl (by decide +kernel) rfl rfl (Nat.le_of_ble_eq_true rfl) dX7_init_68 (fun H locs hP hD hS => ?_)
  have hP : va_P D vwCl [(h0, .inr (4, [.int 0, .ref q6, .int 0, .int 1, .int 0, .ref q19, .ref q27, .int 0, .ref q34, .ref q42, .ref q50, .ref q58, .ref q66, .null, .int 0])), (q6, .inl (cJ, 3, .inr (.inl (fun _ => (0 : Int64))))), (q19, .inl (cI, 36, .inl (fun _ => (0 : Int32)))), (q27, .inl (cI, 36, .inl (fun _ => (0 : Int32)))), (q34, .inl (cJ, 3, .inr (.inl (fun _ => (0 : Int64))))), (q42, .inl (cJ, 6, .inr (.inl (fun _ => (0 : Int64))))), (q50, .inl (cJ, 6, .inr (.inl (fun _ => (0 : Int64))))), (q58, .inl (cI, 6, .inl (fun _ => (0 : Int32)))), (q66, .inl (cI, 6, .inl (fun _ => (0 : Int32))))] H := hP
  have hD : va_D A [(h0, .inr (4, [.int 0, .ref q6, .int 0, .int 1, .int 0, .ref q19, .ref q27, .int 0, .ref q34, .ref q42, .ref q50, .ref q58, .ref q66, .null, .int 0])), (q6, .inl (cJ, 3, .inr (.inl (fun _ => (0 : Int64))))), (q19, .inl (cI, 36, .inl (fun _ => (0 : Int32)))), (q27, .inl (cI, 36, .inl (fun _ => (0 : Int32)))), (q34, .inl (cJ, 3, .inr (.inl (fun _ => (0 : Int64))))), (q42, .inl (cJ, 6, .inr (.inl (fun _ => (0 : Int64))))), (q50, .inl (cJ, 6, .inr (.inl (fun _ => (0 : Int64))))), (q58, .inl (cI, 6, .inl (fun _ => (0 : Int32)))), (q66, .inl (cI, 6, .inl (fun _ => (0 : Int32))))] := hD
  refine lv_aload_n hx hb dX7_init_71 rfl (lv_at hl 0 rfl) ?_
  refine lv_bipush (v := 6) hx hb dX7_init_72 (by decide) ?_
  refine va_newa (D := D) (atype := .int) (ty := .int) (n := 6) (N' := 6) (a0 := (6, .inl (fun _ => (0 : Int32)))) hx hb (hts (.arrayClass .int) (by decide +kernel)) rfl hK hP hD hS hA (fun _ => rfl) (by decide) (by decide) (Nat.le_of_ble_eq_true rfl) (Nat.le_of_ble_eq_true rfl) (Nat.le_of_ble_eq_true rfl) dX7_init_74 (fun q74 cA H hK hP hD hS => ?_)
  have e9 : cA = cI := arr_one (hK.2 2 _ rfl).2 (hK.2 0 _ rfl).2
  rw [e9] at hP hD
  have hK : va_K D vwCl [(cI, .int), (cJ, .long)] s := hK.sub (tys' := [(cI, .int), (cJ, .long)]) [0, 1] rfl
  refine W.widen (k := 9) (n := 108) (Nat.le_of_ble_eq_true rfl) (Nat.le_of_ble_eq_true rfl) ?_
  have hP : va_P D vwCl [(h0, .inr (4, [.int 0, .ref q6, .int 0, .int 1, .int 0, .ref q19, .ref q27, .int 0, .ref q34, .ref q42, .ref q50, .ref q58, .ref q66, .null, .int 0])), (q6, .inl (cJ, 3, .inr (.inl (fun _ => (0 : Int64))))), (q19, .inl (cI, 36, .inl (fun _ => (0 : Int32)))), (q27, .inl (cI, 36, .inl (fun _ => (0 : Int32)))), (q34, .inl (cJ, 3, .inr (.inl (fun _ => (0 : Int64))))), (q42, .inl (cJ, 6, .inr (.inl (fun _ => (0 : Int64))))), (q50, .inl (cJ, 6, .inr (.inl (fun _ => (0 : Int64))))), (q58, .inl (cI, 6, .inl (fun _ => (0 : Int32)))), (q66, .inl (cI, 6, .inl (fun _ => (0 : Int32)))), (q74, .inl (cI, 6, .inl (fun _ => (0 : Int32))))] H := hP
  have hD : va_D A [(h0, .inr (4, [.int 0, .ref q6, .int 0, .int 1, .int 0, .ref q19, .ref q27, .int 0, .ref q34, .ref q42, .ref q50, .ref q58, .ref q66, .null, .int 0])), (q6, .inl (cJ, 3, .inr (.inl (fun _ => (0 : Int64))))), (q19, .inl (cI, 36, .inl (fun _ => (0 : Int32)))), (q27, .inl (cI, 36, .inl (fun _ => (0 : Int32)))), (q34, .inl (cJ, 3, .inr (.inl (fun _ => (0 : Int64))))), (q42, .inl (cJ, 6, .inr (.inl (fun _ => (0 : Int64))))), (q50, .inl (cJ, 6, .inr (.inl (fun _ => (0 : Int64))))), (q58, .inl (cI, 6, .inl (fun _ => (0 : Int32)))), (q66, .inl (cI, 6, .inl (fun _ => (0 : Int32)))), (q74, .inl (cI, 6, .inl (fun _ => (0 : Int32))))] := hD
  refine va_putF (D := D) (ci := 4) (v := .ref q74) (ty := .array .int) (C := RX7) (T := TX7) (N := 15) hx hb hts hinX7 tyX7 tyX7_ok nmX7 hown hK hP hD hS 0 rfl rfl 13 (by decide) hfl39 (fun _ h9 => h9) rfl hin9 rfl (by decide +kernel) rfl rfl (Nat.le_of_ble_eq_true rfl) dX7_init_76 (fun H locs hP hD hS => ?_)
  have hP : va_P D vwCl [(h0, .inr (4, [.int 0, .ref q6, .int 0, .int 1, .int 0, .ref q19, .ref q27, .int 0, .ref q34, .ref q42, .ref q50, .ref q58, .ref q66, .ref q74, .int 0])), (q6, .inl (cJ, 3, .inr (.inl (fun _ => (0 : Int64))))), (q19, .inl (cI, 36, .inl (fun _ => (0 : Int32)))), (q27, .inl (cI, 36, .inl (fun _ => (0 : Int32)))), (q34, .inl (cJ, 3, .inr (.inl (fun _ => (0 : Int64))))), (q42, .inl (cJ, 6, .inr (.inl (fun _ => (0 : Int64))))), (q50, .inl (cJ, 6, .inr (.inl (fun _ => (0 : Int64))))), (q58, .inl (cI, 6, .inl (fun _ => (0 : Int32)))), (q66, .inl (cI, 6, .inl (fun _ => (0 : Int32)))), (q74, .inl (cI, 6, .inl (fun _ => (0 : Int32))))] H := hP
  have hD : va_D A [(h0, .inr (4, [.int 0, .ref q6, .int 0, .int 1, .int 0, .ref q19, .ref q27, .int 0, .ref q34, .ref q42, .ref q50, .ref q58, .ref q66, .ref q74, .int 0])), (q6, .inl (cJ, 3, .inr (.inl (fun _ => (0 : Int64))))), (q19, .inl (cI, 36, .inl (fun _ => (0 : Int32)))), (q27, .inl (cI, 36, .inl (fun _ => (0 : Int32)))), (q34, .inl (cJ, 3, .inr (.inl (fun _ => (0 : Int64))))), (q42, .inl (cJ, 6, .inr (.inl (fun _ => (0 : Int64))))), (q50, .inl (cJ, 6, .inr (.inl (fun _ => (0 : Int64))))), (q58, .inl (cI, 6, .inl (fun _ => (0 : Int32)))), (q66, .inl (cI, 6, .inl (fun _ => (0 : Int32)))), (q74, .inl (cI, 6, .inl (fun _ => (0 : Int32))))] := hD
  refine W.widen (k := 9) (n := 108) (Nat.le_of_ble_eq_true rfl) (Nat.le_of_ble_eq_true rfl) ?_
  refine W.vret hx hb hr (fun tt ht hW => ⟨⟨(q6, q19, q27, q34, q42, q50, q58, q66, q74), rfl, ?_, by rw [ht]; exact hP, va_K.moved hW.alike hK, hD⟩, hS.F ht⟩) hS.2.2 dX7_init_79
  trivial
theorem nI_inj9 {a b : Nat} (ha : a < 2 ^ 31) (hb : b < 2 ^ 31) (h : nI a = nI b) : a = b := (nq_eq ha hb).mp h

set_option maxHeartbeats 400000 in
set_option maxRecDepth 100000 in
theorem c_X6_share (l : Launch) (D : va_G) (cI cJ : ClassId) (h0 lg fs ps : Nat) (fa fb : Int64) (mt re : Int32)  : Met l yX6_share wsX6_share ({ frames := 2, cells := 0, slots := 0, locals := 41 } : Room) (va_Pc [.ref h0] (px_W D [(h0, .inr (3, [.ref lg, .ref fs, .ref ps, .long fa, .long fb, .int mt, .int re]))] [(cI, .int), (cJ, .long)])) (vp_Sf (fun r => r = cshare (pop (fa ||| fb)))) 0 0 (fun _ => False) := by
  refine Met.ofW (cc := cX6_share) (maxL := 1) (ret := (some .float)) (by decide) rfl ?_
  intro p e s m args below meth c s₁ B hml hv
  obtain ⟨rfl, hP, hK⟩ := hv
  have hx := B.exec
  have hb := B.bytes
  have hr := B.returns
  have hts := atoms_spec (ws := wsX6_share) B.pre
  have hown : s.vm.findClass RX6 = some m.cls := findClass_of_methodNamed B.named
  have hlocks := B.notSynchronized
  have hl := lv_entry ([.ref h0]) (n := 1) (Nat.le_of_ble_eq_true rfl)
  rw [lg_entry_eq]
  generalize (lg_sl ([.ref h0]) ++ List.replicate (1 - (lg_sl ([.ref h0])).length) Slot.unset).toArray = ls at hl ⊢
  have hl : lv_has ls 1 [(0, .ref h0)] := hl
  refine lv_aload_n hx hb dX6_share_0 rfl (lv_at hl 0 rfl) ?_
  refine vp_callSi (W.runV (As := []) (rest := []) ⟨hx, hb, hml, hown, hts⟩ (c_X6_marbles l D cI cJ h0 lg fs ps fa fb mt re ) (cwV 0 hts gX6_share_X6_marbles rfl rfl rfl (by decide +kernel) ⟨Nat.le_of_ble_eq_true rfl, Nat.le_of_ble_eq_true rfl⟩) ⟨px_blindW, va_recv hK hP (ci := 3) (q0 := 0) rfl rfl, fun U hU hW => ⟨rfl, by rw [hU]; exact hP.sub (ws' := [(h0, .inr (3, [.ref lg, .ref fs, .ref ps, .long fa, .long fb, .int mt, .int re]))]) [0] rfl, va_K.moved hW.alike hK⟩⟩ rfl rfl hl.1 rfl (lv_room (Nat.le_of_ble_eq_true rfl)) dX6_share_1 ⟨(Nat.le_of_ble_eq_true rfl), (Nat.le_of_ble_eq_true rfl)⟩) (fun r1 er1 => ?_)
  obtain rfl := er1.symm
  refine lv_i2f hx hb dX6_share_4 ?_
  refine lv_ldcf (v := 1108344832) hx hb hown (hts (.constantFloat RX6 147 (1108344832)) (by decide +kernel)) dX6_share_5 ?_
  refine lv_fdiv hx hb dX6_share_7 (cshare_ok (pop_le _)) ?_
  refine W.fret (v := (FP.fdiv (FP.i2f (nI (pop (fa ||| fb)))) 1108344832)) hx hb hr (fun tt ht hW => ⟨(FP.fdiv (FP.i2f (nI (pop (fa ||| fb)))) 1108344832), rfl, ?_, ht⟩) (fun _ h => nomatch h) dX6_share_8
  rfl

set_option maxHeartbeats 400000 in
set_option maxRecDepth 100000 in
theorem c_X6_textAt_0 (l : Launch) (hltr : l.stackTraces = false) (D : va_G) (cI cJ : ClassId) (sz : Nat) (h0 lg lc lt fs ps : Nat) (fa fb : Int64) (mt re : Int32) (cs ts : Nat → Int32) (k : Nat) (hk : k ≤ 36) (v : Int32) : vx_Met l yX6_textAt wsX6_textAt ({ frames := 7, cells := 2, slots := 12, locals := 111 } : Room) (va_Pc [.ref h0, .int v, .int 0] (px_X (va_A [(h0, .inr (3, [.ref lg, .ref fs, .ref ps, .long fa, .long fb, .int mt, .int re])), (lg, .inr (0, [.ref lc, .ref lt, .int (nI k)])), (lc, .inl (cI, 36, .inl cs)), (lt, .inl (cI, 36, .inl ts))] sz) (pv_C D cI cJ [(h0, .inr (3, [.ref lg, .ref fs, .ref ps, .long fa, .long fb, .int mt, .int re])), (lg, .inr (0, [.ref lc, .ref lt, .int (nI k)])), (lc, .inl (cI, 36, .inl cs)), (lt, .inl (cI, 36, .inl ts))] sz))) (va_Qi (fun (r : Int32) (u : Unit) => ∃ j, j < k ∧ v = nI j ∧ r = ji2c (97 + (cs j - cs j / 6 * 6))) (fun (u : Unit) => pv_B D cI cJ (va_A [(h0, .inr (3, [.ref lg, .ref fs, .ref ps, .long fa, .long fb, .int mt, .int re])), (lg, .inr (0, [.ref lc, .ref lt, .int (nI k)])), (lc, .inl (cI, 36, .inl cs)), (lt, .inl (cI, 36, .inl ts))] sz) [(h0, .inr (3, [.ref lg, .ref fs, .ref ps, .long fa, .long fb, .int mt, .int re])), (lg, .inr (0, [.ref lc, .ref lt, .int (nI k)])), (lc, .inl (cI, 36, .inl cs)), (lt, .inl (cI, 36, .inl ts))]) (va_A [(h0, .inr (3, [.ref lg, .ref fs, .ref ps, .long fa, .long fb, .int mt, .int re])), (lg, .inr (0, [.ref lc, .ref lt, .int (nI k)])), (lc, .inl (cI, 36, .inl cs)), (lt, .inl (cI, 36, .inl ts))] sz)) (vx_X (fun (_ : Unit) => True) (fun (E : String) (_ : Unit) (tt : State) => (E = nIOB ∧ ¬ imove k v) ∧ pv_B D cI cJ (va_A [(h0, .inr (3, [.ref lg, .ref fs, .ref ps, .long fa, .long fb, .int mt, .int re])), (lg, .inr (0, [.ref lc, .ref lt, .int (nI k)])), (lc, .inl (cI, 36, .inl cs)), (lt, .inl (cI, 36, .inl ts))] sz) [(h0, .inr (3, [.ref lg, .ref fs, .ref ps, .long fa, .long fb, .int mt, .int re])), (lg, .inr (0, [.ref lc, .ref lt, .int (nI k)])), (lc, .inl (cI, 36, .inl cs)), (lt, .inl (cI, 36, .inl ts))] tt) (va_A [(h0, .inr (3, [.ref lg, .ref fs, .ref ps, .long fa, .long fb, .int mt, .int re])), (lg, .inr (0, [.ref lc, .ref lt, .int (nI k)])), (lc, .inl (cI, 36, .inl cs)), (lt, .inl (cI, 36, .inl ts))] sz)) 2 12 (va_A [(h0, .inr (3, [.ref lg, .ref fs, .ref ps, .long fa, .long fb, .int mt, .int re])), (lg, .inr (0, [.ref lc, .ref lt, .int (nI k)])), (lc, .inl (cI, 36, .inl cs)), (lt, .inl (cI, 36, .inl ts))] sz) := by
  refine vx_ofW (cc := cX6_textAt) (maxL := 3) (ret := (some .char)) (by decide) rfl ?_
  intro p e s m args below meth c s₁ B hml htab hv
  obtain ⟨rfl, hEX, hZ, rfl, hP, hK, hD0⟩ := hv
  have hx := B.exec
  have hb := B.bytes
  have hr := B.returns
  have hts := atoms_spec (ws := wsX6_textAt) B.pre
  have hown : s.vm.findClass RX6 = some m.cls := findClass_of_methodNamed B.named
  have hlocks := B.notSynchronized
  have hD := hD0.self (sz := s.heap.size)
  generalize hAe : va_A [(h0, .inr (3, [.ref lg, .ref fs, .ref ps, .long fa, .long fb, .int mt, .int re])), (lg, .inr (0, [.ref lc, .ref lt, .int (nI k)])), (lc, .inl (cI, 36, .inl cs)), (lt, .inl (cI, 36, .inl ts))] s.heap.size = A at hD hZ ⊢
  have hA : ∀ q : Nat, s.heap.size ≤ q → A q := fun q h => by rw [← hAe]; exact Or.inr h
  have hS : va_S A s.heap s.heap [] := va_S.rf
  have hinX6 : ∀ w ∈ wsX60, w ∈ wsX6_textAt := by decide +kernel
  have hfl12 : (Cond.fieldLink RX6 12 "Twistquad" "log" "LTwistquad$MoveLog;").before ([.ref h0, .int v, .int 0] : List Value).toArray s = true := hts _ (by decide +kernel)
  have hl := lv_entry ([.ref h0, .int v, .int 0]) (n := 3) (Nat.le_of_ble_eq_true rfl)
  rw [lg_entry_eq]
  generalize (lg_sl ([.ref h0, .int v, .int 0]) ++ List.replicate (3 - (lg_sl ([.ref h0, .int v, .int 0])).length) Slot.unset).toArray = ls at hl ⊢
  have hl : lv_has ls 3 [(0, .ref h0), (1, .int v), (2, .int 0)] := hl
  refine lv_aload_n hx hb dX6_textAt_0 rfl (lv_at hl 0 rfl) ?_
  refine lv_iload_n hx hb dX6_textAt_1 rfl (lv_at hl 1 rfl) ?_
  have hPc : va_P D vwCl [(h0, .inr (3, [.ref lg, .ref fs, .ref ps, .long fa, .long fb, .int mt, .int re])), (lg, .inr (0, [.ref lc, .ref lt, .int (nI k)])), (lc, .inl (cI, 36, .inl cs)), (lt, .inl (cI, 36, .inl ts))] s.heap := hP.sub (ws' := [(h0, .inr (3, [.ref lg, .ref fs, .ref ps, .long fa, .long fb, .int mt, .int re])), (lg, .inr (0, [.ref lc, .ref lt, .int (nI k)])), (lc, .inl (cI, 36, .inl cs)), (lt, .inl (cI, 36, .inl ts))]) [0, 1, 2, 3] rfl
  have hDc : va_D A [(h0, .inr (3, [.ref lg, .ref fs, .ref ps, .long fa, .long fb, .int mt, .int re])), (lg, .inr (0, [.ref lc, .ref lt, .int (nI k)])), (lc, .inl (cI, 36, .inl cs)), (lt, .inl (cI, 36, .inl ts))] := hD.sub (ws' := [(h0, .inr (3, [.ref lg, .ref fs, .ref ps, .long fa, .long fb, .int mt, .int re])), (lg, .inr (0, [.ref lc, .ref lt, .int (nI k)])), (lc, .inl (cI, 36, .inl cs)), (lt, .inl (cI, 36, .inl ts))]) [0, 1, 2, 3] (by decide) rfl
  have hFc := va_free (wc := [(h0, .inr (3, [.ref lg, .ref fs, .ref ps, .long fa, .long fb, .int mt, .int re])), (lg, .inr (0, [.ref lc, .ref lt, .int (nI k)])), (lc, .inl (cI, 36, .inl cs)), (lt, .inl (cI, 36, .inl ts))]) hD hS hA [0, 1, 2, 3] rfl
  refine vx_callv (vx_runV (As := [.int v]) (rest := []) ⟨hx, hb, hml, hown, hts⟩ (c_X6_requireMove l hltr D cI cJ s.heap.size  h0 lg lc lt fs ps fa fb mt re cs ts k (by omega) v) (cwV 1 hts gX6_textAt_X6_requireMove rfl rfl rfl (by decide +kernel) ⟨Nat.le_of_ble_eq_true rfl, Nat.le_of_ble_eq_true rfl⟩) ⟨(px_blindX pv_blind), va_recv hK hPc (ci := 3) (q0 := 0) rfl rfl, fun U hU hW => ⟨rfl, hEX.warm hW, by rw [hU]; exact hZ.to hS hW.alike hFc, by rw [hU], by rw [hU]; exact hPc, va_K.moved hW.alike hK, hDc.weaken (fun _ _ _ _ => trivial)⟩⟩ rfl rfl hl.1 rfl (lv_room (Nat.le_of_ble_eq_true rfl)) dX6_textAt_2 ⟨(Nat.le_of_ble_eq_true rfl), (Nat.le_of_ble_eq_true rfl)⟩) hS (fun q _ h => hFc q h) hFc (fun q _ h => hFc q h) (fun E ce q9 u9 t9 H1 locs hth hvm hpx hB9 hz1 hk1 hS hce hcv hcl => ?_) (fun u t9 H1 locs hth hvm hw2 hB9 hz1 hk1 hS => ?_)
  · obtain ⟨hb9, hP1, hK1, hD1⟩ := hB9
    rw [hth] at hP1
    obtain ⟨hP, hD⟩ := va_join (wr := []) (w1 := [(h0, .inr (3, [.ref lg, .ref fs, .ref ps, .long fa, .long fb, .int mt, .int re])), (lg, .inr (0, [.ref lc, .ref lt, .int (nI k)])), (lc, .inl (cI, 36, .inl cs)), (lt, .inl (cI, 36, .inl ts))]) hP hD [0, 1, 2, 3] [] rfl rfl (by decide) (by decide) hk1 hFc hP1 hD1
    have hP : va_P D vwCl [(h0, .inr (3, [.ref lg, .ref fs, .ref ps, .long fa, .long fb, .int mt, .int re])), (lg, .inr (0, [.ref lc, .ref lt, .int (nI k)])), (lc, .inl (cI, 36, .inl cs)), (lt, .inl (cI, 36, .inl ts))] H1 := hP.sub (ws' := [(h0, .inr (3, [.ref lg, .ref fs, .ref ps, .long fa, .long fb, .int mt, .int re])), (lg, .inr (0, [.ref lc, .ref lt, .int (nI k)])), (lc, .inl (cI, 36, .inl cs)), (lt, .inl (cI, 36, .inl ts))]) [0, 1, 2, 3] rfl
    have hD : va_D A [(h0, .inr (3, [.ref lg, .ref fs, .ref ps, .long fa, .long fb, .int mt, .int re])), (lg, .inr (0, [.ref lc, .ref lt, .int (nI k)])), (lc, .inl (cI, 36, .inl cs)), (lt, .inl (cI, 36, .inl ts))] := hD.sub (ws' := [(h0, .inr (3, [.ref lg, .ref fs, .ref ps, .long fa, .long fb, .int mt, .int re])), (lg, .inr (0, [.ref lc, .ref lt, .int (nI k)])), (lc, .inl (cI, 36, .inl cs)), (lt, .inl (cI, 36, .inl ts))]) [0, 1, 2, 3] (by decide) rfl
    exact vx_out (fun x h => (htab x h).elim) hlocks hce hcv hcl (fun tt htt hvt => ⟨(), trivial, ⟨hb9, by rw [htt]; exact hP, va_K.moved hvt hK, hD⟩, hS.F htt⟩) hS.2.2 (Nat.le_of_ble_eq_true rfl) (Nat.le_of_ble_eq_true rfl)
  · try dsimp only at hw2
    obtain ⟨hP1, hK1, hD1⟩ := hB9
    rw [hth] at hP1
    obtain ⟨hP, hD⟩ := va_join (wr := []) (w1 := [(h0, .inr (3, [.ref lg, .ref fs, .ref ps, .long fa, .long fb, .int mt, .int re])), (lg, .inr (0, [.ref lc, .ref lt, .int (nI k)])), (lc, .inl (cI, 36, .inl cs)), (lt, .inl (cI, 36, .inl ts))]) hP hD [0, 1, 2, 3] [] rfl rfl (by decide) (by decide) hk1 hFc hP1 hD1
    generalize H1 = H at hP hS ⊢
    have hP : va_P D vwCl [(h0, .inr (3, [.ref lg, .ref fs, .ref ps, .long fa, .long fb, .int mt, .int re])), (lg, .inr (0, [.ref lc, .ref lt, .int (nI k)])), (lc, .inl (cI, 36, .inl cs)), (lt, .inl (cI, 36, .inl ts))] H := hP.sub (ws' := [(h0, .inr (3, [.ref lg, .ref fs, .ref ps, .long fa, .long fb, .int mt, .int re])), (lg, .inr (0, [.ref lc, .ref lt, .int (nI k)])), (lc, .inl (cI, 36, .inl cs)), (lt, .inl (cI, 36, .inl ts))]) [0, 1, 2, 3] rfl
    have hD : va_D A [(h0, .inr (3, [.ref lg, .ref fs, .ref ps, .long fa, .long fb, .int mt, .int re])), (lg, .inr (0, [.ref lc, .ref lt, .int (nI k)])), (lc, .inl (cI, 36, .inl cs)), (lt, .inl (cI, 36, .inl ts))] := hD.sub (ws' := [(h0, .inr (3, [.ref lg, .ref fs, .ref ps, .long fa, .long fb, .int mt, .int re])), (lg, .inr (0, [.ref lc, .ref lt, .int (nI k)])), (lc, .inl (cI, 36, .inl cs)), (lt, .inl (cI, 36, .inl ts))]) [0, 1, 2, 3] (by decide) rfl
    obtain ⟨j9, hj9, rfl⟩ := i32_nat (by omega) hw2.1 hw2.2
    refine lv_iload_n hx hb dX6_textAt_5 rfl (lv_at hl 2 rfl) ?_
    refine lv_if_lt (tgt := 18) hx hb dX6_textAt_6 (by decide) (fun c6 => ?_) (fun c6 => ?_)
    · exact absurd c6 (by decide)
    · refine lv_iload_n hx hb dX6_textAt_9 rfl (lv_at hl 2 rfl) ?_
      refine lv_aload_n hx hb dX6_textAt_10 rfl (lv_at hl 0 rfl) ?_
      refine lv_iload_n hx hb dX6_textAt_11 rfl (lv_at hl 1 rfl) ?_
      refine vp_callSi (W.runV (As := [.int (nI j9)]) (rest := [.int 0]) ⟨hx, hb, hml, hown, hts⟩ (c_X6_lengthOfText l D cI cJ h0 lg lc lt fs ps fa fb mt re cs ts k (by omega) j9 (by omega)) (cwV 1 hts gX6_textAt_X6_lengthOfText rfl rfl rfl (by decide +kernel) ⟨Nat.le_of_ble_eq_true rfl, Nat.le_of_ble_eq_true rfl⟩) ⟨px_blindW, va_recv hK hP (ci := 3) (q0 := 0) rfl rfl, fun U hU hW => ⟨rfl, by rw [hU]; exact hP.sub (ws' := [(h0, .inr (3, [.ref lg, .ref fs, .ref ps, .long fa, .long fb, .int mt, .int re])), (lg, .inr (0, [.ref lc, .ref lt, .int (nI k)])), (lc, .inl (cI, 36, .inl cs)), (lt, .inl (cI, 36, .inl ts))]) [0, 1, 2, 3] rfl, va_K.moved hW.alike hK⟩⟩ rfl rfl hl.1 rfl (lv_room (Nat.le_of_ble_eq_true rfl)) dX6_textAt_12 ⟨(Nat.le_of_ble_eq_true rfl), (Nat.le_of_ble_eq_true rfl)⟩) (fun r12 er12 => ?_)
      obtain rfl := er12.symm
      refine lv_icmp_lt (tgt := 28) hx hb dX6_textAt_15 (by decide) (fun c15 => ?_) (fun c15 => ?_)
      · refine lv_iload_n hx hb dX6_textAt_28 rfl (lv_at hl 2 rfl) ?_
        refine lv_tableIn (off := 27) (tgt := 56) hx hb dX6_textAt_29 (by decide) (by decide) rfl (by decide) ?_
        refine lv_bipush (v := 97) hx hb dX6_textAt_56 (by decide) ?_
        refine lv_aload_n hx hb dX6_textAt_58 rfl (lv_at hl 0 rfl) ?_
        refine va_get (D := D) (ci := 3) (v := .ref lg) (C := RX6) (T := TX6) (N := 7) hx hb hts hinX6 hown hK hP 0 rfl rfl 0 (by decide) hfl12 (fun _ h9 => h9) rfl dX6_textAt_59 ?_
        refine lv_iload_n hx hb dX6_textAt_62 rfl (lv_at hl 1 rfl) ?_
        refine vp_callSi (W.runV (As := [.int (nI j9)]) (rest := [.int 97]) ⟨hx, hb, hml, hown, hts⟩ (c_X2_cellOf l D cI cJ lg lc lt cs ts k (by omega) j9 (by omega)) (cwV 1 hts gX6_textAt_X2_cellOf rfl rfl rfl (by decide +kernel) ⟨Nat.le_of_ble_eq_true rfl, Nat.le_of_ble_eq_true rfl⟩) ⟨px_blindW, va_recv hK hP (ci := 0) (q0 := 1) rfl rfl, fun U hU hW => ⟨rfl, by rw [hU]; exact hP.sub (ws' := [(lg, .inr (0, [.ref lc, .ref lt, .int (nI k)])), (lc, .inl (cI, 36, .inl cs)), (lt, .inl (cI, 36, .inl ts))]) [1, 2, 3] rfl, va_K.moved hW.alike hK⟩⟩ rfl rfl hl.1 rfl (lv_room (Nat.le_of_ble_eq_true rfl)) dX6_textAt_63 ⟨(Nat.le_of_ble_eq_true rfl), (Nat.le_of_ble_eq_true rfl)⟩) (fun r63 er63 => ?_)
        obtain rfl := er63.symm
        refine lv_bipush (v := 6) hx hb dX6_textAt_66 (by decide) ?_
        refine lv_irem hx hb dX6_textAt_68 (by decide) ?_
        refine lv_topi (fun x68 ex68 => ?_)
        refine lv_iadd hx hb dX6_textAt_69 ?_
        refine lv_topi (fun x69 ex69 => ?_)
        refine lv_i2c (v := ji2c x69) hx hb dX6_textAt_70 rfl ?_
        refine vx_ret ?_
        refine W.widen (k := 2) (n := 12) (Nat.le_of_ble_eq_true rfl) (Nat.le_of_ble_eq_true rfl) ?_
        refine W.zret (v := (ji2c x69)) hx hb hr (nar_c _) (fun tt ht hW => ⟨⟨(ji2c x69), (), rfl, ?_, by rw [ht]; exact hP, va_K.moved hW.alike hK, hD⟩, hS.F ht⟩) hS.2.2 dX6_textAt_71
        obtain rfl := ex68.symm; obtain rfl := ex69.symm; exact ⟨j9, hj9, rfl, rfl⟩
      · exact absurd (len_01 (by decide)) c15

set_option maxHeartbeats 400000 in
set_option maxRecDepth 100000 in
theorem c_X6_textAt_1 (l : Launch) (hltr : l.stackTraces = false) (D : va_G) (cI cJ : ClassId) (sz : Nat) (h0 lg lc lt fs ps : Nat) (fa fb : Int64) (mt re : Int32) (cs ts : Nat → Int32) (k : Nat) (hk : k ≤ 36) (v : Int32) : vx_Met l yX6_textAt wsX6_textAt ({ frames := 7, cells := 2, slots := 12, locals := 111 } : Room) (va_Pc [.ref h0, .int v, .int 1] (px_X (va_A [(h0, .inr (3, [.ref lg, .ref fs, .ref ps, .long fa, .long fb, .int mt, .int re])), (lg, .inr (0, [.ref lc, .ref lt, .int (nI k)])), (lc, .inl (cI, 36, .inl cs)), (lt, .inl (cI, 36, .inl ts))] sz) (pv_C D cI cJ [(h0, .inr (3, [.ref lg, .ref fs, .ref ps, .long fa, .long fb, .int mt, .int re])), (lg, .inr (0, [.ref lc, .ref lt, .int (nI k)])), (lc, .inl (cI, 36, .inl cs)), (lt, .inl (cI, 36, .inl ts))] sz))) (va_Qi (fun (r : Int32) (u : Unit) => ∃ j, j < k ∧ v = nI j ∧ r = ji2c (49 + cs j / 6)) (fun (u : Unit) => pv_B D cI cJ (va_A [(h0, .inr (3, [.ref lg, .ref fs, .ref ps, .long fa, .long fb, .int mt, .int re])), (lg, .inr (0, [.ref lc, .ref lt, .int (nI k)])), (lc, .inl (cI, 36, .inl cs)), (lt, .inl (cI, 36, .inl ts))] sz) [(h0, .inr (3, [.ref lg, .ref fs, .ref ps, .long fa, .long fb, .int mt, .int re])), (lg, .inr (0, [.ref lc, .ref lt, .int (nI k)])), (lc, .inl (cI, 36, .inl cs)), (lt, .inl (cI, 36, .inl ts))]) (va_A [(h0, .inr (3, [.ref lg, .ref fs, .ref ps, .long fa, .long fb, .int mt, .int re])), (lg, .inr (0, [.ref lc, .ref lt, .int (nI k)])), (lc, .inl (cI, 36, .inl cs)), (lt, .inl (cI, 36, .inl ts))] sz)) (vx_X (fun (_ : Unit) => True) (fun (E : String) (_ : Unit) (tt : State) => (E = nIOB ∧ ¬ imove k v) ∧ pv_B D cI cJ (va_A [(h0, .inr (3, [.ref lg, .ref fs, .ref ps, .long fa, .long fb, .int mt, .int re])), (lg, .inr (0, [.ref lc, .ref lt, .int (nI k)])), (lc, .inl (cI, 36, .inl cs)), (lt, .inl (cI, 36, .inl ts))] sz) [(h0, .inr (3, [.ref lg, .ref fs, .ref ps, .long fa, .long fb, .int mt, .int re])), (lg, .inr (0, [.ref lc, .ref lt, .int (nI k)])), (lc, .inl (cI, 36, .inl cs)), (lt, .inl (cI, 36, .inl ts))] tt) (va_A [(h0, .inr (3, [.ref lg, .ref fs, .ref ps, .long fa, .long fb, .int mt, .int re])), (lg, .inr (0, [.ref lc, .ref lt, .int (nI k)])), (lc, .inl (cI, 36, .inl cs)), (lt, .inl (cI, 36, .inl ts))] sz)) 2 12 (va_A [(h0, .inr (3, [.ref lg, .ref fs, .ref ps, .long fa, .long fb, .int mt, .int re])), (lg, .inr (0, [.ref lc, .ref lt, .int (nI k)])), (lc, .inl (cI, 36, .inl cs)), (lt, .inl (cI, 36, .inl ts))] sz) := by
  refine vx_ofW (cc := cX6_textAt) (maxL := 3) (ret := (some .char)) (by decide) rfl ?_
  intro p e s m args below meth c s₁ B hml htab hv
  obtain ⟨rfl, hEX, hZ, rfl, hP, hK, hD0⟩ := hv
  have hx := B.exec
  have hb := B.bytes
  have hr := B.returns
  have hts := atoms_spec (ws := wsX6_textAt) B.pre
  have hown : s.vm.findClass RX6 = some m.cls := findClass_of_methodNamed B.named
  have hlocks := B.notSynchronized
  have hD := hD0.self (sz := s.heap.size)
  generalize hAe : va_A [(h0, .inr (3, [.ref lg, .ref fs, .ref ps, .long fa, .long fb, .int mt, .int re])), (lg, .inr (0, [.ref lc, .ref lt, .int (nI k)])), (lc, .inl (cI, 36, .inl cs)), (lt, .inl (cI, 36, .inl ts))] s.heap.size = A at hD hZ ⊢
  have hA : ∀ q : Nat, s.heap.size ≤ q → A q := fun q h => by rw [← hAe]; exact Or.inr h
  have hS : va_S A s.heap s.heap [] := va_S.rf
  have hinX6 : ∀ w ∈ wsX60, w ∈ wsX6_textAt := by decide +kernel
  have hfl12 : (Cond.fieldLink RX6 12 "Twistquad" "log" "LTwistquad$MoveLog;").before ([.ref h0, .int v, .int 1] : List Value).toArray s = true := hts _ (by decide +kernel)
  have hl := lv_entry ([.ref h0, .int v, .int 1]) (n := 3) (Nat.le_of_ble_eq_true rfl)
  rw [lg_entry_eq]
  generalize (lg_sl ([.ref h0, .int v, .int 1]) ++ List.replicate (3 - (lg_sl ([.ref h0, .int v, .int 1])).length) Slot.unset).toArray = ls at hl ⊢
  have hl : lv_has ls 3 [(0, .ref h0), (1, .int v), (2, .int 1)] := hl
  refine lv_aload_n hx hb dX6_textAt_0 rfl (lv_at hl 0 rfl) ?_
  refine lv_iload_n hx hb dX6_textAt_1 rfl (lv_at hl 1 rfl) ?_
  have hPc : va_P D vwCl [(h0, .inr (3, [.ref lg, .ref fs, .ref ps, .long fa, .long fb, .int mt, .int re])), (lg, .inr (0, [.ref lc, .ref lt, .int (nI k)])), (lc, .inl (cI, 36, .inl cs)), (lt, .inl (cI, 36, .inl ts))] s.heap := hP.sub (ws' := [(h0, .inr (3, [.ref lg, .ref fs, .ref ps, .long fa, .long fb, .int mt, .int re])), (lg, .inr (0, [.ref lc, .ref lt, .int (nI k)])), (lc, .inl (cI, 36, .inl cs)), (lt, .inl (cI, 36, .inl ts))]) [0, 1, 2, 3] rfl
  have hDc : va_D A [(h0, .inr (3, [.ref lg, .ref fs, .ref ps, .long fa, .long fb, .int mt, .int re])), (lg, .inr (0, [.ref lc, .ref lt, .int (nI k)])), (lc, .inl (cI, 36, .inl cs)), (lt, .inl (cI, 36, .inl ts))] := hD.sub (ws' := [(h0, .inr (3, [.ref lg, .ref fs, .ref ps, .long fa, .long fb, .int mt, .int re])), (lg, .inr (0, [.ref lc, .ref lt, .int (nI k)])), (lc, .inl (cI, 36, .inl cs)), (lt, .inl (cI, 36, .inl ts))]) [0, 1, 2, 3] (by decide) rfl
  have hFc := va_free (wc := [(h0, .inr (3, [.ref lg, .ref fs, .ref ps, .long fa, .long fb, .int mt, .int re])), (lg, .inr (0, [.ref lc, .ref lt, .int (nI k)])), (lc, .inl (cI, 36, .inl cs)), (lt, .inl (cI, 36, .inl ts))]) hD hS hA [0, 1, 2, 3] rfl
  refine vx_callv (vx_runV (As := [.int v]) (rest := []) ⟨hx, hb, hml, hown, hts⟩ (c_X6_requireMove l hltr D cI cJ s.heap.size  h0 lg lc lt fs ps fa fb mt re cs ts k (by omega) v) (cwV 1 hts gX6_textAt_X6_requireMove rfl rfl rfl (by decide +kernel) ⟨Nat.le_of_ble_eq_true rfl, Nat.le_of_ble_eq_true rfl⟩) ⟨(px_blindX pv_blind), va_recv hK hPc (ci := 3) (q0 := 0) rfl rfl, fun U hU hW => ⟨rfl, hEX.warm hW, by rw [hU]; exact hZ.to hS hW.alike hFc, by rw [hU], by rw [hU]; exact hPc, va_K.moved hW.alike hK, hDc.weaken (fun _ _ _ _ => trivial)⟩⟩ rfl rfl hl.1 rfl (lv_room (Nat.le_of_ble_eq_true rfl)) dX6_textAt_2 ⟨(Nat.le_of_ble_eq_true rfl), (Nat.le_of_ble_eq_true rfl)⟩) hS (fun q _ h => hFc q h) hFc (fun q _ h => hFc q h) (fun E ce q9 u9 t9 H1 locs hth hvm hpx hB9 hz1 hk1 hS hce hcv hcl => ?_) (fun u t9 H1 locs hth hvm hw2 hB9 hz1 hk1 hS => ?_)
  · obtain ⟨hb9, hP1, hK1, hD1⟩ := hB9
    rw [hth] at hP1
    obtain ⟨hP, hD⟩ := va_join (wr := []) (w1 := [(h0, .inr (3, [.ref lg, .ref fs, .ref ps, .long fa, .long fb, .int mt, .int re])), (lg, .inr (0, [.ref lc, .ref lt, .int (nI k)])), (lc, .inl (cI, 36, .inl cs)), (lt, .inl (cI, 36, .inl ts))]) hP hD [0, 1, 2, 3] [] rfl rfl (by decide) (by decide) hk1 hFc hP1 hD1
    have hP : va_P D vwCl [(h0, .inr (3, [.ref lg, .ref fs, .ref ps, .long fa, .long fb, .int mt, .int re])), (lg, .inr (0, [.ref lc, .ref lt, .int (nI k)])), (lc, .inl (cI, 36, .inl cs)), (lt, .inl (cI, 36, .inl ts))] H1 := hP.sub (ws' := [(h0, .inr (3, [.ref lg, .ref fs, .ref ps, .long fa, .long fb, .int mt, .int re])), (lg, .inr (0, [.ref lc, .ref lt, .int (nI k)])), (lc, .inl (cI, 36, .inl cs)), (lt, .inl (cI, 36, .inl ts))]) [0, 1, 2, 3] rfl
    have hD : va_D A [(h0, .inr (3, [.ref lg, .ref fs, .ref ps, .long fa, .long fb, .int mt, .int re])), (lg, .inr (0, [.ref lc, .ref lt, .int (nI k)])), (lc, .inl (cI, 36, .inl cs)), (lt, .inl (cI, 36, .inl ts))] := hD.sub (ws' := [(h0, .inr (3, [.ref lg, .ref fs, .ref ps, .long fa, .long fb, .int mt, .int re])), (lg, .inr (0, [.ref lc, .ref lt, .int (nI k)])), (lc, .inl (cI, 36, .inl cs)), (lt, .inl (cI, 36, .inl ts))]) [0, 1, 2, 3] (by decide) rfl
    exact vx_out (fun x h => (htab x h).elim) hlocks hce hcv hcl (fun tt htt hvt => ⟨(), trivial, ⟨hb9, by rw [htt]; exact hP, va_K.moved hvt hK, hD⟩, hS.F htt⟩) hS.2.2 (Nat.le_of_ble_eq_true rfl) (Nat.le_of_ble_eq_true rfl)
  · try dsimp only at hw2
    obtain ⟨hP1, hK1, hD1⟩ := hB9
    rw [hth] at hP1
    obtain ⟨hP, hD⟩ := va_join (wr := []) (w1 := [(h0, .inr (3, [.ref lg, .ref fs, .ref ps, .long fa, .long fb, .int mt, .int re])), (lg, .inr (0, [.ref lc, .ref lt, .int (nI k)])), (lc, .inl (cI, 36, .inl cs)), (lt, .inl (cI, 36, .inl ts))]) hP hD [0, 1, 2, 3] [] rfl rfl (by decide) (by decide) hk1 hFc hP1 hD1
    generalize H1 = H at hP hS ⊢
    have hP : va_P D vwCl [(h0, .inr (3, [.ref lg, .ref fs, .ref ps, .long fa, .long fb, .int mt, .int re])), (lg, .inr (0, [.ref lc, .ref lt, .int (nI k)])), (lc, .inl (cI, 36, .inl cs)), (lt, .inl (cI, 36, .inl ts))] H := hP.sub (ws' := [(h0, .inr (3, [.ref lg, .ref fs, .ref ps, .long fa, .long fb, .int mt, .int re])), (lg, .inr (0, [.ref lc, .ref lt, .int (nI k)])), (lc, .inl (cI, 36, .inl cs)), (lt, .inl (cI, 36, .inl ts))]) [0, 1, 2, 3] rfl
    have hD : va_D A [(h0, .inr (3, [.ref lg, .ref fs, .ref ps, .long fa, .long fb, .int mt, .int re])), (lg, .inr (0, [.ref lc, .ref lt, .int (nI k)])), (lc, .inl (cI, 36, .inl cs)), (lt, .inl (cI, 36, .inl ts))] := hD.sub (ws' := [(h0, .inr (3, [.ref lg, .ref fs, .ref ps, .long fa, .long fb, .int mt, .int re])), (lg, .inr (0, [.ref lc, .ref lt, .int (nI k)])), (lc, .inl (cI, 36, .inl cs)), (lt, .inl (cI, 36, .inl ts))]) [0, 1, 2, 3] (by decide) rfl
    obtain ⟨j9, hj9, rfl⟩ := i32_nat (by omega) hw2.1 hw2.2
    refine lv_iload_n hx hb dX6_textAt_5 rfl (lv_at hl 2 rfl) ?_
    refine lv_if_lt (tgt := 18) hx hb dX6_textAt_6 (by decide) (fun c6 => ?_) (fun c6 => ?_)
    · exact absurd c6 (by decide)
    · refine lv_iload_n hx hb dX6_textAt_9 rfl (lv_at hl 2 rfl) ?_
      refine lv_aload_n hx hb dX6_textAt_10 rfl (lv_at hl 0 rfl) ?_
      refine lv_iload_n hx hb dX6_textAt_11 rfl (lv_at hl 1 rfl) ?_
      refine vp_callSi (W.runV (As := [.int (nI j9)]) (rest := [.int 1]) ⟨hx, hb, hml, hown, hts⟩ (c_X6_lengthOfText l D cI cJ h0 lg lc lt fs ps fa fb mt re cs ts k (by omega) j9 (by omega)) (cwV 1 hts gX6_textAt_X6_lengthOfText rfl rfl rfl (by decide +kernel) ⟨Nat.le_of_ble_eq_true rfl, Nat.le_of_ble_eq_true rfl⟩) ⟨px_blindW, va_recv hK hP (ci := 3) (q0 := 0) rfl rfl, fun U hU hW => ⟨rfl, by rw [hU]; exact hP.sub (ws' := [(h0, .inr (3, [.ref lg, .ref fs, .ref ps, .long fa, .long fb, .int mt, .int re])), (lg, .inr (0, [.ref lc, .ref lt, .int (nI k)])), (lc, .inl (cI, 36, .inl cs)), (lt, .inl (cI, 36, .inl ts))]) [0, 1, 2, 3] rfl, va_K.moved hW.alike hK⟩⟩ rfl rfl hl.1 rfl (lv_room (Nat.le_of_ble_eq_true rfl)) dX6_textAt_12 ⟨(Nat.le_of_ble_eq_true rfl), (Nat.le_of_ble_eq_true rfl)⟩) (fun r12 er12 => ?_)
      obtain rfl := er12.symm
      refine lv_icmp_lt (tgt := 28) hx hb dX6_textAt_15 (by decide) (fun c15 => ?_) (fun c15 => ?_)
      · refine lv_iload_n hx hb dX6_textAt_28 rfl (lv_at hl 2 rfl) ?_
        refine lv_tableIn (off := 43) (tgt := 72) hx hb dX6_textAt_29 (by decide) (by decide) rfl (by decide) ?_
        refine lv_bipush (v := 49) hx hb dX6_textAt_72 (by decide) ?_
        refine lv_aload_n hx hb dX6_textAt_74 rfl (lv_at hl 0 rfl) ?_
        refine va_get (D := D) (ci := 3) (v := .ref lg) (C := RX6) (T := TX6) (N := 7) hx hb hts hinX6 hown hK hP 0 rfl rfl 0 (by decide) hfl12 (fun _ h9 => h9) rfl dX6_textAt_75 ?_
        refine lv_iload_n hx hb dX6_textAt_78 rfl (lv_at hl 1 rfl) ?_
        refine vp_callSi (W.runV (As := [.int (nI j9)]) (rest := [.int 49]) ⟨hx, hb, hml, hown, hts⟩ (c_X2_cellOf l D cI cJ lg lc lt cs ts k (by omega) j9 (by omega)) (cwV 1 hts gX6_textAt_X2_cellOf rfl rfl rfl (by decide +kernel) ⟨Nat.le_of_ble_eq_true rfl, Nat.le_of_ble_eq_true rfl⟩) ⟨px_blindW, va_recv hK hP (ci := 0) (q0 := 1) rfl rfl, fun U hU hW => ⟨rfl, by rw [hU]; exact hP.sub (ws' := [(lg, .inr (0, [.ref lc, .ref lt, .int (nI k)])), (lc, .inl (cI, 36, .inl cs)), (lt, .inl (cI, 36, .inl ts))]) [1, 2, 3] rfl, va_K.moved hW.alike hK⟩⟩ rfl rfl hl.1 rfl (lv_room (Nat.le_of_ble_eq_true rfl)) dX6_textAt_79 ⟨(Nat.le_of_ble_eq_true rfl), (Nat.le_of_ble_eq_true rfl)⟩) (fun r79 er79 => ?_)
        obtain rfl := er79.symm
        refine lv_bipush (v := 6) hx hb dX6_textAt_82 (by decide) ?_
        refine lv_idiv hx hb dX6_textAt_84 (by decide) ?_
        refine lv_topi (fun x84 ex84 => ?_)
        refine lv_iadd hx hb dX6_textAt_85 ?_
        refine lv_topi (fun x85 ex85 => ?_)
        refine lv_i2c (v := ji2c x85) hx hb dX6_textAt_86 rfl ?_
        refine vx_ret ?_
        refine W.widen (k := 2) (n := 12) (Nat.le_of_ble_eq_true rfl) (Nat.le_of_ble_eq_true rfl) ?_
        refine W.zret (v := (ji2c x85)) hx hb hr (nar_c _) (fun tt ht hW => ⟨⟨(ji2c x85), (), rfl, ?_, by rw [ht]; exact hP, va_K.moved hW.alike hK, hD⟩, hS.F ht⟩) hS.2.2 dX6_textAt_87
        obtain rfl := ex84.symm; obtain rfl := ex85.symm; exact ⟨j9, hj9, rfl, rfl⟩
      · exact absurd (len_01 (by decide)) c15

set_option maxHeartbeats 400000 in
set_option maxRecDepth 100000 in
theorem c_X6_textAt_2 (l : Launch) (hltr : l.stackTraces = false) (D : va_G) (cI cJ : ClassId) (sz : Nat) (h0 lg lc lt fs ps : Nat) (fa fb : Int64) (mt re : Int32) (cs ts : Nat → Int32) (k : Nat) (hk : k ≤ 36) (v : Int32) (htx : ∀ j, j < k → ¬ ts j = (-1) → ∃ tn, tn < 8 ∧ ts j = nI tn) : vx_Met l yX6_textAt wsX6_textAt ({ frames := 7, cells := 2, slots := 12, locals := 111 } : Room) (va_Pc [.ref h0, .int v, .int 2] (px_X (va_A [(h0, .inr (3, [.ref lg, .ref fs, .ref ps, .long fa, .long fb, .int mt, .int re])), (lg, .inr (0, [.ref lc, .ref lt, .int (nI k)])), (lc, .inl (cI, 36, .inl cs)), (lt, .inl (cI, 36, .inl ts))] sz) (pv_C D cI cJ [(h0, .inr (3, [.ref lg, .ref fs, .ref ps, .long fa, .long fb, .int mt, .int re])), (lg, .inr (0, [.ref lc, .ref lt, .int (nI k)])), (lc, .inl (cI, 36, .inl cs)), (lt, .inl (cI, 36, .inl ts))] sz))) (va_Qi (fun (r : Int32) (u : Unit) => ∃ j tn, j < k ∧ v = nI j ∧ tn < 8 ∧ ts j = nI tn ∧ r = ji2c (nI (48 + tn / 2))) (fun (u : Unit) => pv_B D cI cJ (va_A [(h0, .inr (3, [.ref lg, .ref fs, .ref ps, .long fa, .long fb, .int mt, .int re])), (lg, .inr (0, [.ref lc, .ref lt, .int (nI k)])), (lc, .inl (cI, 36, .inl cs)), (lt, .inl (cI, 36, .inl ts))] sz) [(h0, .inr (3, [.ref lg, .ref fs, .ref ps, .long fa, .long fb, .int mt, .int re])), (lg, .inr (0, [.ref lc, .ref lt, .int (nI k)])), (lc, .inl (cI, 36, .inl cs)), (lt, .inl (cI, 36, .inl ts))]) (va_A [(h0, .inr (3, [.ref lg, .ref fs, .ref ps, .long fa, .long fb, .int mt, .int re])), (lg, .inr (0, [.ref lc, .ref lt, .int (nI k)])), (lc, .inl (cI, 36, .inl cs)), (lt, .inl (cI, 36, .inl ts))] sz)) (vx_X (fun (_ : Unit) => True) (fun (E : String) (_ : Unit) (tt : State) => (E = nIOB ∧ ¬ ∃ j, j < k ∧ v = nI j ∧ ¬ ts j = (-1)) ∧ pv_B D cI cJ (va_A [(h0, .inr (3, [.ref lg, .ref fs, .ref ps, .long fa, .long fb, .int mt, .int re])), (lg, .inr (0, [.ref lc, .ref lt, .int (nI k)])), (lc, .inl (cI, 36, .inl cs)), (lt, .inl (cI, 36, .inl ts))] sz) [(h0, .inr (3, [.ref lg, .ref fs, .ref ps, .long fa, .long fb, .int mt, .int re])), (lg, .inr (0, [.ref lc, .ref lt, .int (nI k)])), (lc, .inl (cI, 36, .inl cs)), (lt, .inl (cI, 36, .inl ts))] tt) (va_A [(h0, .inr (3, [.ref lg, .ref fs, .ref ps, .long fa, .long fb, .int mt, .int re])), (lg, .inr (0, [.ref lc, .ref lt, .int (nI k)])), (lc, .inl (cI, 36, .inl cs)), (lt, .inl (cI, 36, .inl ts))] sz)) 2 12 (va_A [(h0, .inr (3, [.ref lg, .ref fs, .ref ps, .long fa, .long fb, .int mt, .int re])), (lg, .inr (0, [.ref lc, .ref lt, .int (nI k)])), (lc, .inl (cI, 36, .inl cs)), (lt, .inl (cI, 36, .inl ts))] sz) := by
  refine vx_ofW (cc := cX6_textAt) (maxL := 3) (ret := (some .char)) (by decide) rfl ?_
  intro p e s m args below meth c s₁ B hml htab hv
  obtain ⟨rfl, hEX, hZ, rfl, hP, hK, hD0⟩ := hv
  have hx := B.exec
  have hb := B.bytes
  have hr := B.returns
  have hts := atoms_spec (ws := wsX6_textAt) B.pre
  have hown : s.vm.findClass RX6 = some m.cls := findClass_of_methodNamed B.named
  have hlocks := B.notSynchronized
  have hD := hD0.self (sz := s.heap.size)
  generalize hAe : va_A [(h0, .inr (3, [.ref lg, .ref fs, .ref ps, .long fa, .long fb, .int mt, .int re])), (lg, .inr (0, [.ref lc, .ref lt, .int (nI k)])), (lc, .inl (cI, 36, .inl cs)), (lt, .inl (cI, 36, .inl ts))] s.heap.size = A at hD hZ ⊢
  have hA : ∀ q : Nat, s.heap.size ≤ q → A q := fun q h => by rw [← hAe]; exact Or.inr h
  have hS : va_S A s.heap s.heap [] := va_S.rf
  have hinX6 : ∀ w ∈ wsX60, w ∈ wsX6_textAt := by decide +kernel
  have hfl12 : (Cond.fieldLink RX6 12 "Twistquad" "log" "LTwistquad$MoveLog;").before ([.ref h0, .int v, .int 2] : List Value).toArray s = true := hts _ (by decide +kernel)
  have hl := lv_entry ([.ref h0, .int v, .int 2]) (n := 3) (Nat.le_of_ble_eq_true rfl)
  rw [lg_entry_eq]
  generalize (lg_sl ([.ref h0, .int v, .int 2]) ++ List.replicate (3 - (lg_sl ([.ref h0, .int v, .int 2])).length) Slot.unset).toArray = ls at hl ⊢
  have hl : lv_has ls 3 [(0, .ref h0), (1, .int v), (2, .int 2)] := hl
  refine lv_aload_n hx hb dX6_textAt_0 rfl (lv_at hl 0 rfl) ?_
  refine lv_iload_n hx hb dX6_textAt_1 rfl (lv_at hl 1 rfl) ?_
  have hPc : va_P D vwCl [(h0, .inr (3, [.ref lg, .ref fs, .ref ps, .long fa, .long fb, .int mt, .int re])), (lg, .inr (0, [.ref lc, .ref lt, .int (nI k)])), (lc, .inl (cI, 36, .inl cs)), (lt, .inl (cI, 36, .inl ts))] s.heap := hP.sub (ws' := [(h0, .inr (3, [.ref lg, .ref fs, .ref ps, .long fa, .long fb, .int mt, .int re])), (lg, .inr (0, [.ref lc, .ref lt, .int (nI k)])), (lc, .inl (cI, 36, .inl cs)), (lt, .inl (cI, 36, .inl ts))]) [0, 1, 2, 3] rfl
  have hDc : va_D A [(h0, .inr (3, [.ref lg, .ref fs, .ref ps, .long fa, .long fb, .int mt, .int re])), (lg, .inr (0, [.ref lc, .ref lt, .int (nI k)])), (lc, .inl (cI, 36, .inl cs)), (lt, .inl (cI, 36, .inl ts))] := hD.sub (ws' := [(h0, .inr (3, [.ref lg, .ref fs, .ref ps, .long fa, .long fb, .int mt, .int re])), (lg, .inr (0, [.ref lc, .ref lt, .int (nI k)])), (lc, .inl (cI, 36, .inl cs)), (lt, .inl (cI, 36, .inl ts))]) [0, 1, 2, 3] (by decide) rfl
  have hFc := va_free (wc := [(h0, .inr (3, [.ref lg, .ref fs, .ref ps, .long fa, .long fb, .int mt, .int re])), (lg, .inr (0, [.ref lc, .ref lt, .int (nI k)])), (lc, .inl (cI, 36, .inl cs)), (lt, .inl (cI, 36, .inl ts))]) hD hS hA [0, 1, 2, 3] rfl
  refine vx_callv (vx_runV (As := [.int v]) (rest := []) ⟨hx, hb, hml, hown, hts⟩ (c_X6_requireMove l hltr D cI cJ s.heap.size  h0 lg lc lt fs ps fa fb mt re cs ts k (by omega) v) (cwV 1 hts gX6_textAt_X6_requireMove rfl rfl rfl (by decide +kernel) ⟨Nat.le_of_ble_eq_true rfl, Nat.le_of_ble_eq_true rfl⟩) ⟨(px_blindX pv_blind), va_recv hK hPc (ci := 3) (q0 := 0) rfl rfl, fun U hU hW => ⟨rfl, hEX.warm hW, by rw [hU]; exact hZ.to hS hW.alike hFc, by rw [hU], by rw [hU]; exact hPc, va_K.moved hW.alike hK, hDc.weaken (fun _ _ _ _ => trivial)⟩⟩ rfl rfl hl.1 rfl (lv_room (Nat.le_of_ble_eq_true rfl)) dX6_textAt_2 ⟨(Nat.le_of_ble_eq_true rfl), (Nat.le_of_ble_eq_true rfl)⟩) hS (fun q _ h => hFc q h) hFc (fun q _ h => hFc q h) (fun E ce q9 u9 t9 H1 locs hth hvm hpx hB9 hz1 hk1 hS hce hcv hcl => ?_) (fun u t9 H1 locs hth hvm hw2 hB9 hz1 hk1 hS => ?_)
  · obtain ⟨hb9, hP1, hK1, hD1⟩ := hB9
    rw [hth] at hP1
    obtain ⟨hP, hD⟩ := va_join (wr := []) (w1 := [(h0, .inr (3, [.ref lg, .ref fs, .ref ps, .long fa, .long fb, .int mt, .int re])), (lg, .inr (0, [.ref lc, .ref lt, .int (nI k)])), (lc, .inl (cI, 36, .inl cs)), (lt, .inl (cI, 36, .inl ts))]) hP hD [0, 1, 2, 3] [] rfl rfl (by decide) (by decide) hk1 hFc hP1 hD1
    have hP : va_P D vwCl [(h0, .inr (3, [.ref lg, .ref fs, .ref ps, .long fa, .long fb, .int mt, .int re])), (lg, .inr (0, [.ref lc, .ref lt, .int (nI k)])), (lc, .inl (cI, 36, .inl cs)), (lt, .inl (cI, 36, .inl ts))] H1 := hP.sub (ws' := [(h0, .inr (3, [.ref lg, .ref fs, .ref ps, .long fa, .long fb, .int mt, .int re])), (lg, .inr (0, [.ref lc, .ref lt, .int (nI k)])), (lc, .inl (cI, 36, .inl cs)), (lt, .inl (cI, 36, .inl ts))]) [0, 1, 2, 3] rfl
    have hD : va_D A [(h0, .inr (3, [.ref lg, .ref fs, .ref ps, .long fa, .long fb, .int mt, .int re])), (lg, .inr (0, [.ref lc, .ref lt, .int (nI k)])), (lc, .inl (cI, 36, .inl cs)), (lt, .inl (cI, 36, .inl ts))] := hD.sub (ws' := [(h0, .inr (3, [.ref lg, .ref fs, .ref ps, .long fa, .long fb, .int mt, .int re])), (lg, .inr (0, [.ref lc, .ref lt, .int (nI k)])), (lc, .inl (cI, 36, .inl cs)), (lt, .inl (cI, 36, .inl ts))]) [0, 1, 2, 3] (by decide) rfl
    exact vx_out (fun x h => (htab x h).elim) hlocks hce hcv hcl (fun tt htt hvt => ⟨(), trivial, ⟨⟨hb9.1, fun ⟨j, hj, e, _⟩ => hb9.2 (by rw [e]; exact mv_in hj hk)⟩, by rw [htt]; exact hP, va_K.moved hvt hK, hD⟩, hS.F htt⟩) hS.2.2 (Nat.le_of_ble_eq_true rfl) (Nat.le_of_ble_eq_true rfl)
  · try dsimp only at hw2
    obtain ⟨hP1, hK1, hD1⟩ := hB9
    rw [hth] at hP1
    obtain ⟨hP, hD⟩ := va_join (wr := []) (w1 := [(h0, .inr (3, [.ref lg, .ref fs, .ref ps, .long fa, .long fb, .int mt, .int re])), (lg, .inr (0, [.ref lc, .ref lt, .int (nI k)])), (lc, .inl (cI, 36, .inl cs)), (lt, .inl (cI, 36, .inl ts))]) hP hD [0, 1, 2, 3] [] rfl rfl (by decide) (by decide) hk1 hFc hP1 hD1
    generalize H1 = H at hP hS ⊢
    have hP : va_P D vwCl [(h0, .inr (3, [.ref lg, .ref fs, .ref ps, .long fa, .long fb, .int mt, .int re])), (lg, .inr (0, [.ref lc, .ref lt, .int (nI k)])), (lc, .inl (cI, 36, .inl cs)), (lt, .inl (cI, 36, .inl ts))] H := hP.sub (ws' := [(h0, .inr (3, [.ref lg, .ref fs, .ref ps, .long fa, .long fb, .int mt, .int re])), (lg, .inr (0, [.ref lc, .ref lt, .int (nI k)])), (lc, .inl (cI, 36, .inl cs)), (lt, .inl (cI, 36, .inl ts))]) [0, 1, 2, 3] rfl
    have hD : va_D A [(h0, .inr (3, [.ref lg, .ref fs, .ref ps, .long fa, .long fb, .int mt, .int re])), (lg, .inr (0, [.ref lc, .ref lt, .int (nI k)])), (lc, .inl (cI, 36, .inl cs)), (lt, .inl (cI, 36, .inl ts))] := hD.sub (ws' := [(h0, .inr (3, [.ref lg, .ref fs, .ref ps, .long fa, .long fb, .int mt, .int re])), (lg, .inr (0, [.ref lc, .ref lt, .int (nI k)])), (lc, .inl (cI, 36, .inl cs)), (lt, .inl (cI, 36, .inl ts))]) [0, 1, 2, 3] (by decide) rfl
    obtain ⟨j9, hj9, rfl⟩ := i32_nat (by omega) hw2.1 hw2.2
    refine lv_iload_n hx hb dX6_textAt_5 rfl (lv_at hl 2 rfl) ?_
    refine lv_if_lt (tgt := 18) hx hb dX6_textAt_6 (by decide) (fun c6 => ?_) (fun c6 => ?_)
    · exact absurd c6 (by decide)
    · refine lv_iload_n hx hb dX6_textAt_9 rfl (lv_at hl 2 rfl) ?_
      refine lv_aload_n hx hb dX6_textAt_10 rfl (lv_at hl 0 rfl) ?_
      refine lv_iload_n hx hb dX6_textAt_11 rfl (lv_at hl 1 rfl) ?_
      refine vp_callSi (W.runV (As := [.int (nI j9)]) (rest := [.int 2]) ⟨hx, hb, hml, hown, hts⟩ (c_X6_lengthOfText l D cI cJ h0 lg lc lt fs ps fa fb mt re cs ts k (by omega) j9 (by omega)) (cwV 1 hts gX6_textAt_X6_lengthOfText rfl rfl rfl (by decide +kernel) ⟨Nat.le_of_ble_eq_true rfl, Nat.le_of_ble_eq_true rfl⟩) ⟨px_blindW, va_recv hK hP (ci := 3) (q0 := 0) rfl rfl, fun U hU hW => ⟨rfl, by rw [hU]; exact hP.sub (ws' := [(h0, .inr (3, [.ref lg, .ref fs, .ref ps, .long fa, .long fb, .int mt, .int re])), (lg, .inr (0, [.ref lc, .ref lt, .int (nI k)])), (lc, .inl (cI, 36, .inl cs)), (lt, .inl (cI, 36, .inl ts))]) [0, 1, 2, 3] rfl, va_K.moved hW.alike hK⟩⟩ rfl rfl hl.1 rfl (lv_room (Nat.le_of_ble_eq_true rfl)) dX6_textAt_12 ⟨(Nat.le_of_ble_eq_true rfl), (Nat.le_of_ble_eq_true rfl)⟩) (fun r12 er12 => ?_)
      obtain rfl := er12.symm
      refine lv_icmp_lt (tgt := 28) hx hb dX6_textAt_15 (by decide) (fun c15 => ?_) (fun c15 => ?_)
      · obtain ⟨tn9, htn9, ht9⟩ := htx j9 hj9 (len_23 (by decide) c15)
        refine lv_iload_n hx hb dX6_textAt_28 rfl (lv_at hl 2 rfl) ?_
        refine lv_tableIn (off := 59) (tgt := 88) hx hb dX6_textAt_29 (by decide) (by decide) rfl (by decide) ?_
        refine lv_bipush (v := 48) hx hb dX6_textAt_88 (by decide) ?_
        refine lv_aload_n hx hb dX6_textAt_90 rfl (lv_at hl 0 rfl) ?_
        refine va_get (D := D) (ci := 3) (v := .ref lg) (C := RX6) (T := TX6) (N := 7) hx hb hts hinX6 hown hK hP 0 rfl rfl 0 (by decide) hfl12 (fun _ h9 => h9) rfl dX6_textAt_91 ?_
        refine lv_iload_n hx hb dX6_textAt_94 rfl (lv_at hl 1 rfl) ?_
        refine vp_callSi (W.runV (As := [.int (nI j9)]) (rest := [.int 48]) ⟨hx, hb, hml, hown, hts⟩ (c_X2_turnOf l D cI cJ lg lc lt cs ts k (by omega) j9 (by omega)) (cwV 1 hts gX6_textAt_X2_turnOf rfl rfl rfl (by decide +kernel) ⟨Nat.le_of_ble_eq_true rfl, Nat.le_of_ble_eq_true rfl⟩) ⟨px_blindW, va_recv hK hP (ci := 0) (q0 := 1) rfl rfl, fun U hU hW => ⟨rfl, by rw [hU]; exact hP.sub (ws' := [(lg, .inr (0, [.ref lc, .ref lt, .int (nI k)])), (lc, .inl (cI, 36, .inl cs)), (lt, .inl (cI, 36, .inl ts))]) [1, 2, 3] rfl, va_K.moved hW.alike hK⟩⟩ rfl rfl hl.1 rfl (lv_room (Nat.le_of_ble_eq_true rfl)) dX6_textAt_95 ⟨(Nat.le_of_ble_eq_true rfl), (Nat.le_of_ble_eq_true rfl)⟩) (fun r95 er95 => ?_)
        obtain rfl := er95.symm
        refine pk_ti (y := (nI tn9)) (ht9) ?_
        refine vp_callSi (W.runS (As := [.int (nI tn9)]) (rest := [.int 48]) ⟨hx, hb, hml, hown, hts⟩ (c_X4_quarterOf l tn9 (by omega)) (va_cwS 1 hts gX6_textAt_X4_quarterOf rfl rfl rfl (by decide +kernel) ⟨Nat.le_of_ble_eq_true rfl, Nat.le_of_ble_eq_true rfl⟩) ⟨px_blind0, fun U hU hW => ⟨rfl, trivial⟩⟩ rfl rfl hl.1 rfl (lv_room (Nat.le_of_ble_eq_true rfl)) dX6_textAt_98 ⟨(Nat.le_of_ble_eq_true rfl), (Nat.le_of_ble_eq_true rfl)⟩) (fun r98 er98 => ?_)
        obtain rfl := er98.symm
        refine lv_iadd hx hb dX6_textAt_101 ?_
        refine pk_ti (y := nI (48 + tn9 / 2)) (nI_add _ _) ?_
        refine lv_i2c (v := ji2c (nI (48 + tn9 / 2))) hx hb dX6_textAt_102 rfl ?_
        refine vx_ret ?_
        refine W.widen (k := 2) (n := 12) (Nat.le_of_ble_eq_true rfl) (Nat.le_of_ble_eq_true rfl) ?_
        refine W.zret (v := (ji2c (nI (48 + tn9 / 2)))) hx hb hr (nar_c _) (fun tt ht hW => ⟨⟨(ji2c (nI (48 + tn9 / 2))), (), rfl, ?_, by rw [ht]; exact hP, va_K.moved hW.alike hK, hD⟩, hS.F ht⟩) hS.2.2 dX6_textAt_103
        exact ⟨j9, tn9, hj9, rfl, htn9, ht9, rfl⟩
      · obtain ⟨sa, hstr⟩ := hEX.1 (156, "no such characte\x72") (by unfold xstrs; simp)
        have hmem9 : ∀ w ∈ (vx_atS RX6 158 nIOB ["java/lang/RuntimeException", "java/lang/Exception"]).filter goodWord, w ∈ wsX6_textAt := fun w h => by first | exact List.mem_cons_of_mem _ (List.mem_append_right _ h) | exact List.mem_cons_of_mem _ (List.mem_append_left _ (List.mem_append_right _ h)) | exact List.mem_cons_of_mem _ (List.mem_append_left _ (List.mem_append_left _ (List.mem_append_right _ h)))
        refine vx_throwS (own := RX6) (cls := nIOB) (text := "no such characte\x72") (names := ["java/lang/RuntimeException", "java/lang/Exception"]) (ik := 154) (is := 156) (ic := 158) hx hb hltr hown (by decide +kernel) (by decide +kernel) (hts _ (by decide +kernel)) (hts _ (by decide +kernel)) hstr (vx_hat (fun w h => hts w (hmem9 w h)) vx_nong_IOB (vx_c (va_Nw.use rfl hEX.2.1) (vx_c (va_Nw.use rfl hEX.2.2.2.2.1) (vx_c (va_Nw.use rfl hEX.2.2.2.2.2.1) (vx_c (va_Nw.use rfl hEX.2.2.2.2.2.2) vx_n))))) vx_ot_IOB hZ.1 hZ.2 hS (hl.1.trans hml.symm) dX6_textAt_18 dX6_textAt_21 dX6_textAt_22 dX6_textAt_24 dX6_textAt_27 (fun x h => (htab x h).elim) (by decide) (Nat.le_of_ble_eq_true rfl) (Nat.le_of_ble_eq_true rfl) (Nat.le_of_ble_eq_true rfl) hlocks (fun tt hvm hz hk => ⟨(), trivial, ⟨⟨rfl, fun ⟨j, hj, e, h⟩ => h (by rw [← nI_inj9 (by omega) (by omega) e]; exact len_24 (by decide) c15)⟩, px_P hP hk, va_K.moved hvm hK, hD⟩, px_F hS hz hk⟩) hS.2.2 (Nat.le_of_ble_eq_true rfl) (Nat.le_of_ble_eq_true rfl)

set_option maxHeartbeats 400000 in
set_option maxRecDepth 100000 in
theorem c_X6_textAt_3 (l : Launch) (hltr : l.stackTraces = false) (D : va_G) (cI cJ : ClassId) (sz : Nat) (h0 lg lc lt fs ps : Nat) (fa fb : Int64) (mt re : Int32) (cs ts : Nat → Int32) (k : Nat) (hk : k ≤ 36) (v : Int32) (htx : ∀ j, j < k → ¬ ts j = (-1) → ∃ tn, tn < 8 ∧ ts j = nI tn) : vx_Met l yX6_textAt wsX6_textAt ({ frames := 7, cells := 2, slots := 12, locals := 111 } : Room) (va_Pc [.ref h0, .int v, .int 3] (px_X (va_A [(h0, .inr (3, [.ref lg, .ref fs, .ref ps, .long fa, .long fb, .int mt, .int re])), (lg, .inr (0, [.ref lc, .ref lt, .int (nI k)])), (lc, .inl (cI, 36, .inl cs)), (lt, .inl (cI, 36, .inl ts))] sz) (pv_C D cI cJ [(h0, .inr (3, [.ref lg, .ref fs, .ref ps, .long fa, .long fb, .int mt, .int re])), (lg, .inr (0, [.ref lc, .ref lt, .int (nI k)])), (lc, .inl (cI, 36, .inl cs)), (lt, .inl (cI, 36, .inl ts))] sz))) (va_Qi (fun (r : Int32) (u : Unit) => ∃ j tn, j < k ∧ v = nI j ∧ tn < 8 ∧ ts j = nI tn ∧ r = (if tn % 2 = 0 then 82 else 76)) (fun (u : Unit) => pv_B D cI cJ (va_A [(h0, .inr (3, [.ref lg, .ref fs, .ref ps, .long fa, .long fb, .int mt, .int re])), (lg, .inr (0, [.ref lc, .ref lt, .int (nI k)])), (lc, .inl (cI, 36, .inl cs)), (lt, .inl (cI, 36, .inl ts))] sz) [(h0, .inr (3, [.ref lg, .ref fs, .ref ps, .long fa, .long fb, .int mt, .int re])), (lg, .inr (0, [.ref lc, .ref lt, .int (nI k)])), (lc, .inl (cI, 36, .inl cs)), (lt, .inl (cI, 36, .inl ts))]) (va_A [(h0, .inr (3, [.ref lg, .ref fs, .ref ps, .long fa, .long fb, .int mt, .int re])), (lg, .inr (0, [.ref lc, .ref lt, .int (nI k)])), (lc, .inl (cI, 36, .inl cs)), (lt, .inl (cI, 36, .inl ts))] sz)) (vx_X (fun (_ : Unit) => True) (fun (E : String) (_ : Unit) (tt : State) => (E = nIOB ∧ ¬ ∃ j, j < k ∧ v = nI j ∧ ¬ ts j = (-1)) ∧ pv_B D cI cJ (va_A [(h0, .inr (3, [.ref lg, .ref fs, .ref ps, .long fa, .long fb, .int mt, .int re])), (lg, .inr (0, [.ref lc, .ref lt, .int (nI k)])), (lc, .inl (cI, 36, .inl cs)), (lt, .inl (cI, 36, .inl ts))] sz) [(h0, .inr (3, [.ref lg, .ref fs, .ref ps, .long fa, .long fb, .int mt, .int re])), (lg, .inr (0, [.ref lc, .ref lt, .int (nI k)])), (lc, .inl (cI, 36, .inl cs)), (lt, .inl (cI, 36, .inl ts))] tt) (va_A [(h0, .inr (3, [.ref lg, .ref fs, .ref ps, .long fa, .long fb, .int mt, .int re])), (lg, .inr (0, [.ref lc, .ref lt, .int (nI k)])), (lc, .inl (cI, 36, .inl cs)), (lt, .inl (cI, 36, .inl ts))] sz)) 2 12 (va_A [(h0, .inr (3, [.ref lg, .ref fs, .ref ps, .long fa, .long fb, .int mt, .int re])), (lg, .inr (0, [.ref lc, .ref lt, .int (nI k)])), (lc, .inl (cI, 36, .inl cs)), (lt, .inl (cI, 36, .inl ts))] sz) := by
  refine vx_ofW (cc := cX6_textAt) (maxL := 3) (ret := (some .char)) (by decide) rfl ?_
  intro p e s m args below meth c s₁ B hml htab hv
  obtain ⟨rfl, hEX, hZ, rfl, hP, hK, hD0⟩ := hv
  have hx := B.exec
  have hb := B.bytes
  have hr := B.returns
  have hts := atoms_spec (ws := wsX6_textAt) B.pre
  have hown : s.vm.findClass RX6 = some m.cls := findClass_of_methodNamed B.named
  have hlocks := B.notSynchronized
  have hD := hD0.self (sz := s.heap.size)
  generalize hAe : va_A [(h0, .inr (3, [.ref lg, .ref fs, .ref ps, .long fa, .long fb, .int mt, .int re])), (lg, .inr (0, [.ref lc, .ref lt, .int (nI k)])), (lc, .inl (cI, 36, .inl cs)), (lt, .inl (cI, 36, .inl ts))] s.heap.size = A at hD hZ ⊢
  have hA : ∀ q : Nat, s.heap.size ≤ q → A q := fun q h => by rw [← hAe]; exact Or.inr h
  have hS : va_S A s.heap s.heap [] := va_S.rf
  have hinX6 : ∀ w ∈ wsX60, w ∈ wsX6_textAt := by decide +kernel
  have hfl12 : (Cond.fieldLink RX6 12 "Twistquad" "log" "LTwistquad$MoveLog;").before ([.ref h0, .int v, .int 3] : List Value).toArray s = true := hts _ (by decide +kernel)
  have hl := lv_entry ([.ref h0, .int v, .int 3]) (n := 3) (Nat.le_of_ble_eq_true rfl)
  rw [lg_entry_eq]
  generalize (lg_sl ([.ref h0, .int v, .int 3]) ++ List.replicate (3 - (lg_sl ([.ref h0, .int v, .int 3])).length) Slot.unset).toArray = ls at hl ⊢
  have hl : lv_has ls 3 [(0, .ref h0), (1, .int v), (2, .int 3)] := hl
  refine lv_aload_n hx hb dX6_textAt_0 rfl (lv_at hl 0 rfl) ?_
  refine lv_iload_n hx hb dX6_textAt_1 rfl (lv_at hl 1 rfl) ?_
  have hPc : va_P D vwCl [(h0, .inr (3, [.ref lg, .ref fs, .ref ps, .long fa, .long fb, .int mt, .int re])), (lg, .inr (0, [.ref lc, .ref lt, .int (nI k)])), (lc, .inl (cI, 36, .inl cs)), (lt, .inl (cI, 36, .inl ts))] s.heap := hP.sub (ws' := [(h0, .inr (3, [.ref lg, .ref fs, .ref ps, .long fa, .long fb, .int mt, .int re])), (lg, .inr (0, [.ref lc, .ref lt, .int (nI k)])), (lc, .inl (cI, 36, .inl cs)), (lt, .inl (cI, 36, .inl ts))]) [0, 1, 2, 3] rfl
  have hDc : va_D A [(h0, .inr (3, [.ref lg, .ref fs, .ref ps, .long fa, .long fb, .int mt, .int re])), (lg, .inr (0, [.ref lc, .ref lt, .int (nI k)])), (lc, .inl (cI, 36, .inl cs)), (lt, .inl (cI, 36, .inl ts))] := hD.sub (ws' := [(h0, .inr (3, [.ref lg, .ref fs, .ref ps, .long fa, .long fb, .int mt, .int re])), (lg, .inr (0, [.ref lc, .ref lt, .int (nI k)])), (lc, .inl (cI, 36, .inl cs)), (lt, .inl (cI, 36, .inl ts))]) [0, 1, 2, 3] (by decide) rfl
  have hFc := va_free (wc := [(h0, .inr (3, [.ref lg, .ref fs, .ref ps, .long fa, .long fb, .int mt, .int re])), (lg, .inr (0, [.ref lc, .ref lt, .int (nI k)])), (lc, .inl (cI, 36, .inl cs)), (lt, .inl (cI, 36, .inl ts))]) hD hS hA [0, 1, 2, 3] rfl
  refine vx_callv (vx_runV (As := [.int v]) (rest := []) ⟨hx, hb, hml, hown, hts⟩ (c_X6_requireMove l hltr D cI cJ s.heap.size  h0 lg lc lt fs ps fa fb mt re cs ts k (by omega) v) (cwV 1 hts gX6_textAt_X6_requireMove rfl rfl rfl (by decide +kernel) ⟨Nat.le_of_ble_eq_true rfl, Nat.le_of_ble_eq_true rfl⟩) ⟨(px_blindX pv_blind), va_recv hK hPc (ci := 3) (q0 := 0) rfl rfl, fun U hU hW => ⟨rfl, hEX.warm hW, by rw [hU]; exact hZ.to hS hW.alike hFc, by rw [hU], by rw [hU]; exact hPc, va_K.moved hW.alike hK, hDc.weaken (fun _ _ _ _ => trivial)⟩⟩ rfl rfl hl.1 rfl (lv_room (Nat.le_of_ble_eq_true rfl)) dX6_textAt_2 ⟨(Nat.le_of_ble_eq_true rfl), (Nat.le_of_ble_eq_true rfl)⟩) hS (fun q _ h => hFc q h) hFc (fun q _ h => hFc q h) (fun E ce q9 u9 t9 H1 locs hth hvm hpx hB9 hz1 hk1 hS hce hcv hcl => ?_) (fun u t9 H1 locs hth hvm hw2 hB9 hz1 hk1 hS => ?_)
  · obtain ⟨hb9, hP1, hK1, hD1⟩ := hB9
    rw [hth] at hP1
    obtain ⟨hP, hD⟩ := va_join (wr := []) (w1 := [(h0, .inr (3, [.ref lg, .ref fs, .ref ps, .long fa, .long fb, .int mt, .int re])), (lg, .inr (0, [.ref lc, .ref lt, .int (nI k)])), (lc, .inl (cI, 36, .inl cs)), (lt, .inl (cI, 36, .inl ts))]) hP hD [0, 1, 2, 3] [] rfl rfl (by decide) (by decide) hk1 hFc hP1 hD1
    have hP : va_P D vwCl [(h0, .inr (3, [.ref lg, .ref fs, .ref ps, .long fa, .long fb, .int mt, .int re])), (lg, .inr (0, [.ref lc, .ref lt, .int (nI k)])), (lc, .inl (cI, 36, .inl cs)), (lt, .inl (cI, 36, .inl ts))] H1 := hP.sub (ws' := [(h0, .inr (3, [.ref lg, .ref fs, .ref ps, .long fa, .long fb, .int mt, .int re])), (lg, .inr (0, [.ref lc, .ref lt, .int (nI k)])), (lc, .inl (cI, 36, .inl cs)), (lt, .inl (cI, 36, .inl ts))]) [0, 1, 2, 3] rfl
    have hD : va_D A [(h0, .inr (3, [.ref lg, .ref fs, .ref ps, .long fa, .long fb, .int mt, .int re])), (lg, .inr (0, [.ref lc, .ref lt, .int (nI k)])), (lc, .inl (cI, 36, .inl cs)), (lt, .inl (cI, 36, .inl ts))] := hD.sub (ws' := [(h0, .inr (3, [.ref lg, .ref fs, .ref ps, .long fa, .long fb, .int mt, .int re])), (lg, .inr (0, [.ref lc, .ref lt, .int (nI k)])), (lc, .inl (cI, 36, .inl cs)), (lt, .inl (cI, 36, .inl ts))]) [0, 1, 2, 3] (by decide) rfl
    exact vx_out (fun x h => (htab x h).elim) hlocks hce hcv hcl (fun tt htt hvt => ⟨(), trivial, ⟨⟨hb9.1, fun ⟨j, hj, e, _⟩ => hb9.2 (by rw [e]; exact mv_in hj hk)⟩, by rw [htt]; exact hP, va_K.moved hvt hK, hD⟩, hS.F htt⟩) hS.2.2 (Nat.le_of_ble_eq_true rfl) (Nat.le_of_ble_eq_true rfl)
  · try dsimp only at hw2
    obtain ⟨hP1, hK1, hD1⟩ := hB9
    rw [hth] at hP1
    obtain ⟨hP, hD⟩ := va_join (wr := []) (w1 := [(h0, .inr (3, [.ref lg, .ref fs, .ref ps, .long fa, .long fb, .int mt, .int re])), (lg, .inr (0, [.ref lc, .ref lt, .int (nI k)])), (lc, .inl (cI, 36, .inl cs)), (lt, .inl (cI, 36, .inl ts))]) hP hD [0, 1, 2, 3] [] rfl rfl (by decide) (by decide) hk1 hFc hP1 hD1
    generalize H1 = H at hP hS ⊢
    have hP : va_P D vwCl [(h0, .inr (3, [.ref lg, .ref fs, .ref ps, .long fa, .long fb, .int mt, .int re])), (lg, .inr (0, [.ref lc, .ref lt, .int (nI k)])), (lc, .inl (cI, 36, .inl cs)), (lt, .inl (cI, 36, .inl ts))] H := hP.sub (ws' := [(h0, .inr (3, [.ref lg, .ref fs, .ref ps, .long fa, .long fb, .int mt, .int re])), (lg, .inr (0, [.ref lc, .ref lt, .int (nI k)])), (lc, .inl (cI, 36, .inl cs)), (lt, .inl (cI, 36, .inl ts))]) [0, 1, 2, 3] rfl
    have hD : va_D A [(h0, .inr (3, [.ref lg, .ref fs, .ref ps, .long fa, .long fb, .int mt, .int re])), (lg, .inr (0, [.ref lc, .ref lt, .int (nI k)])), (lc, .inl (cI, 36, .inl cs)), (lt, .inl (cI, 36, .inl ts))] := hD.sub (ws' := [(h0, .inr (3, [.ref lg, .ref fs, .ref ps, .long fa, .long fb, .int mt, .int re])), (lg, .inr (0, [.ref lc, .ref lt, .int (nI k)])), (lc, .inl (cI, 36, .inl cs)), (lt, .inl (cI, 36, .inl ts))]) [0, 1, 2, 3] (by decide) rfl
    obtain ⟨j9, hj9, rfl⟩ := i32_nat (by omega) hw2.1 hw2.2
    refine lv_iload_n hx hb dX6_textAt_5 rfl (lv_at hl 2 rfl) ?_
    refine lv_if_lt (tgt := 18) hx hb dX6_textAt_6 (by decide) (fun c6 => ?_) (fun c6 => ?_)
    · exact absurd c6 (by decide)
    · refine lv_iload_n hx hb dX6_textAt_9 rfl (lv_at hl 2 rfl) ?_
      refine lv_aload_n hx hb dX6_textAt_10 rfl (lv_at hl 0 rfl) ?_
      refine lv_iload_n hx hb dX6_textAt_11 rfl (lv_at hl 1 rfl) ?_
      refine vp_callSi (W.runV (As := [.int (nI j9)]) (rest := [.int 3]) ⟨hx, hb, hml, hown, hts⟩ (c_X6_lengthOfText l D cI cJ h0 lg lc lt fs ps fa fb mt re cs ts k (by omega) j9 (by omega)) (cwV 1 hts gX6_textAt_X6_lengthOfText rfl rfl rfl (by decide +kernel) ⟨Nat.le_of_ble_eq_true rfl, Nat.le_of_ble_eq_true rfl⟩) ⟨px_blindW, va_recv hK hP (ci := 3) (q0 := 0) rfl rfl, fun U hU hW => ⟨rfl, by rw [hU]; exact hP.sub (ws' := [(h0, .inr (3, [.ref lg, .ref fs, .ref ps, .long fa, .long fb, .int mt, .int re])), (lg, .inr (0, [.ref lc, .ref lt, .int (nI k)])), (lc, .inl (cI, 36, .inl cs)), (lt, .inl (cI, 36, .inl ts))]) [0, 1, 2, 3] rfl, va_K.moved hW.alike hK⟩⟩ rfl rfl hl.1 rfl (lv_room (Nat.le_of_ble_eq_true rfl)) dX6_textAt_12 ⟨(Nat.le_of_ble_eq_true rfl), (Nat.le_of_ble_eq_true rfl)⟩) (fun r12 er12 => ?_)
      obtain rfl := er12.symm
      refine lv_icmp_lt (tgt := 28) hx hb dX6_textAt_15 (by decide) (fun c15 => ?_) (fun c15 => ?_)
      · obtain ⟨tn9, htn9, ht9⟩ := htx j9 hj9 (len_23 (by decide) c15)
        refine lv_iload_n hx hb dX6_textAt_28 rfl (lv_at hl 2 rfl) ?_
        refine lv_tableOut (tgt := 104) hx hb dX6_textAt_29 (by decide) (by decide) ?_
        refine lv_aload_n hx hb dX6_textAt_104 rfl (lv_at hl 0 rfl) ?_
        refine va_get (D := D) (ci := 3) (v := .ref lg) (C := RX6) (T := TX6) (N := 7) hx hb hts hinX6 hown hK hP 0 rfl rfl 0 (by decide) hfl12 (fun _ h9 => h9) rfl dX6_textAt_105 ?_
        refine lv_iload_n hx hb dX6_textAt_108 rfl (lv_at hl 1 rfl) ?_
        refine vp_callSi (W.runV (As := [.int (nI j9)]) (rest := []) ⟨hx, hb, hml, hown, hts⟩ (c_X2_turnOf l D cI cJ lg lc lt cs ts k (by omega) j9 (by omega)) (cwV 1 hts gX6_textAt_X2_turnOf rfl rfl rfl (by decide +kernel) ⟨Nat.le_of_ble_eq_true rfl, Nat.le_of_ble_eq_true rfl⟩) ⟨px_blindW, va_recv hK hP (ci := 0) (q0 := 1) rfl rfl, fun U hU hW => ⟨rfl, by rw [hU]; exact hP.sub (ws' := [(lg, .inr (0, [.ref lc, .ref lt, .int (nI k)])), (lc, .inl (cI, 36, .inl cs)), (lt, .inl (cI, 36, .inl ts))]) [1, 2, 3] rfl, va_K.moved hW.alike hK⟩⟩ rfl rfl hl.1 rfl (lv_room (Nat.le_of_ble_eq_true rfl)) dX6_textAt_109 ⟨(Nat.le_of_ble_eq_true rfl), (Nat.le_of_ble_eq_true rfl)⟩) (fun r109 er109 => ?_)
        obtain rfl := er109.symm
        refine pk_ti (y := (nI tn9)) (ht9) ?_
        refine vp_callSi (W.runS (As := [.int (nI tn9)]) (rest := []) ⟨hx, hb, hml, hown, hts⟩ (c_X4_wayOf l tn9 (by omega)) (va_cwS 1 hts gX6_textAt_X4_wayOf rfl rfl rfl (by decide +kernel) ⟨Nat.le_of_ble_eq_true rfl, Nat.le_of_ble_eq_true rfl⟩) ⟨px_blind0, fun U hU hW => ⟨rfl, trivial⟩⟩ rfl rfl hl.1 rfl (lv_room (Nat.le_of_ble_eq_true rfl)) dX6_textAt_112 ⟨(Nat.le_of_ble_eq_true rfl), (Nat.le_of_ble_eq_true rfl)⟩) (fun r112 er112 => ?_)
        obtain rfl := er112.symm
        refine lv_if_ne (tgt := 123) hx hb dX6_textAt_115 (by decide) (fun c115 => ?_) (fun c115 => ?_)
        · have c115 : ¬ (tn9 % 2) = 0 := _root_.mt (nq_eq (a := (tn9 % 2)) (b := 0) (by omega) (by omega)).mpr c115
          refine lv_bipush (v := 76) hx hb dX6_textAt_123 (by decide) ?_
          refine vx_ret ?_
          refine W.widen (k := 2) (n := 12) (Nat.le_of_ble_eq_true rfl) (Nat.le_of_ble_eq_true rfl) ?_
          refine W.zret (v := 76) hx hb hr (rfl) (fun tt ht hW => ⟨⟨76, (), rfl, ?_, by rw [ht]; exact hP, va_K.moved hW.alike hK, hD⟩, hS.F ht⟩) hS.2.2 dX6_textAt_125
          exact ⟨j9, tn9, hj9, rfl, htn9, ht9, by first | exact (if_pos c115).symm | exact (if_neg c115).symm⟩
        · have c115 : (tn9 % 2) = 0 := (nq_eq (a := (tn9 % 2)) (b := 0) (by omega) (by omega)).mp c115
          refine lv_bipush (v := 82) hx hb dX6_textAt_118 (by decide) ?_
          refine lv_goto (tgt := 125) hx hb dX6_textAt_120 (by decide) ?_
          refine vx_ret ?_
          refine W.widen (k := 2) (n := 12) (Nat.le_of_ble_eq_true rfl) (Nat.le_of_ble_eq_true rfl) ?_
          refine W.zret (v := 82) hx hb hr (rfl) (fun tt ht hW => ⟨⟨82, (), rfl, ?_, by rw [ht]; exact hP, va_K.moved hW.alike hK, hD⟩, hS.F ht⟩) hS.2.2 dX6_textAt_125
          exact ⟨j9, tn9, hj9, rfl, htn9, ht9, by first | exact (if_pos c115).symm | exact (if_neg c115).symm⟩
      · obtain ⟨sa, hstr⟩ := hEX.1 (156, "no such characte\x72") (by unfold xstrs; simp)
        have hmem9 : ∀ w ∈ (vx_atS RX6 158 nIOB ["java/lang/RuntimeException", "java/lang/Exception"]).filter goodWord, w ∈ wsX6_textAt := fun w h => by first | exact List.mem_cons_of_mem _ (List.mem_append_right _ h) | exact List.mem_cons_of_mem _ (List.mem_append_left _ (List.mem_append_right _ h)) | exact List.mem_cons_of_mem _ (List.mem_append_left _ (List.mem_append_left _ (List.mem_append_right _ h)))
        refine vx_throwS (own := RX6) (cls := nIOB) (text := "no such characte\x72") (names := ["java/lang/RuntimeException", "java/lang/Exception"]) (ik := 154) (is := 156) (ic := 158) hx hb hltr hown (by decide +kernel) (by decide +kernel) (hts _ (by decide +kernel)) (hts _ (by decide +kernel)) hstr (vx_hat (fun w h => hts w (hmem9 w h)) vx_nong_IOB (vx_c (va_Nw.use rfl hEX.2.1) (vx_c (va_Nw.use rfl hEX.2.2.2.2.1) (vx_c (va_Nw.use rfl hEX.2.2.2.2.2.1) (vx_c (va_Nw.use rfl hEX.2.2.2.2.2.2) vx_n))))) vx_ot_IOB hZ.1 hZ.2 hS (hl.1.trans hml.symm) dX6_textAt_18 dX6_textAt_21 dX6_textAt_22 dX6_textAt_24 dX6_textAt_27 (fun x h => (htab x h).elim) (by decide) (Nat.le_of_ble_eq_true rfl) (Nat.le_of_ble_eq_true rfl) (Nat.le_of_ble_eq_true rfl) hlocks (fun tt hvm hz hk => ⟨(), trivial, ⟨⟨rfl, fun ⟨j, hj, e, h⟩ => h (by rw [← nI_inj9 (by omega) (by omega) e]; exact len_24 (by decide) c15)⟩, px_P hP hk, va_K.moved hvm hK, hD⟩, px_F hS hz hk⟩) hS.2.2 (Nat.le_of_ble_eq_true rfl) (Nat.le_of_ble_eq_true rfl)

set_option maxHeartbeats 400000 in
set_option maxRecDepth 100000 in
theorem c_X6_textAt_bad (l : Launch) (hltr : l.stackTraces = false) (D : va_G) (cI cJ : ClassId) (sz : Nat) (h0 lg lc lt fs ps : Nat) (fa fb : Int64) (mt re : Int32) (cs ts : Nat → Int32) (k : Nat) (hk : k ≤ 36) (v v2 : Int32) (h2 : ¬ (0 ≤ v2 ∧ v2 ≤ 3)) : vx_Met l yX6_textAt wsX6_textAt ({ frames := 7, cells := 2, slots := 12, locals := 111 } : Room) (va_Pc [.ref h0, .int v, .int v2] (px_X (va_A [(h0, .inr (3, [.ref lg, .ref fs, .ref ps, .long fa, .long fb, .int mt, .int re])), (lg, .inr (0, [.ref lc, .ref lt, .int (nI k)])), (lc, .inl (cI, 36, .inl cs)), (lt, .inl (cI, 36, .inl ts))] sz) (pv_C D cI cJ [(h0, .inr (3, [.ref lg, .ref fs, .ref ps, .long fa, .long fb, .int mt, .int re])), (lg, .inr (0, [.ref lc, .ref lt, .int (nI k)])), (lc, .inl (cI, 36, .inl cs)), (lt, .inl (cI, 36, .inl ts))] sz))) (va_Qi (fun (r : Int32) (u : Unit) => False) (fun (u : Unit) => pv_B D cI cJ (va_A [(h0, .inr (3, [.ref lg, .ref fs, .ref ps, .long fa, .long fb, .int mt, .int re])), (lg, .inr (0, [.ref lc, .ref lt, .int (nI k)])), (lc, .inl (cI, 36, .inl cs)), (lt, .inl (cI, 36, .inl ts))] sz) [(h0, .inr (3, [.ref lg, .ref fs, .ref ps, .long fa, .long fb, .int mt, .int re])), (lg, .inr (0, [.ref lc, .ref lt, .int (nI k)])), (lc, .inl (cI, 36, .inl cs)), (lt, .inl (cI, 36, .inl ts))]) (va_A [(h0, .inr (3, [.ref lg, .ref fs, .ref ps, .long fa, .long fb, .int mt, .int re])), (lg, .inr (0, [.ref lc, .ref lt, .int (nI k)])), (lc, .inl (cI, 36, .inl cs)), (lt, .inl (cI, 36, .inl ts))] sz)) (vx_X (fun (_ : Unit) => True) (fun (E : String) (_ : Unit) (tt : State) => (E = nIOB) ∧ pv_B D cI cJ (va_A [(h0, .inr (3, [.ref lg, .ref fs, .ref ps, .long fa, .long fb, .int mt, .int re])), (lg, .inr (0, [.ref lc, .ref lt, .int (nI k)])), (lc, .inl (cI, 36, .inl cs)), (lt, .inl (cI, 36, .inl ts))] sz) [(h0, .inr (3, [.ref lg, .ref fs, .ref ps, .long fa, .long fb, .int mt, .int re])), (lg, .inr (0, [.ref lc, .ref lt, .int (nI k)])), (lc, .inl (cI, 36, .inl cs)), (lt, .inl (cI, 36, .inl ts))] tt) (va_A [(h0, .inr (3, [.ref lg, .ref fs, .ref ps, .long fa, .long fb, .int mt, .int re])), (lg, .inr (0, [.ref lc, .ref lt, .int (nI k)])), (lc, .inl (cI, 36, .inl cs)), (lt, .inl (cI, 36, .inl ts))] sz)) 2 12 (va_A [(h0, .inr (3, [.ref lg, .ref fs, .ref ps, .long fa, .long fb, .int mt, .int re])), (lg, .inr (0, [.ref lc, .ref lt, .int (nI k)])), (lc, .inl (cI, 36, .inl cs)), (lt, .inl (cI, 36, .inl ts))] sz) := by
  refine vx_ofW (cc := cX6_textAt) (maxL := 3) (ret := (some .char)) (by decide) rfl ?_
  intro p e s m args below meth c s₁ B hml htab hv
  obtain ⟨rfl, hEX, hZ, rfl, hP, hK, hD0⟩ := hv
  have hx := B.exec
  have hb := B.bytes
  have hr := B.returns
  have hts := atoms_spec (ws := wsX6_textAt) B.pre
  have hown : s.vm.findClass RX6 = some m.cls := findClass_of_methodNamed B.named
  have hlocks := B.notSynchronized
  have hD := hD0.self (sz := s.heap.size)
  generalize hAe : va_A [(h0, .inr (3, [.ref lg, .ref fs, .ref ps, .long fa, .long fb, .int mt, .int re])), (lg, .inr (0, [.ref lc, .ref lt, .int (nI k)])), (lc, .inl (cI, 36, .inl cs)), (lt, .inl (cI, 36, .inl ts))] s.heap.size = A at hD hZ ⊢
  have hA : ∀ q : Nat, s.heap.size ≤ q → A q := fun q h => by rw [← hAe]; exact Or.inr h
  have hS : va_S A s.heap s.heap [] := va_S.rf
  have hl := lv_entry ([.ref h0, .int v, .int v2]) (n := 3) (Nat.le_of_ble_eq_true rfl)
  rw [lg_entry_eq]
  generalize (lg_sl ([.ref h0, .int v, .int v2]) ++ List.replicate (3 - (lg_sl ([.ref h0, .int v, .int v2])).length) Slot.unset).toArray = ls at hl ⊢
  have hl : lv_has ls 3 [(0, .ref h0), (1, .int v), (2, .int v2)] := hl
  refine lv_aload_n hx hb dX6_textAt_0 rfl (lv_at hl 0 rfl) ?_
  refine lv_iload_n hx hb dX6_textAt_1 rfl (lv_at hl 1 rfl) ?_
  have hPc : va_P D vwCl [(h0, .inr (3, [.ref lg, .ref fs, .ref ps, .long fa, .long fb, .int mt, .int re])), (lg, .inr (0, [.ref lc, .ref lt, .int (nI k)])), (lc, .inl (cI, 36, .inl cs)), (lt, .inl (cI, 36, .inl ts))] s.heap := hP.sub (ws' := [(h0, .inr (3, [.ref lg, .ref fs, .ref ps, .long fa, .long fb, .int mt, .int re])), (lg, .inr (0, [.ref lc, .ref lt, .int (nI k)])), (lc, .inl (cI, 36, .inl cs)), (lt, .inl (cI, 36, .inl ts))]) [0, 1, 2, 3] rfl
  have hDc : va_D A [(h0, .inr (3, [.ref lg, .ref fs, .ref ps, .long fa, .long fb, .int mt, .int re])), (lg, .inr (0, [.ref lc, .ref lt, .int (nI k)])), (lc, .inl (cI, 36, .inl cs)), (lt, .inl (cI, 36, .inl ts))] := hD.sub (ws' := [(h0, .inr (3, [.ref lg, .ref fs, .ref ps, .long fa, .long fb, .int mt, .int re])), (lg, .inr (0, [.ref lc, .ref lt, .int (nI k)])), (lc, .inl (cI, 36, .inl cs)), (lt, .inl (cI, 36, .inl ts))]) [0, 1, 2, 3] (by decide) rfl
  have hFc := va_free (wc := [(h0, .inr (3, [.ref lg, .ref fs, .ref ps, .long fa, .long fb, .int mt, .int re])), (lg, .inr (0, [.ref lc, .ref lt, .int (nI k)])), (lc, .inl (cI, 36, .inl cs)), (lt, .inl (cI, 36, .inl ts))]) hD hS hA [0, 1, 2, 3] rfl
  refine vx_callv (vx_runV (As := [.int v]) (rest := []) ⟨hx, hb, hml, hown, hts⟩ (c_X6_requireMove l hltr D cI cJ s.heap.size  h0 lg lc lt fs ps fa fb mt re cs ts k (by omega) v) (cwV 1 hts gX6_textAt_X6_requireMove rfl rfl rfl (by decide +kernel) ⟨Nat.le_of_ble_eq_true rfl, Nat.le_of_ble_eq_true rfl⟩) ⟨(px_blindX pv_blind), va_recv hK hPc (ci := 3) (q0 := 0) rfl rfl, fun U hU hW => ⟨rfl, hEX.warm hW, by rw [hU]; exact hZ.to hS hW.alike hFc, by rw [hU], by rw [hU]; exact hPc, va_K.moved hW.alike hK, hDc.weaken (fun _ _ _ _ => trivial)⟩⟩ rfl rfl hl.1 rfl (lv_room (Nat.le_of_ble_eq_true rfl)) dX6_textAt_2 ⟨(Nat.le_of_ble_eq_true rfl), (Nat.le_of_ble_eq_true rfl)⟩) hS (fun q _ h => hFc q h) hFc (fun q _ h => hFc q h) (fun E ce q9 u9 t9 H1 locs hth hvm hpx hB9 hz1 hk1 hS hce hcv hcl => ?_) (fun u t9 H1 locs hth hvm hw2 hB9 hz1 hk1 hS => ?_)
  · obtain ⟨hb9, hP1, hK1, hD1⟩ := hB9
    rw [hth] at hP1
    obtain ⟨hP, hD⟩ := va_join (wr := []) (w1 := [(h0, .inr (3, [.ref lg, .ref fs, .ref ps, .long fa, .long fb, .int mt, .int re])), (lg, .inr (0, [.ref lc, .ref lt, .int (nI k)])), (lc, .inl (cI, 36, .inl cs)), (lt, .inl (cI, 36, .inl ts))]) hP hD [0, 1, 2, 3] [] rfl rfl (by decide) (by decide) hk1 hFc hP1 hD1
    have hP : va_P D vwCl [(h0, .inr (3, [.ref lg, .ref fs, .ref ps, .long fa, .long fb, .int mt, .int re])), (lg, .inr (0, [.ref lc, .ref lt, .int (nI k)])), (lc, .inl (cI, 36, .inl cs)), (lt, .inl (cI, 36, .inl ts))] H1 := hP.sub (ws' := [(h0, .inr (3, [.ref lg, .ref fs, .ref ps, .long fa, .long fb, .int mt, .int re])), (lg, .inr (0, [.ref lc, .ref lt, .int (nI k)])), (lc, .inl (cI, 36, .inl cs)), (lt, .inl (cI, 36, .inl ts))]) [0, 1, 2, 3] rfl
    have hD : va_D A [(h0, .inr (3, [.ref lg, .ref fs, .ref ps, .long fa, .long fb, .int mt, .int re])), (lg, .inr (0, [.ref lc, .ref lt, .int (nI k)])), (lc, .inl (cI, 36, .inl cs)), (lt, .inl (cI, 36, .inl ts))] := hD.sub (ws' := [(h0, .inr (3, [.ref lg, .ref fs, .ref ps, .long fa, .long fb, .int mt, .int re])), (lg, .inr (0, [.ref lc, .ref lt, .int (nI k)])), (lc, .inl (cI, 36, .inl cs)), (lt, .inl (cI, 36, .inl ts))]) [0, 1, 2, 3] (by decide) rfl
    exact vx_out (fun x h => (htab x h).elim) hlocks hce hcv hcl (fun tt htt hvt => ⟨(), trivial, ⟨hb9.1, by rw [htt]; exact hP, va_K.moved hvt hK, hD⟩, hS.F htt⟩) hS.2.2 (Nat.le_of_ble_eq_true rfl) (Nat.le_of_ble_eq_true rfl)
  · try dsimp only at hw2
    obtain ⟨hP1, hK1, hD1⟩ := hB9
    rw [hth] at hP1
    obtain ⟨hP, hD⟩ := va_join (wr := []) (w1 := [(h0, .inr (3, [.ref lg, .ref fs, .ref ps, .long fa, .long fb, .int mt, .int re])), (lg, .inr (0, [.ref lc, .ref lt, .int (nI k)])), (lc, .inl (cI, 36, .inl cs)), (lt, .inl (cI, 36, .inl ts))]) hP hD [0, 1, 2, 3] [] rfl rfl (by decide) (by decide) hk1 hFc hP1 hD1
    generalize H1 = H at hP hS ⊢
    have hP : va_P D vwCl [(h0, .inr (3, [.ref lg, .ref fs, .ref ps, .long fa, .long fb, .int mt, .int re])), (lg, .inr (0, [.ref lc, .ref lt, .int (nI k)])), (lc, .inl (cI, 36, .inl cs)), (lt, .inl (cI, 36, .inl ts))] H := hP.sub (ws' := [(h0, .inr (3, [.ref lg, .ref fs, .ref ps, .long fa, .long fb, .int mt, .int re])), (lg, .inr (0, [.ref lc, .ref lt, .int (nI k)])), (lc, .inl (cI, 36, .inl cs)), (lt, .inl (cI, 36, .inl ts))]) [0, 1, 2, 3] rfl
    have hD : va_D A [(h0, .inr (3, [.ref lg, .ref fs, .ref ps, .long fa, .long fb, .int mt, .int re])), (lg, .inr (0, [.ref lc, .ref lt, .int (nI k)])), (lc, .inl (cI, 36, .inl cs)), (lt, .inl (cI, 36, .inl ts))] := hD.sub (ws' := [(h0, .inr (3, [.ref lg, .ref fs, .ref ps, .long fa, .long fb, .int mt, .int re])), (lg, .inr (0, [.ref lc, .ref lt, .int (nI k)])), (lc, .inl (cI, 36, .inl cs)), (lt, .inl (cI, 36, .inl ts))]) [0, 1, 2, 3] (by decide) rfl
    obtain ⟨j9, hj9, rfl⟩ := i32_nat (by omega) hw2.1 hw2.2
    refine lv_iload_n hx hb dX6_textAt_5 rfl (lv_at hl 2 rfl) ?_
    refine lv_if_lt (tgt := 18) hx hb dX6_textAt_6 (by decide) (fun c6 => ?_) (fun c6 => ?_)
    · obtain ⟨sa, hstr⟩ := hEX.1 (156, "no such characte\x72") (by unfold xstrs; simp)
      have hmem9 : ∀ w ∈ (vx_atS RX6 158 nIOB ["java/lang/RuntimeException", "java/lang/Exception"]).filter goodWord, w ∈ wsX6_textAt := fun w h => by first | exact List.mem_cons_of_mem _ (List.mem_append_right _ h) | exact List.mem_cons_of_mem _ (List.mem_append_left _ (List.mem_append_right _ h)) | exact List.mem_cons_of_mem _ (List.mem_append_left _ (List.mem_append_left _ (List.mem_append_right _ h)))
      refine vx_throwS (own := RX6) (cls := nIOB) (text := "no such characte\x72") (names := ["java/lang/RuntimeException", "java/lang/Exception"]) (ik := 154) (is := 156) (ic := 158) hx hb hltr hown (by decide +kernel) (by decide +kernel) (hts _ (by decide +kernel)) (hts _ (by decide +kernel)) hstr (vx_hat (fun w h => hts w (hmem9 w h)) vx_nong_IOB (vx_c (va_Nw.use rfl hEX.2.1) (vx_c (va_Nw.use rfl hEX.2.2.2.2.1) (vx_c (va_Nw.use rfl hEX.2.2.2.2.2.1) (vx_c (va_Nw.use rfl hEX.2.2.2.2.2.2) vx_n))))) vx_ot_IOB hZ.1 hZ.2 hS (hl.1.trans hml.symm) dX6_textAt_18 dX6_textAt_21 dX6_textAt_22 dX6_textAt_24 dX6_textAt_27 (fun x h => (htab x h).elim) (by decide) (Nat.le_of_ble_eq_true rfl) (Nat.le_of_ble_eq_true rfl) (Nat.le_of_ble_eq_true rfl) hlocks (fun tt hvm hz hk => ⟨(), trivial, ⟨rfl, px_P hP hk, va_K.moved hvm hK, hD⟩, px_F hS hz hk⟩) hS.2.2 (Nat.le_of_ble_eq_true rfl) (Nat.le_of_ble_eq_true rfl)
    · refine lv_iload_n hx hb dX6_textAt_9 rfl (lv_at hl 2 rfl) ?_
      refine lv_aload_n hx hb dX6_textAt_10 rfl (lv_at hl 0 rfl) ?_
      refine lv_iload_n hx hb dX6_textAt_11 rfl (lv_at hl 1 rfl) ?_
      refine vp_callSi (W.runV (As := [.int (nI j9)]) (rest := [.int v2]) ⟨hx, hb, hml, hown, hts⟩ (c_X6_lengthOfText l D cI cJ h0 lg lc lt fs ps fa fb mt re cs ts k (by omega) j9 (by omega)) (cwV 1 hts gX6_textAt_X6_lengthOfText rfl rfl rfl (by decide +kernel) ⟨Nat.le_of_ble_eq_true rfl, Nat.le_of_ble_eq_true rfl⟩) ⟨px_blindW, va_recv hK hP (ci := 3) (q0 := 0) rfl rfl, fun U hU hW => ⟨rfl, by rw [hU]; exact hP.sub (ws' := [(h0, .inr (3, [.ref lg, .ref fs, .ref ps, .long fa, .long fb, .int mt, .int re])), (lg, .inr (0, [.ref lc, .ref lt, .int (nI k)])), (lc, .inl (cI, 36, .inl cs)), (lt, .inl (cI, 36, .inl ts))]) [0, 1, 2, 3] rfl, va_K.moved hW.alike hK⟩⟩ rfl rfl hl.1 rfl (lv_room (Nat.le_of_ble_eq_true rfl)) dX6_textAt_12 ⟨(Nat.le_of_ble_eq_true rfl), (Nat.le_of_ble_eq_true rfl)⟩) (fun r12 er12 => ?_)
      obtain rfl := er12.symm
      refine lv_icmp_lt (tgt := 28) hx hb dX6_textAt_15 (by decide) (fun c15 => ?_) (fun c15 => ?_)
      · exact absurd ⟨Int32.not_lt.mp c6, len_b c15⟩ h2
      · obtain ⟨sa, hstr⟩ := hEX.1 (156, "no such characte\x72") (by unfold xstrs; simp)
        have hmem9 : ∀ w ∈ (vx_atS RX6 158 nIOB ["java/lang/RuntimeException", "java/lang/Exception"]).filter goodWord, w ∈ wsX6_textAt := fun w h => by first | exact List.mem_cons_of_mem _ (List.mem_append_right _ h) | exact List.mem_cons_of_mem _ (List.mem_append_left _ (List.mem_append_right _ h)) | exact List.mem_cons_of_mem _ (List.mem_append_left _ (List.mem_append_left _ (List.mem_append_right _ h)))
        refine vx_throwS (own := RX6) (cls := nIOB) (text := "no such characte\x72") (names := ["java/lang/RuntimeException", "java/lang/Exception"]) (ik := 154) (is := 156) (ic := 158) hx hb hltr hown (by decide +kernel) (by decide +kernel) (hts _ (by decide +kernel)) (hts _ (by decide +kernel)) hstr (vx_hat (fun w h => hts w (hmem9 w h)) vx_nong_IOB (vx_c (va_Nw.use rfl hEX.2.1) (vx_c (va_Nw.use rfl hEX.2.2.2.2.1) (vx_c (va_Nw.use rfl hEX.2.2.2.2.2.1) (vx_c (va_Nw.use rfl hEX.2.2.2.2.2.2) vx_n))))) vx_ot_IOB hZ.1 hZ.2 hS (hl.1.trans hml.symm) dX6_textAt_18 dX6_textAt_21 dX6_textAt_22 dX6_textAt_24 dX6_textAt_27 (fun x h => (htab x h).elim) (by decide) (Nat.le_of_ble_eq_true rfl) (Nat.le_of_ble_eq_true rfl) (Nat.le_of_ble_eq_true rfl) hlocks (fun tt hvm hz hk => ⟨(), trivial, ⟨rfl, px_P hP hk, va_K.moved hvm hK, hD⟩, px_F hS hz hk⟩) hS.2.2 (Nat.le_of_ble_eq_true rfl) (Nat.le_of_ble_eq_true rfl)
