/-! throwing: what a method that throws needs of the tables, and of the two statics of Throwable -/
def nIOB : String := "java/lang/IndexOutOfBoundsException"
def nISE : String := "java/lang/IllegalStateException"
def nIAE : String := "java/lang/IllegalArgumentException"
def xstrs : List (Nat × String) := [(105, "nothing was done"), (156, "no such characte\x72"), (212, "no such cell"), (214, "no such side"), (216, "no such quarte\x72"), (220, "no such way"), (225, "a bit that is no cell"), (227, "a cell with two marbles"), (229, "no side can be to move"), (231, "no such move"), (233, "no marble is to be put"), (235, "the cell is not empty"), (237, "no ending to solve"), (84, "no quarter is to be turned")]
def xRT : MethodName := Bundle.initS "java/lang/RuntimeException"
def xEC : MethodName := Bundle.initS "java/lang/Exception"
def xTH : MethodName := Bundle.initS Bundle.tN
def EX (U : State) : Prop := (∀ q ∈ xstrs, ∃ a, vk_R RX6 q.1 q.2 a U) ∧ va_Nw (.castable nIOB nIOB) U ∧ va_Nw (.castable nISE nISE) U ∧ va_Nw (.castable nIAE nIAE) U ∧ va_Nw (.declares xRT) U ∧ va_Nw (.declares xEC) U ∧ va_Nw (.declares xTH) U
theorem EX.warm {s U : State} (hW : s.WarmedH U.vm) (h : EX s) : EX U := ⟨fun q hq => (h.1 q hq).elim fun a ha => ⟨a, vk_R.warm hW ha⟩, va_Nw.warmC hW h.2.1, va_Nw.warmC hW h.2.2.1, va_Nw.warmC hW h.2.2.2.1, va_Nw.warmD hW h.2.2.2.2.1, va_Nw.warmD hW h.2.2.2.2.2.1, va_Nw.warmD hW h.2.2.2.2.2.2⟩
theorem EX.same {u U : State} (e : u.vm = U.vm) (h : EX u) : EX U := ⟨fun q hq => (h.1 q hq).elim fun a ha => ⟨a, vk_R.same e.symm ha⟩, va_Nw.same rfl e h.2.1, va_Nw.same rfl e h.2.2.1, va_Nw.same rfl e h.2.2.2.1, va_Nw.same rfl e h.2.2.2.2.1, va_Nw.same rfl e h.2.2.2.2.2.1, va_Nw.same rfl e h.2.2.2.2.2.2⟩
def ZQ (A : Nat → Prop) (U : State) (H : Heap) : Prop := vx_Zq Bundle.tN "UNASSIGNED_STACK" Bundle.steD A U H ∧ vx_Zq Bundle.tN "SUPPRESSED_SENTINEL" Bundle.listD A U H
theorem ZQ.to {A B : Nat → Prop} {s U : State} {H : Heap} {locs : List Loc} (h : ZQ A s s.heap) (hS : va_S A s.heap H locs) (hvm : s.vm.Alike U.vm) (hAB : ∀ q, B q → A q) : ZQ B U H := ⟨(vx_Zq.moved hvm (h.1.kept hS.2.1)).narrow hAB, (vx_Zq.moved hvm (h.2.kept hS.2.1)).narrow hAB⟩
def px_X (A : Nat → Prop) (P : State → Prop) (U : State) : Prop := EX U ∧ ZQ A U U.heap ∧ P U
theorem px_blindX {A : Nat → Prop} {P : State → Prop} {av : List Value} (h : FrameBlind (va_Pc av P)) : FrameBlind (va_Pc av (px_X A P)) := fun a U g mk q => ⟨q.1, EX.same (u := U) (U := U.calling g mk a) rfl q.2.1, ⟨vx_Zq.moved (u := U) (U := U.calling g mk a) (Vm.Alike.refl U.vm) q.2.2.1.1, vx_Zq.moved (u := U) (U := U.calling g mk a) (Vm.Alike.refl U.vm) q.2.2.1.2⟩, (h a U g mk ⟨q.1, q.2.2.2⟩).2⟩
/-- the frame behind a throw: one new cell alone -/
theorem px_F {A : Nat → Prop} {s tt : State} {H : Heap} {locs : List Loc} (hS : va_S A s.heap H locs) (hz : H.size ≤ tt.heap.size) (hk : ∀ q : Nat, q < H.size → tt.heap[q]? = H[q]?) : va_F A s tt :=
  ⟨Nat.le_trans hS.1 hz, fun q h1 h2 => (hk q (Nat.lt_of_lt_of_le h1 hS.1)).trans (hS.2.1 q h1 h2)⟩
theorem px_P {D : va_G} {ws : va_W} {H H1 : Heap} (hP : va_P D vwCl ws H) (hk : ∀ q : Nat, q < H.size → H1[q]? = H[q]?) : va_P D vwCl ws H1 := hP.kept (fun k q h => hk q.1 (hP k q h).lt)
theorem vx_nong_IOB : ∀ w ∈ (vx_atS RX6 158 nIOB ["java/lang/RuntimeException", "java/lang/Exception"]).filter (fun w => !goodWord w), w ∈ [Cond.castable nIOB nIOB, Cond.declares xRT, Cond.declares xEC, Cond.declares xTH] := by decide +kernel
theorem vx_nong_ISE : ∀ w ∈ (vx_atS RX6 86 nISE ["java/lang/RuntimeException", "java/lang/Exception"]).filter (fun w => !goodWord w), w ∈ [Cond.castable nISE nISE, Cond.declares xRT, Cond.declares xEC, Cond.declares xTH] := by decide +kernel
theorem vx_nong_IAE : ∀ w ∈ (vx_atS RX6 222 nIAE ["java/lang/RuntimeException", "java/lang/Exception"]).filter (fun w => !goodWord w), w ∈ [Cond.castable nIAE nIAE, Cond.declares xRT, Cond.declares xEC, Cond.declares xTH] := by decide +kernel
theorem vx_ot_IOB : ∀ w ∈ Cond.classLink RX6 154 nIOB :: Cond.initialized nIOB :: vx_atS RX6 158 nIOB ["java/lang/RuntimeException", "java/lang/Exception"], vx_ot w = true := by decide +kernel
theorem vx_ot_ISE : ∀ w ∈ Cond.classLink RX6 82 nISE :: Cond.initialized nISE :: vx_atS RX6 86 nISE ["java/lang/RuntimeException", "java/lang/Exception"], vx_ot w = true := by decide +kernel
theorem vx_ot_IAE : ∀ w ∈ Cond.classLink RX6 218 nIAE :: Cond.initialized nIAE :: vx_atS RX6 222 nIAE ["java/lang/RuntimeException", "java/lang/Exception"], vx_ot w = true := by decide +kernel
theorem it_t {P A B : Prop} [Decidable P] (h : P) (a : A) : if P then A else B := by rw [if_pos h]; exact a
theorem it_f {P A B : Prop} [Decidable P] (h : ¬ P) (b : B) : if P then A else B := by rw [if_neg h]; exact b
theorem nI_ne_m1 {n : Nat} (h : n < 2 ^ 31) : ¬ nI n = (-1) := fun e => by
  have := nI_pos h
  rw [e] at this
  exact this (by decide)
