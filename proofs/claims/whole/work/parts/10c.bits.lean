def jbits (a : Int64) : Int32 :=
  let x3 : Int64 := jushr a 1
  let x7 : Int64 := x3 &&& 6148914691236517205
  let x8 : Int64 := a - x7
  let x14 : Int64 := x8 &&& 3689348814741910323
  let x17 : Int64 := jushr x8 2
  let x21 : Int64 := x17 &&& 3689348814741910323
  let x22 : Int64 := x14 + x21
  let x27 : Int64 := jushr x22 4
  let x28 : Int64 := x22 + x27
  let x32 : Int64 := x28 &&& 1085102592571150095
  let x38 : Int64 := jushr x32 8
  let x39 : Int64 := x32 + x38
  let x45 : Int64 := jushr x39 16
  let x46 : Int64 := x39 + x45
  let x52 : Int64 := jushr x46 32
  let x53 : Int64 := x46 + x52
  let x56 : Int32 := (x53).toInt32
  let x59 : Int32 := x56 &&& 127
  x59
theorem jbits_pop (a : Int64) : jbits a = nI (pop a) := by sorry
