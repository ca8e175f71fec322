section KM0
abbrev CT : Type := Nat × Nat × Nat × Nat × Nat × Int32 × Int32 × (Nat → Int32) × (Nat → Int32) × (Nat → Int32) × (Nat → Int32) × (Nat → Int32) × (Nat → Int32) × (Nat → Int32) × (Nat → Int32)
abbrev zCnt (C : CT) : Nat := C.1
abbrev zHo (C : CT) : Nat := C.2.1
abbrev zLw (C : CT) : Nat := C.2.2.1
abbrev zWm (C : CT) : Nat := C.2.2.2.1
abbrev zNm (C : CT) : Nat := C.2.2.2.2.1
abbrev zLo (C : CT) : Int32 := C.2.2.2.2.2.1
abbrev zLl (C : CT) : Int32 := C.2.2.2.2.2.2.1
abbrev zK (C : CT) : (Nat → Int32) := C.2.2.2.2.2.2.2.1
abbrev zW (C : CT) : (Nat → Int32) := C.2.2.2.2.2.2.2.2.1
abbrev zS (C : CT) : (Nat → Int32) := C.2.2.2.2.2.2.2.2.2.1
abbrev zX (C : CT) : (Nat → Int32) := C.2.2.2.2.2.2.2.2.2.2.1
abbrev zD (C : CT) : (Nat → Int32) := C.2.2.2.2.2.2.2.2.2.2.2.1
abbrev zI (C : CT) : (Nat → Int32) := C.2.2.2.2.2.2.2.2.2.2.2.2.1
abbrev zH (C : CT) : (Nat → Int32) := C.2.2.2.2.2.2.2.2.2.2.2.2.2.1
abbrev zF (C : CT) : (Nat → Int32) := C.2.2.2.2.2.2.2.2.2.2.2.2.2.2
abbrev szCnt (C : CT) (x : Nat) : CT := (x, C.2.1, C.2.2.1, C.2.2.2.1, C.2.2.2.2.1, C.2.2.2.2.2.1, C.2.2.2.2.2.2.1, C.2.2.2.2.2.2.2.1, C.2.2.2.2.2.2.2.2.1, C.2.2.2.2.2.2.2.2.2.1, C.2.2.2.2.2.2.2.2.2.2.1, C.2.2.2.2.2.2.2.2.2.2.2.1, C.2.2.2.2.2.2.2.2.2.2.2.2.1, C.2.2.2.2.2.2.2.2.2.2.2.2.2.1, C.2.2.2.2.2.2.2.2.2.2.2.2.2.2)
abbrev szHo (C : CT) (x : Nat) : CT := (C.1, x, C.2.2.1, C.2.2.2.1, C.2.2.2.2.1, C.2.2.2.2.2.1, C.2.2.2.2.2.2.1, C.2.2.2.2.2.2.2.1, C.2.2.2.2.2.2.2.2.1, C.2.2.2.2.2.2.2.2.2.1, C.2.2.2.2.2.2.2.2.2.2.1, C.2.2.2.2.2.2.2.2.2.2.2.1, C.2.2.2.2.2.2.2.2.2.2.2.2.1, C.2.2.2.2.2.2.2.2.2.2.2.2.2.1, C.2.2.2.2.2.2.2.2.2.2.2.2.2.2)
abbrev szLw (C : CT) (x : Nat) : CT := (C.1, C.2.1, x, C.2.2.2.1, C.2.2.2.2.1, C.2.2.2.2.2.1, C.2.2.2.2.2.2.1, C.2.2.2.2.2.2.2.1, C.2.2.2.2.2.2.2.2.1, C.2.2.2.2.2.2.2.2.2.1, C.2.2.2.2.2.2.2.2.2.2.1, C.2.2.2.2.2.2.2.2.2.2.2.1, C.2.2.2.2.2.2.2.2.2.2.2.2.1, C.2.2.2.2.2.2.2.2.2.2.2.2.2.1, C.2.2.2.2.2.2.2.2.2.2.2.2.2.2)
abbrev szWm (C : CT) (x : Nat) : CT := (C.1, C.2.1, C.2.2.1, x, C.2.2.2.2.1, C.2.2.2.2.2.1, C.2.2.2.2.2.2.1, C.2.2.2.2.2.2.2.1, C.2.2.2.2.2.2.2.2.1, C.2.2.2.2.2.2.2.2.2.1, C.2.2.2.2.2.2.2.2.2.2.1, C.2.2.2.2.2.2.2.2.2.2.2.1, C.2.2.2.2.2.2.2.2.2.2.2.2.1, C.2.2.2.2.2.2.2.2.2.2.2.2.2.1, C.2.2.2.2.2.2.2.2.2.2.2.2.2.2)
abbrev szNm (C : CT) (x : Nat) : CT := (C.1, C.2.1, C.2.2.1, C.2.2.2.1, x, C.2.2.2.2.2.1, C.2.2.2.2.2.2.1, C.2.2.2.2.2.2.2.1, C.2.2.2.2.2.2.2.2.1, C.2.2.2.2.2.2.2.2.2.1, C.2.2.2.2.2.2.2.2.2.2.1, C.2.2.2.2.2.2.2.2.2.2.2.1, C.2.2.2.2.2.2.2.2.2.2.2.2.1, C.2.2.2.2.2.2.2.2.2.2.2.2.2.1, C.2.2.2.2.2.2.2.2.2.2.2.2.2.2)
abbrev szLo (C : CT) (x : Int32) : CT := (C.1, C.2.1, C.2.2.1, C.2.2.2.1, C.2.2.2.2.1, x, C.2.2.2.2.2.2.1, C.2.2.2.2.2.2.2.1, C.2.2.2.2.2.2.2.2.1, C.2.2.2.2.2.2.2.2.2.1, C.2.2.2.2.2.2.2.2.2.2.1, C.2.2.2.2.2.2.2.2.2.2.2.1, C.2.2.2.2.2.2.2.2.2.2.2.2.1, C.2.2.2.2.2.2.2.2.2.2.2.2.2.1, C.2.2.2.2.2.2.2.2.2.2.2.2.2.2)
abbrev szLl (C : CT) (x : Int32) : CT := (C.1, C.2.1, C.2.2.1, C.2.2.2.1, C.2.2.2.2.1, C.2.2.2.2.2.1, x, C.2.2.2.2.2.2.2.1, C.2.2.2.2.2.2.2.2.1, C.2.2.2.2.2.2.2.2.2.1, C.2.2.2.2.2.2.2.2.2.2.1, C.2.2.2.2.2.2.2.2.2.2.2.1, C.2.2.2.2.2.2.2.2.2.2.2.2.1, C.2.2.2.2.2.2.2.2.2.2.2.2.2.1, C.2.2.2.2.2.2.2.2.2.2.2.2.2.2)
abbrev szK (C : CT) (x : (Nat → Int32)) : CT := (C.1, C.2.1, C.2.2.1, C.2.2.2.1, C.2.2.2.2.1, C.2.2.2.2.2.1, C.2.2.2.2.2.2.1, x, C.2.2.2.2.2.2.2.2.1, C.2.2.2.2.2.2.2.2.2.1, C.2.2.2.2.2.2.2.2.2.2.1, C.2.2.2.2.2.2.2.2.2.2.2.1, C.2.2.2.2.2.2.2.2.2.2.2.2.1, C.2.2.2.2.2.2.2.2.2.2.2.2.2.1, C.2.2.2.2.2.2.2.2.2.2.2.2.2.2)
abbrev szW (C : CT) (x : (Nat → Int32)) : CT := (C.1, C.2.1, C.2.2.1, C.2.2.2.1, C.2.2.2.2.1, C.2.2.2.2.2.1, C.2.2.2.2.2.2.1, C.2.2.2.2.2.2.2.1, x, C.2.2.2.2.2.2.2.2.2.1, C.2.2.2.2.2.2.2.2.2.2.1, C.2.2.2.2.2.2.2.2.2.2.2.1, C.2.2.2.2.2.2.2.2.2.2.2.2.1, C.2.2.2.2.2.2.2.2.2.2.2.2.2.1, C.2.2.2.2.2.2.2.2.2.2.2.2.2.2)
abbrev szS (C : CT) (x : (Nat → Int32)) : CT := (C.1, C.2.1, C.2.2.1, C.2.2.2.1, C.2.2.2.2.1, C.2.2.2.2.2.1, C.2.2.2.2.2.2.1, C.2.2.2.2.2.2.2.1, C.2.2.2.2.2.2.2.2.1, x, C.2.2.2.2.2.2.2.2.2.2.1, C.2.2.2.2.2.2.2.2.2.2.2.1, C.2.2.2.2.2.2.2.2.2.2.2.2.1, C.2.2.2.2.2.2.2.2.2.2.2.2.2.1, C.2.2.2.2.2.2.2.2.2.2.2.2.2.2)
abbrev szX (C : CT) (x : (Nat → Int32)) : CT := (C.1, C.2.1, C.2.2.1, C.2.2.2.1, C.2.2.2.2.1, C.2.2.2.2.2.1, C.2.2.2.2.2.2.1, C.2.2.2.2.2.2.2.1, C.2.2.2.2.2.2.2.2.1, C.2.2.2.2.2.2.2.2.2.1, x, C.2.2.2.2.2.2.2.2.2.2.2.1, C.2.2.2.2.2.2.2.2.2.2.2.2.1, C.2.2.2.2.2.2.2.2.2.2.2.2.2.1, C.2.2.2.2.2.2.2.2.2.2.2.2.2.2)
abbrev szD (C : CT) (x : (Nat → Int32)) : CT := (C.1, C.2.1, C.2.2.1, C.2.2.2.1, C.2.2.2.2.1, C.2.2.2.2.2.1, C.2.2.2.2.2.2.1, C.2.2.2.2.2.2.2.1, C.2.2.2.2.2.2.2.2.1, C.2.2.2.2.2.2.2.2.2.1, C.2.2.2.2.2.2.2.2.2.2.1, x, C.2.2.2.2.2.2.2.2.2.2.2.2.1, C.2.2.2.2.2.2.2.2.2.2.2.2.2.1, C.2.2.2.2.2.2.2.2.2.2.2.2.2.2)
abbrev szI (C : CT) (x : (Nat → Int32)) : CT := (C.1, C.2.1, C.2.2.1, C.2.2.2.1, C.2.2.2.2.1, C.2.2.2.2.2.1, C.2.2.2.2.2.2.1, C.2.2.2.2.2.2.2.1, C.2.2.2.2.2.2.2.2.1, C.2.2.2.2.2.2.2.2.2.1, C.2.2.2.2.2.2.2.2.2.2.1, C.2.2.2.2.2.2.2.2.2.2.2.1, x, C.2.2.2.2.2.2.2.2.2.2.2.2.2.1, C.2.2.2.2.2.2.2.2.2.2.2.2.2.2)
abbrev szH (C : CT) (x : (Nat → Int32)) : CT := (C.1, C.2.1, C.2.2.1, C.2.2.2.1, C.2.2.2.2.1, C.2.2.2.2.2.1, C.2.2.2.2.2.2.1, C.2.2.2.2.2.2.2.1, C.2.2.2.2.2.2.2.2.1, C.2.2.2.2.2.2.2.2.2.1, C.2.2.2.2.2.2.2.2.2.2.1, C.2.2.2.2.2.2.2.2.2.2.2.1, C.2.2.2.2.2.2.2.2.2.2.2.2.1, x, C.2.2.2.2.2.2.2.2.2.2.2.2.2.2)
abbrev szF (C : CT) (x : (Nat → Int32)) : CT := (C.1, C.2.1, C.2.2.1, C.2.2.2.1, C.2.2.2.2.1, C.2.2.2.2.2.1, C.2.2.2.2.2.2.1, C.2.2.2.2.2.2.2.1, C.2.2.2.2.2.2.2.2.1, C.2.2.2.2.2.2.2.2.2.1, C.2.2.2.2.2.2.2.2.2.2.1, C.2.2.2.2.2.2.2.2.2.2.2.1, C.2.2.2.2.2.2.2.2.2.2.2.2.1, C.2.2.2.2.2.2.2.2.2.2.2.2.2.1, x)
abbrev TS : Type := (Nat → Int32) × (Nat → Int32) × (Nat → Int32) × (Nat → Nat) × (Nat → Nat) × (Nat → Nat) × (Nat → Int32) × (Nat → Int32) × Nat × Nat × Nat × Nat × (Nat → Nat)
abbrev ttK (C : TS) : (Nat → Int32) := C.1
abbrev ttU (C : TS) : (Nat → Int32) := C.2.1
abbrev ttNu (C : TS) : (Nat → Int32) := C.2.2.1
abbrev ttDe (C : TS) : (Nat → Nat) := C.2.2.2.1
abbrev ttFr (C : TS) : (Nat → Nat) := C.2.2.2.2.1
abbrev ttMa (C : TS) : (Nat → Nat) := C.2.2.2.2.2.1
abbrev ttLa (C : TS) : (Nat → Int32) := C.2.2.2.2.2.2.1
abbrev ttTe (C : TS) : (Nat → Int32) := C.2.2.2.2.2.2.2.1
abbrev ttN (C : TS) : Nat := C.2.2.2.2.2.2.2.2.1
abbrev ttCh (C : TS) : Nat := C.2.2.2.2.2.2.2.2.2.1
abbrev ttHa (C : TS) : Nat := C.2.2.2.2.2.2.2.2.2.2.1
abbrev ttCo (C : TS) : Nat := C.2.2.2.2.2.2.2.2.2.2.2.1
abbrev ttHc (C : TS) : (Nat → Nat) := C.2.2.2.2.2.2.2.2.2.2.2.2
abbrev sxK (C : TS) (x : (Nat → Int32)) : TS := (x, C.2.1, C.2.2.1, C.2.2.2.1, C.2.2.2.2.1, C.2.2.2.2.2.1, C.2.2.2.2.2.2.1, C.2.2.2.2.2.2.2.1, C.2.2.2.2.2.2.2.2.1, C.2.2.2.2.2.2.2.2.2.1, C.2.2.2.2.2.2.2.2.2.2.1, C.2.2.2.2.2.2.2.2.2.2.2.1, C.2.2.2.2.2.2.2.2.2.2.2.2)
abbrev sxU (C : TS) (x : (Nat → Int32)) : TS := (C.1, x, C.2.2.1, C.2.2.2.1, C.2.2.2.2.1, C.2.2.2.2.2.1, C.2.2.2.2.2.2.1, C.2.2.2.2.2.2.2.1, C.2.2.2.2.2.2.2.2.1, C.2.2.2.2.2.2.2.2.2.1, C.2.2.2.2.2.2.2.2.2.2.1, C.2.2.2.2.2.2.2.2.2.2.2.1, C.2.2.2.2.2.2.2.2.2.2.2.2)
abbrev sxNu (C : TS) (x : (Nat → Int32)) : TS := (C.1, C.2.1, x, C.2.2.2.1, C.2.2.2.2.1, C.2.2.2.2.2.1, C.2.2.2.2.2.2.1, C.2.2.2.2.2.2.2.1, C.2.2.2.2.2.2.2.2.1, C.2.2.2.2.2.2.2.2.2.1, C.2.2.2.2.2.2.2.2.2.2.1, C.2.2.2.2.2.2.2.2.2.2.2.1, C.2.2.2.2.2.2.2.2.2.2.2.2)
abbrev sxDe (C : TS) (x : (Nat → Nat)) : TS := (C.1, C.2.1, C.2.2.1, x, C.2.2.2.2.1, C.2.2.2.2.2.1, C.2.2.2.2.2.2.1, C.2.2.2.2.2.2.2.1, C.2.2.2.2.2.2.2.2.1, C.2.2.2.2.2.2.2.2.2.1, C.2.2.2.2.2.2.2.2.2.2.1, C.2.2.2.2.2.2.2.2.2.2.2.1, C.2.2.2.2.2.2.2.2.2.2.2.2)
abbrev sxFr (C : TS) (x : (Nat → Nat)) : TS := (C.1, C.2.1, C.2.2.1, C.2.2.2.1, x, C.2.2.2.2.2.1, C.2.2.2.2.2.2.1, C.2.2.2.2.2.2.2.1, C.2.2.2.2.2.2.2.2.1, C.2.2.2.2.2.2.2.2.2.1, C.2.2.2.2.2.2.2.2.2.2.1, C.2.2.2.2.2.2.2.2.2.2.2.1, C.2.2.2.2.2.2.2.2.2.2.2.2)
abbrev sxMa (C : TS) (x : (Nat → Nat)) : TS := (C.1, C.2.1, C.2.2.1, C.2.2.2.1, C.2.2.2.2.1, x, C.2.2.2.2.2.2.1, C.2.2.2.2.2.2.2.1, C.2.2.2.2.2.2.2.2.1, C.2.2.2.2.2.2.2.2.2.1, C.2.2.2.2.2.2.2.2.2.2.1, C.2.2.2.2.2.2.2.2.2.2.2.1, C.2.2.2.2.2.2.2.2.2.2.2.2)
abbrev sxLa (C : TS) (x : (Nat → Int32)) : TS := (C.1, C.2.1, C.2.2.1, C.2.2.2.1, C.2.2.2.2.1, C.2.2.2.2.2.1, x, C.2.2.2.2.2.2.2.1, C.2.2.2.2.2.2.2.2.1, C.2.2.2.2.2.2.2.2.2.1, C.2.2.2.2.2.2.2.2.2.2.1, C.2.2.2.2.2.2.2.2.2.2.2.1, C.2.2.2.2.2.2.2.2.2.2.2.2)
abbrev sxTe (C : TS) (x : (Nat → Int32)) : TS := (C.1, C.2.1, C.2.2.1, C.2.2.2.1, C.2.2.2.2.1, C.2.2.2.2.2.1, C.2.2.2.2.2.2.1, x, C.2.2.2.2.2.2.2.2.1, C.2.2.2.2.2.2.2.2.2.1, C.2.2.2.2.2.2.2.2.2.2.1, C.2.2.2.2.2.2.2.2.2.2.2.1, C.2.2.2.2.2.2.2.2.2.2.2.2)
abbrev sxN (C : TS) (x : Nat) : TS := (C.1, C.2.1, C.2.2.1, C.2.2.2.1, C.2.2.2.2.1, C.2.2.2.2.2.1, C.2.2.2.2.2.2.1, C.2.2.2.2.2.2.2.1, x, C.2.2.2.2.2.2.2.2.2.1, C.2.2.2.2.2.2.2.2.2.2.1, C.2.2.2.2.2.2.2.2.2.2.2.1, C.2.2.2.2.2.2.2.2.2.2.2.2)
abbrev sxCh (C : TS) (x : Nat) : TS := (C.1, C.2.1, C.2.2.1, C.2.2.2.1, C.2.2.2.2.1, C.2.2.2.2.2.1, C.2.2.2.2.2.2.1, C.2.2.2.2.2.2.2.1, C.2.2.2.2.2.2.2.2.1, x, C.2.2.2.2.2.2.2.2.2.2.1, C.2.2.2.2.2.2.2.2.2.2.2.1, C.2.2.2.2.2.2.2.2.2.2.2.2)
abbrev sxHa (C : TS) (x : Nat) : TS := (C.1, C.2.1, C.2.2.1, C.2.2.2.1, C.2.2.2.2.1, C.2.2.2.2.2.1, C.2.2.2.2.2.2.1, C.2.2.2.2.2.2.2.1, C.2.2.2.2.2.2.2.2.1, C.2.2.2.2.2.2.2.2.2.1, x, C.2.2.2.2.2.2.2.2.2.2.2.1, C.2.2.2.2.2.2.2.2.2.2.2.2)
abbrev sxCo (C : TS) (x : Nat) : TS := (C.1, C.2.1, C.2.2.1, C.2.2.2.1, C.2.2.2.2.1, C.2.2.2.2.2.1, C.2.2.2.2.2.2.1, C.2.2.2.2.2.2.2.1, C.2.2.2.2.2.2.2.2.1, C.2.2.2.2.2.2.2.2.2.1, C.2.2.2.2.2.2.2.2.2.2.1, x, C.2.2.2.2.2.2.2.2.2.2.2.2)
abbrev sxHc (C : TS) (x : (Nat → Nat)) : TS := (C.1, C.2.1, C.2.2.1, C.2.2.2.1, C.2.2.2.2.1, C.2.2.2.2.2.1, C.2.2.2.2.2.2.1, C.2.2.2.2.2.2.2.1, C.2.2.2.2.2.2.2.2.1, C.2.2.2.2.2.2.2.2.2.1, C.2.2.2.2.2.2.2.2.2.2.1, C.2.2.2.2.2.2.2.2.2.2.2.1, x)
abbrev OS : Type := Int32 × Nat × Int32 × Int32 × Nat × Nat × Int32 × (Nat → Int32) × (Nat → Int32) × (Nat → Int32) × (Nat → Int32) × (Nat → Int32) × (Nat → Int32) × (Nat → Int32) × (Nat → Int32) × (Nat → Int32) × (Nat → Int32) × (Nat → Int32)
abbrev ooTh (C : OS) : Int32 := C.1
abbrev ooLi (C : OS) : Nat := C.2.1
abbrev ooPm (C : OS) : Int32 := C.2.2.1
abbrev ooRo (C : OS) : Int32 := C.2.2.2.1
abbrev ooLa (C : OS) : Nat := C.2.2.2.2.1
abbrev ooSm (C : OS) : Nat := C.2.2.2.2.2.1
abbrev ooCt (C : OS) : Int32 := C.2.2.2.2.2.2.1
abbrev ooLe (C : OS) : (Nat → Int32) := C.2.2.2.2.2.2.2.1
abbrev ooHe (C : OS) : (Nat → Int32) := C.2.2.2.2.2.2.2.2.1
abbrev ooPa (C : OS) : (Nat → Int32) := C.2.2.2.2.2.2.2.2.2.1
abbrev ooRw (C : OS) : (Nat → Int32) := C.2.2.2.2.2.2.2.2.2.2.1
abbrev ooBe (C : OS) : (Nat → Int32) := C.2.2.2.2.2.2.2.2.2.2.2.1
abbrev ooSe (C : OS) : (Nat → Int32) := C.2.2.2.2.2.2.2.2.2.2.2.2.1
abbrev ooPo (C : OS) : (Nat → Int32) := C.2.2.2.2.2.2.2.2.2.2.2.2.2.1
abbrev ooSt (C : OS) : (Nat → Int32) := C.2.2.2.2.2.2.2.2.2.2.2.2.2.2.1
abbrev ooWo (C : OS) : (Nat → Int32) := C.2.2.2.2.2.2.2.2.2.2.2.2.2.2.2.1
abbrev ooLn (C : OS) : (Nat → Int32) := C.2.2.2.2.2.2.2.2.2.2.2.2.2.2.2.2.1
abbrev ooSh (C : OS) : (Nat → Int32) := C.2.2.2.2.2.2.2.2.2.2.2.2.2.2.2.2.2
abbrev soTh (C : OS) (x : Int32) : OS := (x, C.2.1, C.2.2.1, C.2.2.2.1, C.2.2.2.2.1, C.2.2.2.2.2.1, C.2.2.2.2.2.2.1, C.2.2.2.2.2.2.2.1, C.2.2.2.2.2.2.2.2.1, C.2.2.2.2.2.2.2.2.2.1, C.2.2.2.2.2.2.2.2.2.2.1, C.2.2.2.2.2.2.2.2.2.2.2.1, C.2.2.2.2.2.2.2.2.2.2.2.2.1, C.2.2.2.2.2.2.2.2.2.2.2.2.2.1, C.2.2.2.2.2.2.2.2.2.2.2.2.2.2.1, C.2.2.2.2.2.2.2.2.2.2.2.2.2.2.2.1, C.2.2.2.2.2.2.2.2.2.2.2.2.2.2.2.2.1, C.2.2.2.2.2.2.2.2.2.2.2.2.2.2.2.2.2)
abbrev soLi (C : OS) (x : Nat) : OS := (C.1, x, C.2.2.1, C.2.2.2.1, C.2.2.2.2.1, C.2.2.2.2.2.1, C.2.2.2.2.2.2.1, C.2.2.2.2.2.2.2.1, C.2.2.2.2.2.2.2.2.1, C.2.2.2.2.2.2.2.2.2.1, C.2.2.2.2.2.2.2.2.2.2.1, C.2.2.2.2.2.2.2.2.2.2.2.1, C.2.2.2.2.2.2.2.2.2.2.2.2.1, C.2.2.2.2.2.2.2.2.2.2.2.2.2.1, C.2.2.2.2.2.2.2.2.2.2.2.2.2.2.1, C.2.2.2.2.2.2.2.2.2.2.2.2.2.2.2.1, C.2.2.2.2.2.2.2.2.2.2.2.2.2.2.2.2.1, C.2.2.2.2.2.2.2.2.2.2.2.2.2.2.2.2.2)
abbrev soPm (C : OS) (x : Int32) : OS := (C.1, C.2.1, x, C.2.2.2.1, C.2.2.2.2.1, C.2.2.2.2.2.1, C.2.2.2.2.2.2.1, C.2.2.2.2.2.2.2.1, C.2.2.2.2.2.2.2.2.1, C.2.2.2.2.2.2.2.2.2.1, C.2.2.2.2.2.2.2.2.2.2.1, C.2.2.2.2.2.2.2.2.2.2.2.1, C.2.2.2.2.2.2.2.2.2.2.2.2.1, C.2.2.2.2.2.2.2.2.2.2.2.2.2.1, C.2.2.2.2.2.2.2.2.2.2.2.2.2.2.1, C.2.2.2.2.2.2.2.2.2.2.2.2.2.2.2.1, C.2.2.2.2.2.2.2.2.2.2.2.2.2.2.2.2.1, C.2.2.2.2.2.2.2.2.2.2.2.2.2.2.2.2.2)
abbrev soRo (C : OS) (x : Int32) : OS := (C.1, C.2.1, C.2.2.1, x, C.2.2.2.2.1, C.2.2.2.2.2.1, C.2.2.2.2.2.2.1, C.2.2.2.2.2.2.2.1, C.2.2.2.2.2.2.2.2.1, C.2.2.2.2.2.2.2.2.2.1, C.2.2.2.2.2.2.2.2.2.2.1, C.2.2.2.2.2.2.2.2.2.2.2.1, C.2.2.2.2.2.2.2.2.2.2.2.2.1, C.2.2.2.2.2.2.2.2.2.2.2.2.2.1, C.2.2.2.2.2.2.2.2.2.2.2.2.2.2.1, C.2.2.2.2.2.2.2.2.2.2.2.2.2.2.2.1, C.2.2.2.2.2.2.2.2.2.2.2.2.2.2.2.2.1, C.2.2.2.2.2.2.2.2.2.2.2.2.2.2.2.2.2)
abbrev soLa (C : OS) (x : Nat) : OS := (C.1, C.2.1, C.2.2.1, C.2.2.2.1, x, C.2.2.2.2.2.1, C.2.2.2.2.2.2.1, C.2.2.2.2.2.2.2.1, C.2.2.2.2.2.2.2.2.1, C.2.2.2.2.2.2.2.2.2.1, C.2.2.2.2.2.2.2.2.2.2.1, C.2.2.2.2.2.2.2.2.2.2.2.1, C.2.2.2.2.2.2.2.2.2.2.2.2.1, C.2.2.2.2.2.2.2.2.2.2.2.2.2.1, C.2.2.2.2.2.2.2.2.2.2.2.2.2.2.1, C.2.2.2.2.2.2.2.2.2.2.2.2.2.2.2.1, C.2.2.2.2.2.2.2.2.2.2.2.2.2.2.2.2.1, C.2.2.2.2.2.2.2.2.2.2.2.2.2.2.2.2.2)
abbrev soSm (C : OS) (x : Nat) : OS := (C.1, C.2.1, C.2.2.1, C.2.2.2.1, C.2.2.2.2.1, x, C.2.2.2.2.2.2.1, C.2.2.2.2.2.2.2.1, C.2.2.2.2.2.2.2.2.1, C.2.2.2.2.2.2.2.2.2.1, C.2.2.2.2.2.2.2.2.2.2.1, C.2.2.2.2.2.2.2.2.2.2.2.1, C.2.2.2.2.2.2.2.2.2.2.2.2.1, C.2.2.2.2.2.2.2.2.2.2.2.2.2.1, C.2.2.2.2.2.2.2.2.2.2.2.2.2.2.1, C.2.2.2.2.2.2.2.2.2.2.2.2.2.2.2.1, C.2.2.2.2.2.2.2.2.2.2.2.2.2.2.2.2.1, C.2.2.2.2.2.2.2.2.2.2.2.2.2.2.2.2.2)
abbrev soCt (C : OS) (x : Int32) : OS := (C.1, C.2.1, C.2.2.1, C.2.2.2.1, C.2.2.2.2.1, C.2.2.2.2.2.1, x, C.2.2.2.2.2.2.2.1, C.2.2.2.2.2.2.2.2.1, C.2.2.2.2.2.2.2.2.2.1, C.2.2.2.2.2.2.2.2.2.2.1, C.2.2.2.2.2.2.2.2.2.2.2.1, C.2.2.2.2.2.2.2.2.2.2.2.2.1, C.2.2.2.2.2.2.2.2.2.2.2.2.2.1, C.2.2.2.2.2.2.2.2.2.2.2.2.2.2.1, C.2.2.2.2.2.2.2.2.2.2.2.2.2.2.2.1, C.2.2.2.2.2.2.2.2.2.2.2.2.2.2.2.2.1, C.2.2.2.2.2.2.2.2.2.2.2.2.2.2.2.2.2)
abbrev soLe (C : OS) (x : (Nat → Int32)) : OS := (C.1, C.2.1, C.2.2.1, C.2.2.2.1, C.2.2.2.2.1, C.2.2.2.2.2.1, C.2.2.2.2.2.2.1, x, C.2.2.2.2.2.2.2.2.1, C.2.2.2.2.2.2.2.2.2.1, C.2.2.2.2.2.2.2.2.2.2.1, C.2.2.2.2.2.2.2.2.2.2.2.1, C.2.2.2.2.2.2.2.2.2.2.2.2.1, C.2.2.2.2.2.2.2.2.2.2.2.2.2.1, C.2.2.2.2.2.2.2.2.2.2.2.2.2.2.1, C.2.2.2.2.2.2.2.2.2.2.2.2.2.2.2.1, C.2.2.2.2.2.2.2.2.2.2.2.2.2.2.2.2.1, C.2.2.2.2.2.2.2.2.2.2.2.2.2.2.2.2.2)
abbrev soHe (C : OS) (x : (Nat → Int32)) : OS := (C.1, C.2.1, C.2.2.1, C.2.2.2.1, C.2.2.2.2.1, C.2.2.2.2.2.1, C.2.2.2.2.2.2.1, C.2.2.2.2.2.2.2.1, x, C.2.2.2.2.2.2.2.2.2.1, C.2.2.2.2.2.2.2.2.2.2.1, C.2.2.2.2.2.2.2.2.2.2.2.1, C.2.2.2.2.2.2.2.2.2.2.2.2.1, C.2.2.2.2.2.2.2.2.2.2.2.2.2.1, C.2.2.2.2.2.2.2.2.2.2.2.2.2.2.1, C.2.2.2.2.2.2.2.2.2.2.2.2.2.2.2.1, C.2.2.2.2.2.2.2.2.2.2.2.2.2.2.2.2.1, C.2.2.2.2.2.2.2.2.2.2.2.2.2.2.2.2.2)
abbrev soPa (C : OS) (x : (Nat → Int32)) : OS := (C.1, C.2.1, C.2.2.1, C.2.2.2.1, C.2.2.2.2.1, C.2.2.2.2.2.1, C.2.2.2.2.2.2.1, C.2.2.2.2.2.2.2.1, C.2.2.2.2.2.2.2.2.1, x, C.2.2.2.2.2.2.2.2.2.2.1, C.2.2.2.2.2.2.2.2.2.2.2.1, C.2.2.2.2.2.2.2.2.2.2.2.2.1, C.2.2.2.2.2.2.2.2.2.2.2.2.2.1, C.2.2.2.2.2.2.2.2.2.2.2.2.2.2.1, C.2.2.2.2.2.2.2.2.2.2.2.2.2.2.2.1, C.2.2.2.2.2.2.2.2.2.2.2.2.2.2.2.2.1, C.2.2.2.2.2.2.2.2.2.2.2.2.2.2.2.2.2)
abbrev soRw (C : OS) (x : (Nat → Int32)) : OS := (C.1, C.2.1, C.2.2.1, C.2.2.2.1, C.2.2.2.2.1, C.2.2.2.2.2.1, C.2.2.2.2.2.2.1, C.2.2.2.2.2.2.2.1, C.2.2.2.2.2.2.2.2.1, C.2.2.2.2.2.2.2.2.2.1, x, C.2.2.2.2.2.2.2.2.2.2.2.1, C.2.2.2.2.2.2.2.2.2.2.2.2.1, C.2.2.2.2.2.2.2.2.2.2.2.2.2.1, C.2.2.2.2.2.2.2.2.2.2.2.2.2.2.1, C.2.2.2.2.2.2.2.2.2.2.2.2.2.2.2.1, C.2.2.2.2.2.2.2.2.2.2.2.2.2.2.2.2.1, C.2.2.2.2.2.2.2.2.2.2.2.2.2.2.2.2.2)
abbrev soBe (C : OS) (x : (Nat → Int32)) : OS := (C.1, C.2.1, C.2.2.1, C.2.2.2.1, C.2.2.2.2.1, C.2.2.2.2.2.1, C.2.2.2.2.2.2.1, C.2.2.2.2.2.2.2.1, C.2.2.2.2.2.2.2.2.1, C.2.2.2.2.2.2.2.2.2.1, C.2.2.2.2.2.2.2.2.2.2.1, x, C.2.2.2.2.2.2.2.2.2.2.2.2.1, C.2.2.2.2.2.2.2.2.2.2.2.2.2.1, C.2.2.2.2.2.2.2.2.2.2.2.2.2.2.1, C.2.2.2.2.2.2.2.2.2.2.2.2.2.2.2.1, C.2.2.2.2.2.2.2.2.2.2.2.2.2.2.2.2.1, C.2.2.2.2.2.2.2.2.2.2.2.2.2.2.2.2.2)
abbrev soSe (C : OS) (x : (Nat → Int32)) : OS := (C.1, C.2.1, C.2.2.1, C.2.2.2.1, C.2.2.2.2.1, C.2.2.2.2.2.1, C.2.2.2.2.2.2.1, C.2.2.2.2.2.2.2.1, C.2.2.2.2.2.2.2.2.1, C.2.2.2.2.2.2.2.2.2.1, C.2.2.2.2.2.2.2.2.2.2.1, C.2.2.2.2.2.2.2.2.2.2.2.1, x, C.2.2.2.2.2.2.2.2.2.2.2.2.2.1, C.2.2.2.2.2.2.2.2.2.2.2.2.2.2.1, C.2.2.2.2.2.2.2.2.2.2.2.2.2.2.2.1, C.2.2.2.2.2.2.2.2.2.2.2.2.2.2.2.2.1, C.2.2.2.2.2.2.2.2.2.2.2.2.2.2.2.2.2)
abbrev soPo (C : OS) (x : (Nat → Int32)) : OS := (C.1, C.2.1, C.2.2.1, C.2.2.2.1, C.2.2.2.2.1, C.2.2.2.2.2.1, C.2.2.2.2.2.2.1, C.2.2.2.2.2.2.2.1, C.2.2.2.2.2.2.2.2.1, C.2.2.2.2.2.2.2.2.2.1, C.2.2.2.2.2.2.2.2.2.2.1, C.2.2.2.2.2.2.2.2.2.2.2.1, C.2.2.2.2.2.2.2.2.2.2.2.2.1, x, C.2.2.2.2.2.2.2.2.2.2.2.2.2.2.1, C.2.2.2.2.2.2.2.2.2.2.2.2.2.2.2.1, C.2.2.2.2.2.2.2.2.2.2.2.2.2.2.2.2.1, C.2.2.2.2.2.2.2.2.2.2.2.2.2.2.2.2.2)
abbrev soSt (C : OS) (x : (Nat → Int32)) : OS := (C.1, C.2.1, C.2.2.1, C.2.2.2.1, C.2.2.2.2.1, C.2.2.2.2.2.1, C.2.2.2.2.2.2.1, C.2.2.2.2.2.2.2.1, C.2.2.2.2.2.2.2.2.1, C.2.2.2.2.2.2.2.2.2.1, C.2.2.2.2.2.2.2.2.2.2.1, C.2.2.2.2.2.2.2.2.2.2.2.1, C.2.2.2.2.2.2.2.2.2.2.2.2.1, C.2.2.2.2.2.2.2.2.2.2.2.2.2.1, x, C.2.2.2.2.2.2.2.2.2.2.2.2.2.2.2.1, C.2.2.2.2.2.2.2.2.2.2.2.2.2.2.2.2.1, C.2.2.2.2.2.2.2.2.2.2.2.2.2.2.2.2.2)
abbrev soWo (C : OS) (x : (Nat → Int32)) : OS := (C.1, C.2.1, C.2.2.1, C.2.2.2.1, C.2.2.2.2.1, C.2.2.2.2.2.1, C.2.2.2.2.2.2.1, C.2.2.2.2.2.2.2.1, C.2.2.2.2.2.2.2.2.1, C.2.2.2.2.2.2.2.2.2.1, C.2.2.2.2.2.2.2.2.2.2.1, C.2.2.2.2.2.2.2.2.2.2.2.1, C.2.2.2.2.2.2.2.2.2.2.2.2.1, C.2.2.2.2.2.2.2.2.2.2.2.2.2.1, C.2.2.2.2.2.2.2.2.2.2.2.2.2.2.1, x, C.2.2.2.2.2.2.2.2.2.2.2.2.2.2.2.2.1, C.2.2.2.2.2.2.2.2.2.2.2.2.2.2.2.2.2)
abbrev soLn (C : OS) (x : (Nat → Int32)) : OS := (C.1, C.2.1, C.2.2.1, C.2.2.2.1, C.2.2.2.2.1, C.2.2.2.2.2.1, C.2.2.2.2.2.2.1, C.2.2.2.2.2.2.2.1, C.2.2.2.2.2.2.2.2.1, C.2.2.2.2.2.2.2.2.2.1, C.2.2.2.2.2.2.2.2.2.2.1, C.2.2.2.2.2.2.2.2.2.2.2.1, C.2.2.2.2.2.2.2.2.2.2.2.2.1, C.2.2.2.2.2.2.2.2.2.2.2.2.2.1, C.2.2.2.2.2.2.2.2.2.2.2.2.2.2.1, C.2.2.2.2.2.2.2.2.2.2.2.2.2.2.2.1, x, C.2.2.2.2.2.2.2.2.2.2.2.2.2.2.2.2.2)
abbrev soSh (C : OS) (x : (Nat → Int32)) : OS := (C.1, C.2.1, C.2.2.1, C.2.2.2.1, C.2.2.2.2.1, C.2.2.2.2.2.1, C.2.2.2.2.2.2.1, C.2.2.2.2.2.2.2.1, C.2.2.2.2.2.2.2.2.1, C.2.2.2.2.2.2.2.2.2.1, C.2.2.2.2.2.2.2.2.2.2.1, C.2.2.2.2.2.2.2.2.2.2.2.1, C.2.2.2.2.2.2.2.2.2.2.2.2.1, C.2.2.2.2.2.2.2.2.2.2.2.2.2.1, C.2.2.2.2.2.2.2.2.2.2.2.2.2.2.1, C.2.2.2.2.2.2.2.2.2.2.2.2.2.2.2.1, C.2.2.2.2.2.2.2.2.2.2.2.2.2.2.2.2.1, x)
def mfs (ob : Nat → Nat) (C : CT) (T : TS) (O : OS) : List Value := [.int (ooTh O), .ref (ob 49), .ref (ob 50), .ref (ob 51), .ref (ob 52), .ref (ob 53), .ref (ob 54), .ref (ob 55), .ref (ob 56), .int (nI (ttN T)), .int (nI (ttCh T)), .int (nI (ttHa T)), .ref (ob 57), .ref (ob 58), .ref (ob 59), .ref (ob 60), .ref (ob 61), .ref (ob 62), .int (nI (ooLi O)), .int (ooPm O), .int (ooRo O), .int (nI (ttCo T)), .int (nI (ooLa O)), .int (nI (zCnt C)), .ref (ob 63), .ref (ob 64), .ref (ob 65), .ref (ob 66), .ref (ob 67), .ref (ob 68), .ref (ob 69), .ref (ob 70), .ref (ob 71), .ref (ob 72), .int (nI (zHo C)), .ref (ob 73), .ref (ob 74), .ref (ob 75), .int (nI (zWm C)), .int (nI (zNm C)), .int (nI (ooSm O)), .int (nI (zLw C)), .int (zLl C), .int (zLo C), .int (ooCt O)]
def mar (cI cB cZ : ClassId) (C : CT) (T : TS) (O : OS) : List va_E := [.inl (cI, 300, .inl (ttK T)), .inl (cI, 300, .inl (ttU T)), .inl (cI, 300, .inl (ttNu T)), .inl (cI, 300, .inl (fun i => nI ((ttDe T) i))), .inl (cI, 300, .inl (fun i => nI ((ttFr T) i))), .inl (cI, 300, .inl (fun i => nI ((ttMa T) i))), .inl (cI, 300, .inl (ttLa T)), .inl (cB, 4000, .inl (ttTe T)), .inl (cI, 1501, .inl (ooLe O)), .inl (cI, 1501, .inl (ooHe O)), .inl (cI, 1501, .inl (ooPa O)), .inl (cI, 1501, .inl (ooRw O)), .inl (cZ, 1501, .inl (ooBe O)), .inl (cB, 90060, .inl (ooSe O)), .inl (cI, 300, .inl (ooPo O)), .inl (cI, 300, .inl (ooSt O)), .inl (cI, 14, .inl (zK C)), .inl (cI, 14, .inl (zW C)), .inl (cI, 14, .inl (zS C)), .inl (cI, 14, .inl (zX C)), .inl (cZ, 14, .inl (zD C)), .inl (cZ, 14, .inl (zI C)), .inl (cZ, 14, .inl (zH C)), .inl (cZ, 14, .inl (zF C)), .inl (cI, 4010, .inl (ooWo O)), .inl (cI, 4010, .inl (ooLn O)), .inl (cI, 4300, .inl (ooSh O))]
/-- the reference and its arrays -/
def ModI (cI cB cZ : ClassId) (ob : Nat → Nat) (C : CT) (T : TS) (O : OS) (dom : Nat → Prop) (loc : Nat → Nat) (val : Nat → va_E) : Prop := (dom 48 ∧ loc 48 = ob 48 ∧ val 48 = .inr (5, mfs ob C T O)) ∧ ∀ j e, (mar cI cB cZ C T O)[j]? = some e → dom (49 + j) ∧ loc (49 + j) = ob (49 + j) ∧ val (49 + j) = e
/-- all but the reference is as it was -/
def frM (val va : Nat → va_E) : Prop := ∀ k, ¬ (48 ≤ k ∧ k ≤ 75) → va k = val k
theorem frM.rf {val : Nat → va_E} : frM val val := fun _ _ => rfl
theorem frM.trans {val v2 v3 : Nat → va_E} (h : frM val v2) (h2 : frM v2 v3) : frM val v3 := fun k a => (h2 k a).trans (h k a)
variable {cI cB cZ cJ cN : ClassId} {ob : Nat → Nat} {C C2 : CT} {T T2 : TS} {O O2 : OS} {dom : Nat → Prop} {loc : Nat → Nat} {val : Nat → va_E}
theorem mar_len : (mar cI cB cZ C T O).length = 27 := rfl
theorem ModI.put (h : ModI cI cB cZ ob C T O dom loc val) (harr : mar cI cB cZ C T O = mar cI cB cZ C2 T2 O2) : ModI cI cB cZ ob C2 T2 O2 dom loc (va_up val 48 (.inr (5, mfs ob C2 T2 O2))) ∧ frM val (va_up val 48 (.inr (5, mfs ob C2 T2 O2))) := by
  refine ⟨⟨⟨h.1.1, h.1.2.1, va_up_self _ _ _⟩, fun j e he => ?_⟩, fun k hk => va_up_ne _ _ (by omega)⟩
  obtain ⟨g1, g2, g3⟩ := h.2 j e (harr ▸ he)
  exact ⟨g1, g2, kup_ne (by omega) g3⟩
theorem ModI.put2 (h : ModI cI cB cZ ob C T O dom loc val) {j : Nat} {e : va_E} (hj : j < 27) (hfs : mfs ob C T O = mfs ob C2 T2 O2) (harr : (mar cI cB cZ C T O).set j e = mar cI cB cZ C2 T2 O2) : ModI cI cB cZ ob C2 T2 O2 dom loc (va_up val (49 + j) e) ∧ frM val (va_up val (49 + j) e) := by
  refine ⟨⟨⟨h.1.1, h.1.2.1, kup_ne (by omega) (hfs ▸ h.1.2.2)⟩, fun i e2 he => ?_⟩, fun k hk => va_up_ne _ _ (by omega)⟩
  rw [← harr] at he
  by_cases hij : j = i
  · subst hij
    have hl : j < (mar cI cB cZ C T O).length := hj
    rw [List.getElem?_set_self hl] at he
    cases he
    obtain ⟨g1, g2, g3⟩ := h.2 j _ (List.getElem?_eq_getElem hl)
    exact ⟨g1, g2, va_up_self _ _ _⟩
  · rw [List.getElem?_set_ne hij] at he
    obtain ⟨g1, g2, g3⟩ := h.2 i e2 he
    exact ⟨g1, g2, kup_ne (by omega) g3⟩
variable {X : KX} {cc : ByteArray} {nL : Nat} {own : String} {R : Room} {D : va_G} {A : Nat → Prop} {cells slots pc : Nat} {lv : List (Option Value)} {st : List Value}
theorem v_mget (hX : OX X cc nL own TT D CL (TY cI cB cZ cJ cN) A R) (hM : ModI cI cB cZ ob C T O dom loc val) (k : Nat) {v : Value} {index : Nat} (hk : k < 45) (hl : Cond.fieldLink own index "ProsePagesModel" (TX5 k).2.1 (TX5 k).2.2.1 ∈ TT) (href : (TX5 k).1 = "ProsePagesModel") (hv : (mfs ob C T O)[k]? = some v) (hd : decode cc pc = .ok (.getfield index, 3)) (kk : V X D CL A dom loc val cells slots (pc + 3) lv (v :: st)) : V X D CL A dom loc val cells slots pc lv (.ref (ob 48) :: st) :=
  v_get hX 48 inT5 hM.1.1 hM.1.2.1 hM.1.2.2 rfl k hk hl href hv hd kk
theorem v_mput (hX : OX X cc nL own TT D CL (TY cI cB cZ cJ cN) A R) (hM : ModI cI cB cZ ob C T O dom loc val) (k : Nat) (C2 : CT) (T2 : TS) (O2 : OS) {v : Value} {index : Nat} (hk : k < 45) (hl : Cond.fieldLink own index "ProsePagesModel" (TX5 k).2.1 (TX5 k).2.2.1 ∈ TT) (href : (TX5 k).1 = "ProsePagesModel") (hfin : (TX5 k).2.2.2 = false) (hn : narrow (tyX5 k) v = v) (hc : fits (tyX5 k) v = true) (hfs : (mfs ob C T O).set k v = mfs ob C2 T2 O2) (harr : mar cI cB cZ C T O = mar cI cB cZ C2 T2 O2) (hd : decode cc pc = .ok (.putfield index, 3)) (kk : ∀ va, ModI cI cB cZ ob C2 T2 O2 dom loc va → frM val va → V X D CL A dom loc va cells slots (pc + 3) lv st) : V X D CL A dom loc val cells slots pc lv (v :: .ref (ob 48) :: st) := by
  obtain ⟨g1, g2⟩ := hM.put harr
  exact v_putE hX 48 inT5 tyX5 tyX5_ok nmX5 hM.1.1 hM.1.2.1 hM.1.2.2 rfl k hk hl href hfin rfl hn hc (show k < 45 from hk) hd hfs (kk _ g1 g2)
theorem v_mild (hX : OX X cc nL own TT D CL (TY cI cB cZ cJ cN) A R) (hM : ModI cI cB cZ ob C T O dom loc val) (j : Nat) {n : Nat} {f : Nat → Int32} {i : Nat} {v : Int32} (hj : (mar cI cB cZ C T O)[j]? = some (.inl (cI, n, .inl f))) (hi : i < n) (hn : n < 2 ^ 31) (hv : f i = v) (hd : decode cc pc = .ok (.iaload, 1)) (kk : V X D CL A dom loc val cells slots (pc + 1) lv (.int v :: st)) : V X D CL A dom loc val cells slots pc lv (.int (nI i) :: .ref (ob (49 + j)) :: st) := by
  obtain ⟨g1, g2, g3⟩ := hM.2 j _ hj
  exact v_iald hX (49 + j) 0 g1 g2 g3 rfl (vp_in_nI hi hn) (by rw [nI_clamp (by omega)]; exact hv) hd kk
theorem v_bald (hX : OX X cc nL own TT D CL (TY cI cB cZ cJ cN) A R) (j t0 : Nat) {a : Nat} {cA : ClassId} {n : Nat} {f : Nat → Int32} {i : Int32} {v : Int32} (hj : dom j) (ha : loc j = a) (he : val j = .inl (cA, n, .inl f)) (ht : (TY cI cB cZ cJ cN)[t0]? = some (cA, .byte)) (hin : vp_in i n) (hv : f i.toNatClampNeg = v) (hd : decode cc pc = .ok (.baload, 1)) (kk : V X D CL A dom loc val cells slots (pc + 1) lv (.int v :: st)) : V X D CL A dom loc val cells slots pc lv (.int i :: .ref a :: st) := fun H locs ls hW hS hl => by
  subst ha
  subst hv
  exact va_bald hX.1 hX.2.1 hX.2.2.2.2.2.1 (hW.one hj he) 0 t0 rfl ht hin hd (kk H locs ls hW hS hl)
theorem v_zald (hX : OX X cc nL own TT D CL (TY cI cB cZ cJ cN) A R) (j t0 : Nat) {a : Nat} {cA : ClassId} {n : Nat} {f : Nat → Int32} {i : Int32} {v : Int32} (hj : dom j) (ha : loc j = a) (he : val j = .inl (cA, n, .inl f)) (ht : (TY cI cB cZ cJ cN)[t0]? = some (cA, .boolean)) (hin : vp_in i n) (hv : f i.toNatClampNeg = v) (hd : decode cc pc = .ok (.baload, 1)) (kk : V X D CL A dom loc val cells slots (pc + 1) lv (.int v :: st)) : V X D CL A dom loc val cells slots pc lv (.int i :: .ref a :: st) := fun H locs ls hW hS hl => by
  subst ha
  subst hv
  exact va_zald hX.1 hX.2.1 hX.2.2.2.2.2.1 (hW.one hj he) 0 t0 rfl ht hin hd (kk H locs ls hW hS hl)
theorem v_bast (hX : OX X cc nL own TT D CL (TY cI cB cZ cJ cN) A R) (j t0 : Nat) {a : Nat} {cA : ClassId} {n : Nat} {f : Nat → Int32} {i x : Int32} (hj : dom j) (ha : loc j = a) (he : val j = .inl (cA, n, .inl f)) (ht : (TY cI cB cZ cJ cN)[t0]? = some (cA, .byte)) (hin : vp_in i n) (hd : decode cc pc = .ok (.bastore, 1))
    (kk : V X D CL A dom loc (va_up val j (.inl (cA, n, .inl (upd f i.toNatClampNeg (vp_nar .byte x))))) cells slots (pc + 1) lv st) : V X D CL A dom loc val cells slots pc lv (.int x :: .int i :: .ref a :: st) := fun H locs ls hW hS hl => by
  subst ha
  obtain ⟨ks, h1, hP, hD⟩ := hW
  obtain ⟨q, i1, i2⟩ := kl_get (loc := loc) (val := val) ((h1 j).mp hj)
  refine va_bast hX.1 hX.2.1 hX.2.2.2.2.2.1 hP hD hS q t0 (by rw [i2, he]) ht hin hd (fun H1 locs1 hP1 hD1 hS1 => ?_)
  rw [kl_set hD i1] at hP1 hD1
  exact kk H1 locs1 ls ⟨ks, h1, hP1, hD1⟩ hS1 hl
theorem v_mbld (hX : OX X cc nL own TT D CL (TY cI cB cZ cJ cN) A R) (hM : ModI cI cB cZ ob C T O dom loc val) (j : Nat) {n : Nat} {f : Nat → Int32} {i : Nat} {v : Int32} (hj : (mar cI cB cZ C T O)[j]? = some (.inl (cB, n, .inl f))) (hi : i < n) (hn : n < 2 ^ 31) (hv : f i = v) (hd : decode cc pc = .ok (.baload, 1)) (kk : V X D CL A dom loc val cells slots (pc + 1) lv (.int v :: st)) : V X D CL A dom loc val cells slots pc lv (.int (nI i) :: .ref (ob (49 + j)) :: st) := by
  obtain ⟨g1, g2, g3⟩ := hM.2 j _ hj
  exact v_bald hX (49 + j) 1 g1 g2 g3 rfl (vp_in_nI hi hn) (by rw [nI_clamp (by omega)]; exact hv) hd kk
theorem v_mzld (hX : OX X cc nL own TT D CL (TY cI cB cZ cJ cN) A R) (hM : ModI cI cB cZ ob C T O dom loc val) (j : Nat) {n : Nat} {f : Nat → Int32} {i : Nat} {v : Int32} (hj : (mar cI cB cZ C T O)[j]? = some (.inl (cZ, n, .inl f))) (hi : i < n) (hn : n < 2 ^ 31) (hv : f i = v) (hd : decode cc pc = .ok (.baload, 1)) (kk : V X D CL A dom loc val cells slots (pc + 1) lv (.int v :: st)) : V X D CL A dom loc val cells slots pc lv (.int (nI i) :: .ref (ob (49 + j)) :: st) := by
  obtain ⟨g1, g2, g3⟩ := hM.2 j _ hj
  exact v_zald hX (49 + j) 2 g1 g2 g3 rfl (vp_in_nI hi hn) (by rw [nI_clamp (by omega)]; exact hv) hd kk
theorem v_mist (hX : OX X cc nL own TT D CL (TY cI cB cZ cJ cN) A R) (hM : ModI cI cB cZ ob C T O dom loc val) (j : Nat) (C2 : CT) (T2 : TS) (O2 : OS) {n : Nat} {f : Nat → Int32} {i : Nat} {x : Int32} (hlt : j < 27) (hj : (mar cI cB cZ C T O)[j]? = some (.inl (cI, n, .inl f))) (hi : i < n) (hn : n < 2 ^ 31) (hfs : mfs ob C T O = mfs ob C2 T2 O2) (harr : (mar cI cB cZ C T O).set j (.inl (cI, n, .inl (upd f i x))) = mar cI cB cZ C2 T2 O2) (hd : decode cc pc = .ok (.iastore, 1)) (kk : ∀ va, ModI cI cB cZ ob C2 T2 O2 dom loc va → frM val va → V X D CL A dom loc va cells slots (pc + 1) lv st) : V X D CL A dom loc val cells slots pc lv (.int x :: .int (nI i) :: .ref (ob (49 + j)) :: st) := by
  obtain ⟨g1, g2, g3⟩ := hM.2 j _ hj
  obtain ⟨q1, q2⟩ := hM.put2 hlt hfs harr
  exact v_iast hX (49 + j) 0 g1 g2 g3 rfl (vp_in_nI hi hn) hd (by rw [nI_clamp (by omega)]; exact kk _ q1 q2)
theorem v_mzst (hX : OX X cc nL own TT D CL (TY cI cB cZ cJ cN) A R) (hM : ModI cI cB cZ ob C T O dom loc val) (j : Nat) (C2 : CT) (T2 : TS) (O2 : OS) {n : Nat} {f : Nat → Int32} {i : Nat} {x : Int32} (hlt : j < 27) (hj : (mar cI cB cZ C T O)[j]? = some (.inl (cZ, n, .inl f))) (hi : i < n) (hn : n < 2 ^ 31) (hfs : mfs ob C T O = mfs ob C2 T2 O2) (harr : (mar cI cB cZ C T O).set j (.inl (cZ, n, .inl (upd f i (vp_nar .boolean x)))) = mar cI cB cZ C2 T2 O2) (hd : decode cc pc = .ok (.bastore, 1)) (kk : ∀ va, ModI cI cB cZ ob C2 T2 O2 dom loc va → frM val va → V X D CL A dom loc va cells slots (pc + 1) lv st) : V X D CL A dom loc val cells slots pc lv (.int x :: .int (nI i) :: .ref (ob (49 + j)) :: st) := by
  obtain ⟨g1, g2, g3⟩ := hM.2 j _ hj
  obtain ⟨q1, q2⟩ := hM.put2 hlt hfs harr
  exact v_zast hX (49 + j) 2 g1 g2 g3 rfl (vp_in_nI hi hn) hd (by rw [nI_clamp (by omega)]; exact kk _ q1 q2)
theorem v_mbst (hX : OX X cc nL own TT D CL (TY cI cB cZ cJ cN) A R) (hM : ModI cI cB cZ ob C T O dom loc val) (j : Nat) (C2 : CT) (T2 : TS) (O2 : OS) {n : Nat} {f : Nat → Int32} {i : Nat} {x : Int32} (hlt : j < 27) (hj : (mar cI cB cZ C T O)[j]? = some (.inl (cB, n, .inl f))) (hi : i < n) (hn : n < 2 ^ 31) (hfs : mfs ob C T O = mfs ob C2 T2 O2) (harr : (mar cI cB cZ C T O).set j (.inl (cB, n, .inl (upd f i (vp_nar .byte x)))) = mar cI cB cZ C2 T2 O2) (hd : decode cc pc = .ok (.bastore, 1)) (kk : ∀ va, ModI cI cB cZ ob C2 T2 O2 dom loc va → frM val va → V X D CL A dom loc va cells slots (pc + 1) lv st) : V X D CL A dom loc val cells slots pc lv (.int x :: .int (nI i) :: .ref (ob (49 + j)) :: st) := by
  obtain ⟨g1, g2, g3⟩ := hM.2 j _ hj
  obtain ⟨q1, q2⟩ := hM.put2 hlt hfs harr
  exact v_bast hX (49 + j) 1 g1 g2 g3 rfl (vp_in_nI hi hn) hd (by rw [nI_clamp (by omega)]; exact kk _ q1 q2)
/-- the room of the reference's methods: they make nothing -/
abbrev rmM (k : Nat) : Room := { frames := 8 * k, cells := 0, slots := 0, locals := 200 * k }
/-- a start is a line, or -2 - a line; a heading's number of lines is small; lines and nodes that were laid are few -/
def OI (O : OS) : Prop := (∀ i, 0 ≤ (ooSt O i).toInt ∨ (ooSt O i).toInt ≤ -2) ∧ (∀ i, (ooHe O i).toInt ≤ 3000) ∧ ooLi O ≤ 1500 ∧ ooLa O ≤ 300 ∧ ooSm O ≤ 4300
/-- how a method that lays out ends -/
abbrev PMo (cI cB cZ : ClassId) (ob : Nat → Nat) (T : TS) (O : OS) (dom : Nat → Prop) (loc : Nat → Nat) (val : Nat → va_E) (R : Option Value → CT → OS → Prop) : kT := fun rv d lo va kc ns => dom = d ∧ loc = lo ∧ kc = 0 ∧ ns = 0 ∧ ∃ C' O', R rv C' O' ∧ ModI cI cB cZ ob C' T O' dom loc va ∧ (OI O' ∧ ooCt O' = ooCt O) ∧ frM val va
end KM0
