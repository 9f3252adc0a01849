def shS (V : VV) (n : Nat) : UInt64 := FP.ddiv (FP.i2d (wkS (CF V) (AF 6 V) n 2)) (FP.i2d (7 * (V 21 1 - V 21 0)))
