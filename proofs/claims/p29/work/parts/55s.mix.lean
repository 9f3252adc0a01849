def shN (V : VV) (n : Nat) : UInt64 := FP.ddiv (FP.dmul FP.dconst1 (FP.i2d (wkN V n 2 7))) (FP.i2d (7 * (V 201 1 - V 201 0)))
