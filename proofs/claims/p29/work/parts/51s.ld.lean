theorem tape_nf {V : VV} {k g d s l sp o : Int32} {i : Nat} (h : i ≠ 204) : tapeV V k g d s l sp o i = V i := by
  unfold tapeV; rw [up_nf h, up_nf h, up_nf h, up_nf h, up_nf h, up_nf h, up_nf h, up_nf h]
def arO (V : VV) (e : Nat) : Nat := (V 209 (e + 1)).toNatClampNeg
def arOk (V : VV) (n e : Nat) : Bool := if V 209 e = 2 then withinB (V 209 (e + 1)) 0 (nI n - 1) && withinB (V 209 (e + 3)) 0 1439 else rightB (V 209 (e + 1)) (V 209 (e + 2)) (V 209 (e + 3)) (V 209 (e + 4)) (V 209 (e + 5))
def arT (V : VV) (e : Nat) : VV := if V 209 e = 2 then tapeV V 2 (RF V 1 (arO V e)) (V 209 (e + 2)) (V 209 (e + 3)) (RF V 4 (arO V e)) 0 (nI (arO V e)) else tapeV V (V 209 e) (V 209 (e + 1)) (V 209 (e + 2)) (V 209 (e + 3)) (V 209 (e + 4)) (V 209 (e + 5)) (-1)
def arG (V : VV) (e : Nat) : Nat := if V 209 e = 2 then (RF V 1 (arO V e)).toNatClampNeg else (V 209 (e + 1)).toNatClampNeg
def arR (V : VV) (n e : Nat) : Int32 := rfN (arT V e) n (arG V e) (arO V e)
def arC (V : VV) (n e : Nat) : Int32 := if arOk V n e = true then arR V n e else 20
def arV (V : VV) (n e : Nat) : VV := if arOk V n e = true then (if arR V n e = 0 then insR (arT V e) n (plN (arT V e) n) else arT V e) else V
theorem arOk_1 {V : VV} {n e : Nat} (h : V 209 e = 2) (h1 : withinB (V 209 (e + 1)) 0 (nI n - 1) = false) : arOk V n e = false := by unfold arOk; rw [if_pos h, h1]; rfl
theorem arOk_2 {V : VV} {n e : Nat} (h : V 209 e = 2) (h1 : withinB (V 209 (e + 3)) 0 1439 = false) : arOk V n e = false := by unfold arOk; rw [if_pos h, h1, Bool.and_false]
theorem arOk_3 {V : VV} {n e : Nat} (h : V 209 e = 2) (h1 : withinB (V 209 (e + 1)) 0 (nI n - 1) = true) (h2 : withinB (V 209 (e + 3)) 0 1439 = true) : arOk V n e = true := by unfold arOk; rw [if_pos h, h1, h2]; rfl
theorem arOk_4 {V : VV} {n e : Nat} {b : Bool} (h : ¬ V 209 e = 2) (h1 : rightB (V 209 (e + 1)) (V 209 (e + 2)) (V 209 (e + 3)) (V 209 (e + 4)) (V 209 (e + 5)) = b) : arOk V n e = b := by unfold arOk; rw [if_neg h, h1]
