/-- a property of a day, out of the plan alone -/
def dN (V : VV) (n : Nat) (d : Int32) (w : Nat) : Int32 := dayR (RF V) (airR (RF V) (V 201)) (clkR (RF V) (V 201) d n) (V 201 6) n d w
theorem dN_sm {V V1 : VV} (h : V1 201 = V 201) {n : Nat} {d : Int32} {w : Nat} : dN V1 n d w = dN V n d w := by
  unfold dN; rw [RF_z h, h]
def spN (V : VV) (n : Nat) (d h : Int32) : Int32 := airedR (RF V) (airR (RF V) (V 201)) n d h
def wkN (V : VV) (n w : Nat) : Nat → Int32 := sumTo (fun d => dN V n (nI d) w)
def awS (V : VV) (n : Nat) (g : Int32) : Int32 := sumTo (fun s => if RF V 1 s = g then worthF (V 201 5) (RF V 0 s) (airR (RF V) (V 201) 1 s) else 0) n
