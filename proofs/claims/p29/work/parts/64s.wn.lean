/-- the numbers of the week, as the class answers them -/
def wnV (V : VV) (n w : Nat) : Int32 :=
  if w = 0 then V 20 6 else if w = 1 then V 20 7 else if w = 2 then cntS (CF V) 0 n 0 else if w = 3 then cntS (CF V) 0 n 2 else if w = 4 then wkS (CF V) (AF 6 V) n 3 else if w = 5 then wkS (CF V) (AF 6 V) n 4 else if w = 6 then V 1 2 else wkS (CF V) (AF 6 V) n 2
theorem wnV_7 {V : VV} {n w : Nat} (h : 6 < w) : wnV V n w = wkS (CF V) (AF 6 V) n 2 := by
  unfold wnV; rw [if_neg (by omega), if_neg (by omega), if_neg (by omega), if_neg (by omega), if_neg (by omega), if_neg (by omega), if_neg (by omega)]
