/-- what the class answers of a group, and of a show -/
def gpV (V : VV) (n g w : Nat) : Int32 :=
  if w = 0 then V 22 g else if w = 1 then V 23 g else if w = 2 then V 22 g + V 23 g else if w = 3 then wolS (CF V) (V 21 5) n (nI g) else if w = 4 then wogS (CF V) (AF 6 V) (V 21 5) n (nI g) else if w = 5 then cntS (CF V) 1 n (nI g) else if w = 6 then V 24 g else if w = 7 then V 25 g else V 26 g
theorem gpV_8 {V : VV} {n g w : Nat} (h : 7 < w) : gpV V n g w = V 26 g := by
  unfold gpV; rw [if_neg (by omega), if_neg (by omega), if_neg (by omega), if_neg (by omega), if_neg (by omega), if_neg (by omega), if_neg (by omega), if_neg (by omega)]
def spV (V : VV) (s w : Nat) : Int32 := if w < 8 then V (29 + w) s else if w < 11 then V (w - 1) s else fateS (AF 6 V) s
theorem spV_1 {V : VV} {s w : Nat} (h : 10 < w) : spV V s w = fateS (AF 6 V) s := by unfold spV; rw [if_neg (by omega), if_neg (by omega)]
