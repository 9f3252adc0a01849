def mosS (V : VV) (n s : Nat) : Nat → Int32
  | 0 => -101
  | k + 1 => if dN (ovR V s (nI (k + 1) - 61)) n (RF V 2 s) 4 - b2i (decide (airR (RF (ovR V s (nI (k + 1) - 61))) ((ovR V s (nI (k + 1) - 61)) 201) 3 s = 2)) = 0 then nI (k + 1) - 61 else mosS V n s k
