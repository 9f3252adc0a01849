theorem stT_id {V : VV} {a : Nat} (h : V 3 2 = nI a) : V = stT V a (V 3 3) := eq_of2 fun i j => by
  unfold stT
  by_cases hi : i = 3
  · subst hi
    by_cases h3 : j = 3
    · subst h3; rw [up_ss]
    · rw [up_nk h3]
      by_cases h2 : j = 2
      · subst h2; rw [up_ss, h]
      · rw [up_nk h2]
  · rw [up_no hi, up_no hi]
