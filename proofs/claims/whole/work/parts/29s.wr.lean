-- what the reference's writes make of the memory
theorem eq_of2 {V W : VV} (h : ∀ a j, V a j = W a j) : V = W := funext fun a => funext fun j => h a j
def shR (V : VV) (p n : Nat) : VV := fun a j => if a = 201 ∧ 40 + 8 * (p + 1) ≤ j ∧ j < 40 + 8 * (n + 1) then V 201 (j - 8) else V a j
def rowR (V : VV) (p k : Nat) : VV := fun a j => if a = 201 ∧ 40 + 8 * p ≤ j ∧ j < 40 + 8 * p + k then V 201 (j - 8) else V a j
def frR (V : VV) (p k : Nat) : VV := fun a j => if a = 201 ∧ 40 + 8 * p ≤ j ∧ j < 40 + 8 * p + k then V 204 (j - (40 + 8 * p)) else V a j
theorem shR_0 {V : VV} {n : Nat} : shR V n n = V := eq_of2 fun a j => by dsimp only [shR]; rw [if_neg (by omega)]
theorem rowR_0 {V : VV} {p : Nat} : rowR V p 0 = V := eq_of2 fun a j => by dsimp only [rowR]; rw [if_neg (by omega)]
theorem frR_0 {V : VV} {p : Nat} : frR V p 0 = V := eq_of2 fun a j => by dsimp only [frR]; rw [if_neg (by omega)]
theorem rowR_s {V : VV} {p k : Nat} (hk : k < 8) : up (rowR V (p + 1) k) 201 (40 + 8 * (p + 1) + k) (V 201 (40 + 8 * p + k)) = rowR V (p + 1) (k + 1) := eq_of2 fun a j => by
  dsimp only [rowR, up]
  by_cases ha : a = 201
  · subst ha
    by_cases hj : j = 40 + 8 * (p + 1) + k
    · subst hj
      rw [if_pos rfl, if_pos rfl, if_pos ⟨rfl, by omega, by omega⟩, show 40 + 8 * (p + 1) + k - 8 = 40 + 8 * p + k by omega]
    · rw [if_pos rfl, if_neg hj]
      by_cases q : 40 + 8 * (p + 1) ≤ j ∧ j < 40 + 8 * (p + 1) + k
      · rw [if_pos ⟨rfl, q⟩, if_pos ⟨rfl, q.1, by omega⟩]
      · rw [if_neg (fun z => q z.2), if_neg (fun z => q ⟨z.2.1, by omega⟩)]
  · rw [if_neg ha, if_neg (fun z => ha z.1), if_neg (fun z => ha z.1)]
theorem rowR_at {V : VV} {p k : Nat} (hk : k < 8) : rowR V (p + 1) k 201 (40 + 8 * p + k) = V 201 (40 + 8 * p + k) := by
  dsimp only [rowR]; rw [if_neg (by omega)]
theorem rowR_8 {V : VV} {p n : Nat} (h : p + 1 ≤ n) : rowR (shR V (p + 1) n) (p + 1) 8 = shR V p n := eq_of2 fun a j => by
  dsimp only [rowR, shR]
  by_cases ha : a = 201
  · subst ha
    by_cases q : 40 + 8 * (p + 1) ≤ j ∧ j < 40 + 8 * (p + 1) + 8
    · rw [if_pos ⟨rfl, q⟩, if_neg (by omega), if_pos ⟨rfl, q.1, by omega⟩]
    · rw [if_neg (fun z => q z.2)]
      by_cases q2 : 40 + 8 * (p + 1 + 1) ≤ j ∧ j < 40 + 8 * (n + 1)
      · rw [if_pos ⟨rfl, q2⟩, if_pos ⟨rfl, by omega, q2.2⟩]
      · rw [if_neg (fun z => q2 z.2), if_neg (fun z => by omega)]
  · rw [if_neg (fun z => ha z.1), if_neg (fun z => ha z.1), if_neg (fun z => ha z.1)]
theorem frR_s {V : VV} {p k : Nat} : up (frR V p k) 201 (40 + 8 * p + k) (V 204 k) = frR V p (k + 1) := eq_of2 fun a j => by
  dsimp only [frR, up]
  by_cases ha : a = 201
  · subst ha
    by_cases hj : j = 40 + 8 * p + k
    · subst hj
      rw [if_pos rfl, if_pos rfl, if_pos ⟨rfl, by omega, by omega⟩, show 40 + 8 * p + k - (40 + 8 * p) = k by omega]
    · rw [if_pos rfl, if_neg hj]
      by_cases q : 40 + 8 * p ≤ j ∧ j < 40 + 8 * p + k
      · rw [if_pos ⟨rfl, q⟩, if_pos ⟨rfl, q.1, by omega⟩]
      · rw [if_neg (fun z => q z.2), if_neg (fun z => q ⟨z.2.1, by omega⟩)]
  · rw [if_neg ha, if_neg (fun z => ha z.1), if_neg (fun z => ha z.1)]
def adjR (V : VV) (p i : Nat) : VV := fun a j => if a = 201 ∧ 40 ≤ j ∧ (j - 40) % 8 = 7 ∧ (j - 40) / 8 < i ∧ nI p ≤ V 201 j then V 201 j + 1 else V a j
def dcR (V : VV) (p i : Nat) : VV := fun a j => if a = 201 ∧ 40 ≤ j ∧ (j - 40) % 8 = 7 ∧ (j - 40) / 8 < i ∧ nI p < V 201 j then V 201 j - 1 else V a j
theorem adjR_0 {V : VV} {p : Nat} : adjR V p 0 = V := eq_of2 fun a j => by dsimp only [adjR]; rw [if_neg (by omega)]
theorem dcR_0 {V : VV} {p : Nat} : dcR V p 0 = V := eq_of2 fun a j => by dsimp only [dcR]; rw [if_neg (by omega)]
theorem adjR_at {V : VV} {p i : Nat} : adjR V p i 201 (40 + 8 * i + 7) = V 201 (40 + 8 * i + 7) := by dsimp only [adjR]; rw [if_neg (by omega)]
theorem dcR_at {V : VV} {p i : Nat} : dcR V p i 201 (40 + 8 * i + 7) = V 201 (40 + 8 * i + 7) := by dsimp only [dcR]; rw [if_neg (by omega)]
theorem adjR_lo {V : VV} {p i j : Nat} (h : j < 40) : adjR V p i 201 j = V 201 j := by dsimp only [adjR]; rw [if_neg (by omega)]
theorem dcR_lo {V : VV} {p i j : Nat} (h : j < 40) : dcR V p i 201 j = V 201 j := by dsimp only [dcR]; rw [if_neg (by omega)]
theorem adjR_t {V : VV} {p i : Nat} (h : nI p ≤ V 201 (40 + 8 * i + 7)) : up (adjR V p i) 201 (40 + 8 * i + 7) (V 201 (40 + 8 * i + 7) + 1) = adjR V p (i + 1) := eq_of2 fun a j => by
  dsimp only [adjR, up]
  by_cases ha : a = 201
  · subst ha
    by_cases hj : j = 40 + 8 * i + 7
    · subst hj
      rw [if_pos rfl, if_pos rfl, if_pos ⟨rfl, by omega, by omega, by omega, h⟩]
    · rw [if_pos rfl, if_neg hj]
      by_cases q : 40 ≤ j ∧ (j - 40) % 8 = 7 ∧ (j - 40) / 8 < i ∧ nI p ≤ V 201 j
      · rw [if_pos ⟨rfl, q⟩, if_pos ⟨rfl, q.1, q.2.1, by omega, q.2.2.2⟩]
      · rw [if_neg (fun z => q z.2), if_neg (fun z => q ⟨z.2.1, z.2.2.1, by omega, z.2.2.2.2⟩)]
  · rw [if_neg ha, if_neg (fun z => ha z.1), if_neg (fun z => ha z.1)]
theorem adjR_f {V : VV} {p i : Nat} (h : ¬ nI p ≤ V 201 (40 + 8 * i + 7)) : adjR V p i = adjR V p (i + 1) := eq_of2 fun a j => by
  dsimp only [adjR]
  by_cases q : a = 201 ∧ 40 ≤ j ∧ (j - 40) % 8 = 7 ∧ (j - 40) / 8 < i ∧ nI p ≤ V 201 j
  · rw [if_pos q, if_pos ⟨q.1, q.2.1, q.2.2.1, by omega, q.2.2.2.2⟩]
  · rw [if_neg q, if_neg (fun z => ?_)]
    by_cases hj : j = 40 + 8 * i + 7
    · subst hj; exact h z.2.2.2.2
    · exact q ⟨z.1, z.2.1, z.2.2.1, by omega, z.2.2.2.2⟩
theorem dcR_t {V : VV} {p i : Nat} (h : nI p < V 201 (40 + 8 * i + 7)) : up (dcR V p i) 201 (40 + 8 * i + 7) (V 201 (40 + 8 * i + 7) - 1) = dcR V p (i + 1) := eq_of2 fun a j => by
  dsimp only [dcR, up]
  by_cases ha : a = 201
  · subst ha
    by_cases hj : j = 40 + 8 * i + 7
    · subst hj
      rw [if_pos rfl, if_pos rfl, if_pos ⟨rfl, by omega, by omega, by omega, h⟩]
    · rw [if_pos rfl, if_neg hj]
      by_cases q : 40 ≤ j ∧ (j - 40) % 8 = 7 ∧ (j - 40) / 8 < i ∧ nI p < V 201 j
      · rw [if_pos ⟨rfl, q⟩, if_pos ⟨rfl, q.1, q.2.1, by omega, q.2.2.2⟩]
      · rw [if_neg (fun z => q z.2), if_neg (fun z => q ⟨z.2.1, z.2.2.1, by omega, z.2.2.2.2⟩)]
  · rw [if_neg ha, if_neg (fun z => ha z.1), if_neg (fun z => ha z.1)]
theorem dcR_f {V : VV} {p i : Nat} (h : ¬ nI p < V 201 (40 + 8 * i + 7)) : dcR V p i = dcR V p (i + 1) := eq_of2 fun a j => by
  dsimp only [dcR]
  by_cases q : a = 201 ∧ 40 ≤ j ∧ (j - 40) % 8 = 7 ∧ (j - 40) / 8 < i ∧ nI p < V 201 j
  · rw [if_pos q, if_pos ⟨q.1, q.2.1, q.2.2.1, by omega, q.2.2.2.2⟩]
  · rw [if_neg q, if_neg (fun z => ?_)]
    by_cases hj : j = 40 + 8 * i + 7
    · subst hj; exact h z.2.2.2.2
    · exact q ⟨z.1, z.2.1, z.2.2.1, by omega, z.2.2.2.2⟩
/-- where the new show comes: behind those whose time isn't greater -/
def keyS (F : Nat → Nat → Int32) (s : Nat) : Int32 := 1440 * F 2 s + F 3 s
def plcR (key : Nat → Int32) (x : Int32) : Nat → Nat
  | 0 => 0
  | p + 1 => if x < key p then plcR key x p else p + 1
theorem plcR_le {key : Nat → Int32} {x : Int32} : ∀ n, plcR key x n ≤ n
  | 0 => Nat.le_refl 0
  | n + 1 => by
    have := plcR_le (key := key) (x := x) n
    simp only [plcR]; split <;> omega
def insR (V : VV) (n p : Nat) : VV := adjR (up (frR (shR V p n) p 8) 201 39 (nI (n + 1))) p (n + 1)
def slR (V : VV) (p i : Nat) : VV := fun a j => if a = 201 ∧ 40 + 8 * p ≤ j ∧ j < i then V 201 (j + 8) else V a j
theorem slR_0 {V : VV} {p : Nat} : slR V p (40 + 8 * p) = V := eq_of2 fun a j => by dsimp only [slR]; rw [if_neg (by omega)]
theorem slR_s {V : VV} {p i : Nat} (h : 40 + 8 * p ≤ i) : up (slR V p i) 201 i (V 201 (i + 8)) = slR V p (i + 1) := eq_of2 fun a j => by
  dsimp only [slR, up]
  by_cases ha : a = 201
  · subst ha
    by_cases hj : j = i
    · subst hj; rw [if_pos rfl, if_pos rfl, if_pos ⟨rfl, h, by omega⟩]
    · rw [if_pos rfl, if_neg hj]
      by_cases q : 40 + 8 * p ≤ j ∧ j < i
      · rw [if_pos ⟨rfl, q⟩, if_pos ⟨rfl, q.1, by omega⟩]
      · rw [if_neg (fun z => q z.2), if_neg (fun z => q ⟨z.2.1, by omega⟩)]
  · rw [if_neg ha, if_neg (fun z => ha z.1), if_neg (fun z => ha z.1)]
theorem slR_at {V : VV} {p i : Nat} : slR V p i 201 (i + 8) = V 201 (i + 8) := by dsimp only [slR]; rw [if_neg (by omega)]
theorem slR_lo {V : VV} {p i j : Nat} (h : j < 40) : slR V p i 201 j = V 201 j := by dsimp only [slR]; rw [if_neg (by omega)]
/-- the show p goes out of n + 1 -/
def delR (V : VV) (n p : Nat) : VV := dcR (slR (up V 201 39 (nI n)) p (40 + 8 * n)) p n
def shSv (V : VV) (i : Nat) : VV := fun a j => if a = 202 ∧ j + 232 < i then V 202 (j + 232) else V a j
def cpSv (V : VV) (m i : Nat) : VV := fun a j => if a = 202 ∧ 232 * m ≤ j ∧ j < 232 * m + i then V 201 (j - 232 * m) else V a j
theorem shSv_0 {V : VV} : shSv V 232 = V := eq_of2 fun a j => by dsimp only [shSv]; rw [if_neg (by omega)]
theorem cpSv_0 {V : VV} {m : Nat} : cpSv V m 0 = V := eq_of2 fun a j => by dsimp only [cpSv]; rw [if_neg (by omega)]
theorem shSv_s {V : VV} {k : Nat} : up (shSv V (k + 232)) 202 k (V 202 (k + 232)) = shSv V (k + 1 + 232) := eq_of2 fun a j => by
  dsimp only [shSv, up]
  by_cases ha : a = 202
  · subst ha
    by_cases hj : j = k
    · subst hj
      have q : j + 232 < j + 1 + 232 := by omega
      simp only [if_true, q, and_self]
    · by_cases q : j + 232 < k + 232
      · have q2 : j + 232 < k + 1 + 232 := by omega
        simp only [if_true, hj, if_false, q, q2, and_self]
      · have q2 : ¬ j + 232 < k + 1 + 232 := by omega
        simp only [if_true, hj, if_false, q, q2, and_false]
  · simp only [ha, if_false, false_and]
theorem shSv_at {V : VV} {i : Nat} : shSv V i 202 i = V 202 i := by dsimp only [shSv]; rw [if_neg (by omega)]
theorem cpSv_s {V : VV} {m i : Nat} : up (cpSv V m i) 202 (232 * m + i) (V 201 i) = cpSv V m (i + 1) := eq_of2 fun a j => by
  dsimp only [cpSv, up]
  by_cases ha : a = 202
  · subst ha
    by_cases hj : j = 232 * m + i
    · subst hj; rw [if_pos rfl, if_pos rfl, if_pos ⟨rfl, by omega, by omega⟩, show 232 * m + i - 232 * m = i by omega]
    · rw [if_pos rfl, if_neg hj]
      by_cases q : 232 * m ≤ j ∧ j < 232 * m + i
      · rw [if_pos ⟨rfl, q⟩, if_pos ⟨rfl, q.1, by omega⟩]
      · rw [if_neg (fun z => q z.2), if_neg (fun z => q ⟨z.2.1, by omega⟩)]
  · rw [if_neg ha, if_neg (fun z => ha z.1), if_neg (fun z => ha z.1)]
theorem cpSv_no {V : VV} {m i a j : Nat} (h : ¬ a = 202) : cpSv V m i a j = V a j := by dsimp only [cpSv]; rw [if_neg (fun z => h z.1)]
theorem shSv_no {V : VV} {i a j : Nat} (h : ¬ a = 202) : shSv V i a j = V a j := by dsimp only [shSv]; rw [if_neg (fun z => h z.1)]
/-- the row of numbers saved, m being saved before -/
def svR (V : VV) (m : Nat) : VV := if m = 6 then up (cpSv (up (shSv V 1392) 200 2 (nI 5)) 5 232) 200 2 (nI 6) else up (cpSv V m 232) 200 2 (nI (m + 1))
def unR (V : VV) (m i : Nat) : VV := fun a j => if a = 201 ∧ j < i then V 202 (232 * m + j) else V a j
theorem unR_0 {V : VV} {m : Nat} : unR V m 0 = V := eq_of2 fun a j => by dsimp only [unR]; rw [if_neg (by omega)]
theorem unR_s {V : VV} {m i : Nat} : up (unR V m i) 201 i (V 202 (232 * m + i)) = unR V m (i + 1) := eq_of2 fun a j => by
  dsimp only [unR, up]
  by_cases ha : a = 201
  · subst ha
    by_cases hj : j = i
    · subst hj; rw [if_pos rfl, if_pos rfl, if_pos ⟨rfl, by omega⟩]
    · rw [if_pos rfl, if_neg hj]
      by_cases q : j < i
      · rw [if_pos ⟨rfl, q⟩, if_pos ⟨rfl, by omega⟩]
      · rw [if_neg (fun z => q z.2), if_neg (fun z => q (by omega))]
  · rw [if_neg ha, if_neg (fun z => ha z.1), if_neg (fun z => ha z.1)]
theorem unR_no {V : VV} {m i a j : Nat} (h : ¬ a = 201) : unR V m i a j = V a j := by dsimp only [unR]; rw [if_neg (fun z => h z.1)]
theorem shR_at {V : VV} {q n k : Nat} (hk : k < 8) : shR V (q + 1) n 201 (40 + 8 * q + k) = V 201 (40 + 8 * q + k) := by dsimp only [shR]; rw [if_neg (by omega)]
theorem shR_no {V : VV} {q n a j : Nat} (h : ¬ a = 201) : shR V q n a j = V a j := by dsimp only [shR]; rw [if_neg (fun z => h z.1)]
theorem frR_no {V : VV} {q k a j : Nat} (h : ¬ a = 201) : frR V q k a j = V a j := by dsimp only [frR]; rw [if_neg (fun z => h z.1)]
theorem frR_lo {V : VV} {q k j : Nat} (h : j < 40) : frR V q k 201 j = V 201 j := by dsimp only [frR]; rw [if_neg (by omega)]
theorem shR_lo {V : VV} {q n j : Nat} (h : j < 40) : shR V q n 201 j = V 201 j := by dsimp only [shR]; rw [if_neg (by omega)]
