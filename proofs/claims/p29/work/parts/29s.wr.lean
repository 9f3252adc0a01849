def shR (V : VV) (p n : Nat) : VV := fun a j => if a = 201 ∧ 40 + 8 * (p + 1) ≤ j ∧ j < 40 + 8 * (n + 1) then V 201 (j - 8) else V a j
def frR (V : VV) (p k : Nat) : VV := fun a j => if a = 201 ∧ 40 + 8 * p ≤ j ∧ j < 40 + 8 * p + k then V 204 (j - (40 + 8 * p)) else V a j
def adjR (V : VV) (p i : Nat) : VV := fun a j => if a = 201 ∧ 40 ≤ j ∧ (j - 40) % 8 = 7 ∧ (j - 40) / 8 < i ∧ nI p ≤ V 201 j then V 201 j + 1 else V a j
def dcR (V : VV) (p i : Nat) : VV := fun a j => if a = 201 ∧ 40 ≤ j ∧ (j - 40) % 8 = 7 ∧ (j - 40) / 8 < i ∧ nI p < V 201 j then V 201 j - 1 else V a j
theorem adjR_lo {V : VV} {p i j : Nat} (h : j < 40) : adjR V p i 201 j = V 201 j := by dsimp only [adjR]; rw [if_neg (by omega)]
theorem dcR_lo {V : VV} {p i j : Nat} (h : j < 40) : dcR V p i 201 j = V 201 j := by dsimp only [dcR]; rw [if_neg (by omega)]
/-- where the new show comes: behind those whose time isn't greater -/
def keyS (F : Nat → Nat → Int32) (s : Nat) : Int32 := 1440 * F 2 s + F 3 s
def plcR (key : Nat → Int32) (x : Int32) : Nat → Nat
  | 0 => 0
  | p + 1 => if x < key p then plcR key x p else p + 1
theorem plcR_le {key : Nat → Int32} {x : Int32} : ∀ n, plcR key x n ≤ n
  | 0 => Nat.le_refl 0
  | n + 1 => by
    have := plcR_le (key := key) (x := x) n
    simp only [plcR]; split <;> omega
def insR (V : VV) (n p : Nat) : VV := adjR (up (frR (shR V p n) p 8) 201 39 (nI (n + 1))) p (n + 1)
def slR (V : VV) (p i : Nat) : VV := fun a j => if a = 201 ∧ 40 + 8 * p ≤ j ∧ j < i then V 201 (j + 8) else V a j
theorem slR_lo {V : VV} {p i j : Nat} (h : j < 40) : slR V p i 201 j = V 201 j := by dsimp only [slR]; rw [if_neg (by omega)]
/-- the show p goes out of n + 1 -/
def delR (V : VV) (n p : Nat) : VV := dcR (slR (up V 201 39 (nI n)) p (40 + 8 * n)) p n
def shSv (V : VV) (i : Nat) : VV := fun a j => if a = 202 ∧ j + 232 < i then V 202 (j + 232) else V a j
def cpSv (V : VV) (m i : Nat) : VV := fun a j => if a = 202 ∧ 232 * m ≤ j ∧ j < 232 * m + i then V 201 (j - 232 * m) else V a j
theorem cpSv_no {V : VV} {m i a j : Nat} (h : ¬ a = 202) : cpSv V m i a j = V a j := by dsimp only [cpSv]; rw [if_neg (fun z => h z.1)]
theorem shSv_no {V : VV} {i a j : Nat} (h : ¬ a = 202) : shSv V i a j = V a j := by dsimp only [shSv]; rw [if_neg (fun z => h z.1)]
/-- the row of numbers saved, m being saved before -/
def svR (V : VV) (m : Nat) : VV := if m = 6 then up (cpSv (up (shSv V 1392) 200 2 (nI 5)) 5 232) 200 2 (nI 6) else up (cpSv V m 232) 200 2 (nI (m + 1))
