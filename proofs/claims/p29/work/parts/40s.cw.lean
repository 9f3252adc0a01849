def rmR : Nat → VV → Nat → Nat → Nat → VV × Nat × Nat × Nat
  | 0, V, n, p, c => (V, n, p, c)
  | k + 1, V, n, p, c => if RF V 7 k = nI p then rmR k (delR V (n - 1) k) (n - 1) (if k < p then p - 1 else p) (c + 1) else rmR k V n p c
theorem delR_39 {V : VV} {n p : Nat} : delR V n p 201 39 = nI n := by
  unfold delR; rw [dcR_lo (by decide), slR_lo (by decide), up_ss]
def carF (d lim : Int32) : Int32 := if d < -lim then -lim else if lim < d then lim else d
def cgR (V : VV) (g : Nat) (w : Int32) : VV :=
  up (up (up (up V 201 (8 + 5 * g + 2) (V 201 (8 + 5 * g + 2) + V 201 (8 + 5 * g + 0))) 201 (8 + 5 * g + 3) (V 201 (8 + 5 * g + 3) + w)) 201 (8 + 5 * g + 4) (V 201 (8 + 5 * g + 4) + (alN V g - w - carF (alN V g - w) (V 201 7)))) 201 (8 + 5 * g + 1) (carF (alN V g - w) (V 201 7))
def cgN (V : VV) (n : Nat) : Nat → VV
  | 0 => V
  | g + 1 => cgR (cgN V n g) g (awS (cgN V n g) n (nI g))
theorem cgR_hi {V : VV} {g : Nat} {w : Int32} {j : Nat} (hg : g < 6) (h : 38 ≤ j ∨ j < 8) : cgR V g w 201 j = V 201 j := by
  unfold cgR
  rw [up_nk (by omega), up_nk (by omega), up_nk (by omega), up_nk (by omega)]
theorem cgN_hi {V : VV} {n j : Nat} (h : 38 ≤ j ∨ j < 8) : ∀ {g : Nat}, g ≤ 6 → cgN V n g 201 j = V 201 j
  | 0, _ => rfl
  | g + 1, hg => by rw [cgN, cgR_hi (by omega) h, cgN_hi h (by omega)]
theorem cgN_rf {V : VV} {n g : Nat} (hg : g ≤ 6) : RF (cgN V n g) = RF V := by
  funext k s; unfold RF; exact cgN_hi (Or.inl (by omega)) hg
def zrR (V : VV) (i : Nat) : VV := fun a j => if a = 201 ∧ 40 ≤ j ∧ (j - 40) % 8 = 6 ∧ (j - 40) / 8 < i then 0 else V a j
theorem zrR_lo {V : VV} {i j : Nat} (h : j < 40) : zrR V i 201 j = V 201 j := by dsimp only [zrR]; rw [if_neg (by omega)]
def cwR (V : VV) (n : Nat) : VV := up (zrR (cgN V n 6) n) 201 38 (V 201 38 + 1)
