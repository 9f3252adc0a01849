def rmR : Nat → VV → Nat → Nat → Nat → VV × Nat × Nat × Nat
  | 0, V, n, p, c => (V, n, p, c)
  | k + 1, V, n, p, c => if RF V 7 k = nI p then rmR k (delR V (n - 1) k) (n - 1) (if k < p then p - 1 else p) (c + 1) else rmR k V n p c
theorem delR_39 {V : VV} {n p : Nat} : delR V n p 201 39 = nI n := by
  unfold delR; rw [dcR_lo (by decide), slR_lo (by decide), up_ss]
def carF (d lim : Int32) : Int32 := if d < -lim then -lim else if lim < d then lim else d
def cgR (V : VV) (g : Nat) (w : Int32) : VV :=
  up (up (up (up V 201 (8 + 5 * g + 2) (V 201 (8 + 5 * g + 2) + V 201 (8 + 5 * g + 0))) 201 (8 + 5 * g + 3) (V 201 (8 + 5 * g + 3) + w)) 201 (8 + 5 * g + 4) (V 201 (8 + 5 * g + 4) + (alN V g - w - carF (alN V g - w) (V 201 7)))) 201 (8 + 5 * g + 1) (carF (alN V g - w) (V 201 7))
theorem cgR_sm {V V1 : VV} {g : Nat} {w : Int32} (h : SmL V V1) : SmL (cgR V g w) (cgR V1 g w) := by
  have ez := h.z
  intro i j a b
  by_cases hi : i = 201
  · subst hi
    unfold cgR alN
    rw [ez]
    simp only [up, if_true]
    rw [ez]
  · unfold cgR
    rw [up_no hi, up_no hi, up_no hi, up_no hi, up_no hi, up_no hi, up_no hi, up_no hi]
    exact h i j a b
def cgN (V : VV) (n : Nat) : Nat → VV
  | 0 => V
  | g + 1 => cgR (cgN V n g) g (awS (cgN V n g) n (nI g))
theorem cgR_hi {V : VV} {g : Nat} {w : Int32} {j : Nat} (hg : g < 6) (h : 38 ≤ j ∨ j < 8) : cgR V g w 201 j = V 201 j := by
  unfold cgR
  rw [up_nk (by omega), up_nk (by omega), up_nk (by omega), up_nk (by omega)]
theorem cgN_hi {V : VV} {n j : Nat} (h : 38 ≤ j ∨ j < 8) : ∀ {g : Nat}, g ≤ 6 → cgN V n g 201 j = V 201 j
  | 0, _ => rfl
  | g + 1, hg => by rw [cgN, cgR_hi (by omega) h, cgN_hi h (by omega)]
theorem cgN_rf {V : VV} {n g : Nat} (hg : g ≤ 6) : RF (cgN V n g) = RF V := by
  funext k s; unfold RF; exact cgN_hi (Or.inl (by omega)) hg
def zrR (V : VV) (i : Nat) : VV := fun a j => if a = 201 ∧ 40 ≤ j ∧ (j - 40) % 8 = 6 ∧ (j - 40) / 8 < i then 0 else V a j
theorem zrR_0 {V : VV} : zrR V 0 = V := eq_of2 fun a j => by dsimp only [zrR]; rw [if_neg (by omega)]
theorem zrR_s {V : VV} {i : Nat} : up (zrR V i) 201 (40 + 8 * i + 6) 0 = zrR V (i + 1) := eq_of2 fun a j => by
  dsimp only [zrR, up]
  by_cases ha : a = 201
  · subst ha
    by_cases hj : j = 40 + 8 * i + 6
    · subst hj; rw [if_pos rfl, if_pos rfl, if_pos ⟨rfl, by omega, by omega, by omega⟩]
    · rw [if_pos rfl, if_neg hj]
      by_cases q : 40 ≤ j ∧ (j - 40) % 8 = 6 ∧ (j - 40) / 8 < i
      · rw [if_pos ⟨rfl, q⟩, if_pos ⟨rfl, q.1, q.2.1, by omega⟩]
      · rw [if_neg (fun z => q z.2), if_neg (fun z => q ⟨z.2.1, z.2.2.1, by omega⟩)]
  · rw [if_neg ha, if_neg (fun z => ha z.1), if_neg (fun z => ha z.1)]
theorem zrR_lo {V : VV} {i j : Nat} (h : j < 40) : zrR V i 201 j = V 201 j := by dsimp only [zrR]; rw [if_neg (by omega)]
theorem zrR_sm {V V1 : VV} {i : Nat} (h : SmL V V1) : SmL (zrR V i) (zrR V1 i) := by
  intro a j x y
  dsimp only [zrR]
  rw [h a j x y]
theorem up_sm {V V1 : VV} {k : Nat} {x : Int32} (h : SmL V V1) : SmL (up V 201 k x) (up V1 201 k x) := by
  intro a j p q
  dsimp only [up]
  rw [h a j p q]
def cwR (V : VV) (n : Nat) : VV := up (zrR (cgN V n 6) n) 201 38 (V 201 38 + 1)
theorem dec1 (x : Int32) : x + Int32.ofInt (-1) = x - 1 := by rw [Int32.sub_eq_add_neg]; rfl
theorem gone_eq {k p : Nat} : nI p - (if k < p then 1 else 0) = nI (if k < p then p - 1 else p) := by
  split
  · exact nI_predn (by omega)
  · exact Int32.sub_zero _
theorem cgV_of {V V1 : VV} {g : Nat} {w : Int32} (h : SmL V V1) : SmL (cgR V g w) (up (up (up (up V1 201 (8 + 5 * g + 2) (V 201 (8 + 5 * g + 2) + V 201 (8 + 5 * g + 0))) 201 (8 + 5 * g + 3) (V 201 (8 + 5 * g + 3) + w)) 201 (8 + 5 * g + 4) (V 201 (8 + 5 * g + 4) + (alN V g - w - carF (alN V g - w) (V 201 7)))) 201 (8 + 5 * g + 1) (carF (alN V g - w) (V 201 7))) := up_sm (up_sm (up_sm (up_sm h)))
theorem cgN_step {V V1 V2 : VV} {n i : Nat} (h : SmL (cgN V n i) V1) (h2 : SmL (cgR V1 i (awS V1 n (nI i))) V2) : SmL (cgN V n (i + 1)) V2 := by
  rw [cgN]
  rw [awS_sm h.z] at h2
  exact (cgR_sm h).t h2
