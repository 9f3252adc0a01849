def mv1 (V : VV) (a f t : Nat) : VV := up V a t (V a f)
def mvV (V : VV) (f t : Nat) : VV := fun a j => if 29 ≤ a ∧ a ≤ 36 ∧ j = t then V a f else V a j
theorem mv_eq {V : VV} {f t : Nat} : mv1 (mv1 (mv1 (mv1 (mv1 (mv1 (mv1 (mv1 V 29 f t) 30 f t) 31 f t) 32 f t) 33 f t) 34 f t) 35 f t) 36 f t = mvV V f t := by
  funext a j
  by_cases h : 29 ≤ a ∧ a ≤ 36
  · rcases (show a = 29 ∨ a = 30 ∨ a = 31 ∨ a = 32 ∨ a = 33 ∨ a = 34 ∨ a = 35 ∨ a = 36 by omega) with rfl | rfl | rfl | rfl | rfl | rfl | rfl | rfl <;> simp [mv1, up, mvV]
  · have h2 : ¬ (29 ≤ a ∧ a ≤ 36 ∧ j = t) := fun q => h ⟨q.1, q.2.1⟩
    simp only [mvV, if_neg h2, mv1]
    rw [up_no (by omega), up_no (by omega), up_no (by omega), up_no (by omega), up_no (by omega), up_no (by omega), up_no (by omega), up_no (by omega)]
/-- the shows from i + 1 to n come from one place below -/
def shV (V : VV) (i n : Nat) : VV := fun a j => if 29 ≤ a ∧ a ≤ 36 ∧ i < j ∧ j ≤ n then V a (j - 1) else V a j
theorem shV_0 {V : VV} {n : Nat} : shV V n n = V := by
  funext a j; unfold shV; rw [if_neg (by omega)]
theorem shV_s {V : VV} {i n : Nat} (h : i + 1 ≤ n) : mvV (shV V (i + 1) n) i (i + 1) = shV V i n := by
  funext a j
  unfold mvV shV
  by_cases h1 : 29 ≤ a ∧ a ≤ 36
  · by_cases h2 : j = i + 1
    · subst h2
      rw [if_pos ⟨h1.1, h1.2, rfl⟩, if_neg (by omega), if_pos ⟨h1.1, h1.2, by omega, h⟩]; rfl
    · rw [if_neg (fun q => h2 q.2.2)]
      by_cases h3 : i < j ∧ j ≤ n
      · rw [if_pos ⟨h1.1, h1.2, by omega, h3.2⟩, if_pos ⟨h1.1, h1.2, h3⟩]
      · rw [if_neg (fun q => h3 ⟨by omega, q.2.2.2⟩), if_neg (fun q => h3 q.2.2)]
  · rw [if_neg (fun q => h1 ⟨q.1, q.2.1⟩), if_neg (fun q => h1 ⟨q.1, q.2.1⟩), if_neg (fun q => h1 ⟨q.1, q.2.1⟩)]
/-- originals from p on, of the shows below i, are told one higher -/
def adjV (V : VV) (p i : Nat) : VV := fun a j => if a = 36 ∧ j < i ∧ nI p ≤ V 36 j then V 36 j + 1 else V a j
def dcV (V : VV) (p i : Nat) : VV := fun a j => if a = 36 ∧ j < i ∧ nI p < V 36 j then V 36 j - 1 else V a j
theorem adjV_0 {V : VV} {p : Nat} : adjV V p 0 = V := by
  funext a j; unfold adjV; rw [if_neg (by omega)]
theorem dcV_0 {V : VV} {p : Nat} : dcV V p 0 = V := by
  funext a j; unfold dcV; rw [if_neg (by omega)]
theorem adjV_at {V : VV} {p i : Nat} : adjV V p i 36 i = V 36 i := by unfold adjV; rw [if_neg (by omega)]
theorem dcV_at {V : VV} {p i : Nat} : dcV V p i 36 i = V 36 i := by unfold dcV; rw [if_neg (by omega)]
theorem adjV_t {V : VV} {p i : Nat} (h : nI p ≤ V 36 i) : up (adjV V p i) 36 i (V 36 i + 1) = adjV V p (i + 1) := by
  funext a j
  dsimp only [adjV, up]
  by_cases ha : a = 36
  · subst ha
    by_cases hj : j = i
    · subst hj; rw [if_pos rfl, if_pos rfl, if_pos ⟨rfl, by omega, h⟩]
    · rw [if_pos rfl, if_neg hj]
      by_cases q : j < i ∧ nI p ≤ V 36 j
      · rw [if_pos ⟨rfl, q⟩, if_pos ⟨rfl, by omega, q.2⟩]
      · rw [if_neg (fun z => q z.2), if_neg (fun z => q ⟨by omega, z.2.2⟩)]
  · rw [if_neg ha, if_neg (fun z => ha z.1), if_neg (fun z => ha z.1)]
theorem adjV_f {V : VV} {p i : Nat} (h : ¬ nI p ≤ V 36 i) : adjV V p i = adjV V p (i + 1) := by
  funext a j
  unfold adjV
  by_cases q : a = 36 ∧ j < i ∧ nI p ≤ V 36 j
  · rw [if_pos q, if_pos ⟨q.1, by omega, q.2.2⟩]
  · rw [if_neg q, if_neg (fun z => ?_)]
    by_cases hj : j = i
    · subst hj; exact h z.2.2
    · exact q ⟨z.1, by omega, z.2.2⟩
theorem dcV_t {V : VV} {p i : Nat} (h : nI p < V 36 i) : up (dcV V p i) 36 i (V 36 i - 1) = dcV V p (i + 1) := by
  funext a j
  dsimp only [dcV, up]
  by_cases ha : a = 36
  · subst ha
    by_cases hj : j = i
    · subst hj; rw [if_pos rfl, if_pos rfl, if_pos ⟨rfl, by omega, h⟩]
    · rw [if_pos rfl, if_neg hj]
      by_cases q : j < i ∧ nI p < V 36 j
      · rw [if_pos ⟨rfl, q⟩, if_pos ⟨rfl, by omega, q.2⟩]
      · rw [if_neg (fun z => q z.2), if_neg (fun z => q ⟨by omega, z.2.2⟩)]
  · rw [if_neg ha, if_neg (fun z => ha z.1), if_neg (fun z => ha z.1)]
theorem dcV_f {V : VV} {p i : Nat} (h : ¬ nI p < V 36 i) : dcV V p i = dcV V p (i + 1) := by
  funext a j
  unfold dcV
  by_cases q : a = 36 ∧ j < i ∧ nI p < V 36 j
  · rw [if_pos q, if_pos ⟨q.1, by omega, q.2.2⟩]
  · rw [if_neg q, if_neg (fun z => ?_)]
    by_cases hj : j = i
    · subst hj; exact h z.2.2
    · exact q ⟨z.1, by omega, z.2.2⟩
theorem adjV_no {V : VV} {p i a : Nat} (h : a ≠ 36) : adjV V p i a = V a := by
  funext j; unfold adjV; rw [if_neg (fun z => h z.1)]
theorem dcV_no {V : VV} {p i a : Nat} (h : a ≠ 36) : dcV V p i a = V a := by
  funext j; unfold dcV; rw [if_neg (fun z => h z.1)]
theorem shV_no {V : VV} {i n a : Nat} (h : ¬ (29 ≤ a ∧ a ≤ 36)) : shV V i n a = V a := by
  funext j; unfold shV; rw [if_neg (fun z => h ⟨z.1, z.2.1⟩)]
def setP (M : VV) (p : Nat) : VV := up (up (up (up (up (up (up M 29 p (M 5 0)) 30 p (M 5 1)) 31 p (M 5 2)) 32 p (M 5 3)) 33 p (M 5 4)) 34 p (M 5 5)) 35 p 0
/-- the proposal comes in at the place p among n shows -/
def insV (V : VV) (n p : Nat) : VV := setP (adjV (up (up (shV V p n) 20 7 (nI (n + 1))) 36 p (V 5 6)) p (n + 1)) p
/-- the shows from p on, up to i, come from one place above -/
def slV (V : VV) (p i : Nat) : VV := fun a j => if 29 ≤ a ∧ a ≤ 36 ∧ p ≤ j ∧ j < i then V a (j + 1) else V a j
theorem slV_0 {V : VV} {p : Nat} : slV V p p = V := by
  funext a j; unfold slV; rw [if_neg (by omega)]
theorem slV_s {V : VV} {p i : Nat} (h : p ≤ i) : mvV (slV V p i) (i + 1) i = slV V p (i + 1) := by
  funext a j
  unfold mvV slV
  by_cases h1 : 29 ≤ a ∧ a ≤ 36
  · by_cases h2 : j = i
    · subst h2
      rw [if_pos ⟨h1.1, h1.2, rfl⟩, if_neg (by omega), if_pos ⟨h1.1, h1.2, h, by omega⟩]
    · rw [if_neg (fun q => h2 q.2.2)]
      by_cases h3 : p ≤ j ∧ j < i
      · rw [if_pos ⟨h1.1, h1.2, h3⟩, if_pos ⟨h1.1, h1.2, h3.1, by omega⟩]
      · rw [if_neg (fun q => h3 q.2.2), if_neg (fun q => h3 ⟨q.2.2.1, by omega⟩)]
  · rw [if_neg (fun q => h1 ⟨q.1, q.2.1⟩), if_neg (fun q => h1 ⟨q.1, q.2.1⟩), if_neg (fun q => h1 ⟨q.1, q.2.1⟩)]
theorem slV_no {V : VV} {p i a : Nat} (h : ¬ (29 ≤ a ∧ a ≤ 36)) : slV V p i a = V a := by
  funext j; unfold slV; rw [if_neg (fun z => h ⟨z.1, z.2.1⟩)]
/-- the show p goes out of n + 1 shows -/
def delV (V : VV) (n p : Nat) : VV := dcV (up (slV V p n) 20 7 (nI n)) p n
theorem delV_20 {V : VV} {n p : Nat} : delV V n p 20 7 = nI n := by
  unfold delV; rw [dcV_no (by decide)]; simp [up]
/-- of k shows above p, from the highest on, those go out whose original is p; with how many are left -/
def remL (p : Nat) : Nat → VV → Nat → VV × Nat
  | 0, V, n => (V, n)
  | k + 1, V, n => if V 36 (p + (k + 1)) = nI p then remL p k (delV V (n - 1) (p + (k + 1))) (n - 1) else remL p k V n
def cgV (V : VV) (g : Nat) (w : Int32) : VV :=
  up (up (up (up V 23 g (maxF (-(V 21 7)) (minF (V 21 7) (V 22 g + V 23 g - w)))) 26 g (V 26 g + (V 22 g + V 23 g - w - maxF (-(V 21 7)) (minF (V 21 7) (V 22 g + V 23 g - w))))) 25 g (V 25 g + w)) 24 g (V 24 g + V 22 g)
def zeroV (V : VV) (i : Nat) : VV := fun a j => if a = 35 ∧ j < i then 0 else V a j
theorem zeroV_0 {V : VV} : zeroV V 0 = V := by funext a j; unfold zeroV; rw [if_neg (by omega)]
theorem zeroV_s {V : VV} {i : Nat} : up (zeroV V i) 35 i 0 = zeroV V (i + 1) := by
  funext a j; dsimp only [zeroV, up]
  by_cases ha : a = 35
  · subst ha
    by_cases hj : j = i
    · subst hj; simp
    · by_cases q : j < i
      · simp [hj, q, show j < i + 1 by omega]
      · simp [hj, q, show ¬ j < i + 1 by omega]
  · simp [ha]
def bwV (V : VV) (n : Nat) : VV := up (zeroV V n) 20 6 (V 20 6 + 1)
/-- the plan at the id s copied over that at the id d -/
def cfV (V : VV) (s d : Nat) : VV :=
  cpy (cpy (cpy (cpy (cpy (cpy (cpy (cpy (up (up (cpy (cpy (cpy (cpy (cpy (cpy V (s + 1) (d + 1) 8) (s + 2) (d + 2) 6) (s + 3) (d + 3) 6) (s + 4) (d + 4) 6) (s + 5) (d + 5) 6) (s + 6) (d + 6) 6)
    d 6 (cpy (cpy (cpy (cpy (cpy (cpy V (s + 1) (d + 1) 8) (s + 2) (d + 2) 6) (s + 3) (d + 3) 6) (s + 4) (d + 4) 6) (s + 5) (d + 5) 6) (s + 6) (d + 6) 6 s 6))
    d 7 ((up (cpy (cpy (cpy (cpy (cpy (cpy V (s + 1) (d + 1) 8) (s + 2) (d + 2) 6) (s + 3) (d + 3) 6) (s + 4) (d + 4) 6) (s + 5) (d + 5) 6) (s + 6) (d + 6) 6) d 6 (cpy (cpy (cpy (cpy (cpy (cpy V (s + 1) (d + 1) 8) (s + 2) (d + 2) 6) (s + 3) (d + 3) 6) (s + 4) (d + 4) 6) (s + 5) (d + 5) 6) (s + 6) (d + 6) 6 s 6)) s 7))
    (s + 9) (d + 9) 24) (s + 10) (d + 10) 24) (s + 11) (d + 11) 24) (s + 12) (d + 12) 24) (s + 13) (d + 13) 24) (s + 14) (d + 14) 24) (s + 15) (d + 15) 24) (s + 16) (d + 16) 24
theorem nI_predn {n : Nat} (h : 1 ≤ n) : nI n - 1 = nI (n - 1) := by
  obtain ⟨m, rfl⟩ : ∃ m, n = m + 1 := ⟨n - 1, by omega⟩
  exact nI_pred m
