/-- the text's place and its last number -/
def stT (V : VV) (a : Nat) (x : Int32) : VV := up (up V 3 2 (nI a)) 3 3 x
theorem stT_2 {V : VV} {a : Nat} {x : Int32} : stT V a x 3 2 = nI a := by simp [stT, up]
theorem stT_3 {V : VV} {a : Nat} {x : Int32} : stT V a x 3 3 = x := by simp [stT, up]
theorem stT_1 {V : VV} {a : Nat} {x : Int32} : stT V a x 3 1 = V 3 1 := by simp [stT, up]
theorem stT_p {V : VV} {a b : Nat} {x : Int32} : up (stT V a x) 3 2 (nI b) = stT V b x := eq_of2 fun i j => by
  unfold stT up
  by_cases hi : i = 3 <;> by_cases hj : j = 3 <;> by_cases h2 : j = 2 <;> simp [hi, hj, h2]
theorem stT_n {V : VV} {a : Nat} {x y : Int32} : up (stT V a x) 3 3 y = stT V a y := by unfold stT; exact up_up
theorem stT_c {V : VV} {a : Nat} {k g d s l sp o x : Int32} : becomeV (stT V a x) k g d s l sp o = stT (becomeV V k g d s l sp o) a x := eq_of2 fun i j => by
  unfold becomeV stT
  by_cases hi : i = 3
  · subst hi; simp [up]
  · by_cases h5 : i = 5
    · subst h5; simp [up]
    · simp [up, hi, h5]
def sgB (V : VV) (l a : Nat) (s : Int32) : Bool := decide (a < l) && decide (V 4 a = s)
def dgB (V : VV) (l a : Nat) (hi : Int32) : Bool := decide (a < l) && withinB (V 4 a - 48) 0 hi
def nmL (V : VV) (l : Nat) : Nat → Int32 → Nat → Int32 × Nat
  | 0, v, a => (v, a)
  | k + 1, v, a => if 0 < v ∧ dgB V l a 9 = true then nmL V l k (10 * v + (V 4 a - 48)) (a + 1) else (v, a)
def nmP (V : VV) (l a : Nat) (x : Int32) : Bool × Nat × Int32 := if dgB V l a 9 = true then (true, (nmL V l 3 (V 4 a - 48) (a + 1)).2, (nmL V l 3 (V 4 a - 48) (a + 1)).1) else (false, a, x)
theorem sg_lt {V : VV} {l a : Nat} {s : Int32} (h : sgB V l a s = true) : a < l := by
  simp only [sgB, Bool.and_eq_true, decide_eq_true_eq] at h; exact h.1
theorem dg_lt {V : VV} {l a : Nat} {s : Int32} (h : dgB V l a s = true) : a < l := by
  simp only [dgB, Bool.and_eq_true, decide_eq_true_eq] at h; exact h.1
theorem nmL_le {V : VV} {l : Nat} : ∀ {k : Nat} {v : Int32} {a : Nat}, a ≤ l → (nmL V l k v a).2 ≤ l
  | 0, _, _, h => h
  | k + 1, v, a, h => by
    simp only [nmL]; split
    · rename_i q; exact nmL_le (dg_lt q.2)
    · exact h
theorem nmP_le {V : VV} {l a : Nat} {x : Int32} (h : a ≤ l) : (nmP V l a x).2.1 ≤ l := by
  unfold nmP; split
  · rename_i q; exact nmL_le (dg_lt q)
  · exact h
theorem nmP_t {V : VV} {l a : Nat} {x : Int32} (h : dgB V l a 9 = true) : nmP V l a x = (true, (nmL V l 3 (V 4 a - 48) (a + 1)).2, (nmL V l 3 (V 4 a - 48) (a + 1)).1) := if_pos h
theorem nmP_f {V : VV} {l a : Nat} {x : Int32} (h : dgB V l a 9 = false) : nmP V l a x = (false, a, x) := if_neg (by rw [h]; simp)
theorem sg_f1 {V : VV} {l a : Nat} {s : Int32} (h : ¬ a < l) : sgB V l a s = false := by simp [sgB, h]
theorem sg_f2 {V : VV} {l a : Nat} {s : Int32} (h : ¬ V 4 a = s) : sgB V l a s = false := by simp [sgB, h]
theorem sg_t {V : VV} {l a : Nat} {s : Int32} (h : a < l) (h2 : V 4 a = s) : sgB V l a s = true := by simp [sgB, h, h2]
theorem dg_f1 {V : VV} {l a : Nat} {s : Int32} (h : ¬ a < l) : dgB V l a s = false := by simp [dgB, h]
theorem dg_f2 {V : VV} {l a : Nat} {s : Int32} (h : withinB (V 4 a - 48) 0 s = false) : dgB V l a s = false := by simp [dgB, h]
theorem dg_t {V : VV} {l a : Nat} {s : Int32} (h : a < l) (h2 : withinB (V 4 a - 48) 0 s = true) : dgB V l a s = true := by simp [dgB, h, h2]
theorem tf_e {B : Bool} {α : Sort _} {p q : α} (h : B = false) : (if B = true then p else q) = q := if_neg (by rw [h]; simp)
def ownT (V : VV) (l : Nat) (k : Int32) (a : Nat) (x : Int32) : Bool × VV × Nat × Int32 :=
  if dgB V l a 5 = false then (false, V, a, x) else
  if sgB V l (a + 1) 46 = false then (false, V, (a + 1), (V 4 a - 48)) else
  if dgB V l (a + 2) 6 = false then (false, V, (a + 2), (V 4 a - 48)) else
  if sgB V l (a + 3) 64 = false then (false, V, (a + 3), (V 4 (a + 2) - 48)) else
  if (nmP V l (a + 4) (V 4 (a + 2) - 48)).1 = false then (false, V, (nmP V l (a + 4) (V 4 (a + 2) - 48)).2.1, (nmP V l (a + 4) (V 4 (a + 2) - 48)).2.2) else
  if sgB V l (nmP V l (a + 4) (V 4 (a + 2) - 48)).2.1 43 = false then (false, V, (nmP V l (a + 4) (V 4 (a + 2) - 48)).2.1, (nmP V l (a + 4) (V 4 (a + 2) - 48)).2.2) else
  if (nmP V l ((nmP V l (a + 4) (V 4 (a + 2) - 48)).2.1 + 1) (nmP V l (a + 4) (V 4 (a + 2) - 48)).2.2).1 = false then (false, V, (nmP V l ((nmP V l (a + 4) (V 4 (a + 2) - 48)).2.1 + 1) (nmP V l (a + 4) (V 4 (a + 2) - 48)).2.2).2.1, (nmP V l ((nmP V l (a + 4) (V 4 (a + 2) - 48)).2.1 + 1) (nmP V l (a + 4) (V 4 (a + 2) - 48)).2.2).2.2) else
  if sgB V l (nmP V l ((nmP V l (a + 4) (V 4 (a + 2) - 48)).2.1 + 1) (nmP V l (a + 4) (V 4 (a + 2) - 48)).2.2).2.1 58 = false then (true, (becomeV V k (V 4 a - 48) (V 4 (a + 2) - 48) (nmP V l (a + 4) (V 4 (a + 2) - 48)).2.2 (nmP V l ((nmP V l (a + 4) (V 4 (a + 2) - 48)).2.1 + 1) (nmP V l (a + 4) (V 4 (a + 2) - 48)).2.2).2.2 0 (-1)), (nmP V l ((nmP V l (a + 4) (V 4 (a + 2) - 48)).2.1 + 1) (nmP V l (a + 4) (V 4 (a + 2) - 48)).2.2).2.1, (nmP V l ((nmP V l (a + 4) (V 4 (a + 2) - 48)).2.1 + 1) (nmP V l (a + 4) (V 4 (a + 2) - 48)).2.2).2.2) else
  if (nmP V l ((nmP V l ((nmP V l (a + 4) (V 4 (a + 2) - 48)).2.1 + 1) (nmP V l (a + 4) (V 4 (a + 2) - 48)).2.2).2.1 + 1) (nmP V l ((nmP V l (a + 4) (V 4 (a + 2) - 48)).2.1 + 1) (nmP V l (a + 4) (V 4 (a + 2) - 48)).2.2).2.2).1 = false then (false, V, (nmP V l ((nmP V l ((nmP V l (a + 4) (V 4 (a + 2) - 48)).2.1 + 1) (nmP V l (a + 4) (V 4 (a + 2) - 48)).2.2).2.1 + 1) (nmP V l ((nmP V l (a + 4) (V 4 (a + 2) - 48)).2.1 + 1) (nmP V l (a + 4) (V 4 (a + 2) - 48)).2.2).2.2).2.1, (nmP V l ((nmP V l ((nmP V l (a + 4) (V 4 (a + 2) - 48)).2.1 + 1) (nmP V l (a + 4) (V 4 (a + 2) - 48)).2.2).2.1 + 1) (nmP V l ((nmP V l (a + 4) (V 4 (a + 2) - 48)).2.1 + 1) (nmP V l (a + 4) (V 4 (a + 2) - 48)).2.2).2.2).2.2) else (true, (becomeV V k (V 4 a - 48) (V 4 (a + 2) - 48) (nmP V l (a + 4) (V 4 (a + 2) - 48)).2.2 (nmP V l ((nmP V l (a + 4) (V 4 (a + 2) - 48)).2.1 + 1) (nmP V l (a + 4) (V 4 (a + 2) - 48)).2.2).2.2 (nmP V l ((nmP V l ((nmP V l (a + 4) (V 4 (a + 2) - 48)).2.1 + 1) (nmP V l (a + 4) (V 4 (a + 2) - 48)).2.2).2.1 + 1) (nmP V l ((nmP V l (a + 4) (V 4 (a + 2) - 48)).2.1 + 1) (nmP V l (a + 4) (V 4 (a + 2) - 48)).2.2).2.2).2.2 (-1)), (nmP V l ((nmP V l ((nmP V l (a + 4) (V 4 (a + 2) - 48)).2.1 + 1) (nmP V l (a + 4) (V 4 (a + 2) - 48)).2.2).2.1 + 1) (nmP V l ((nmP V l (a + 4) (V 4 (a + 2) - 48)).2.1 + 1) (nmP V l (a + 4) (V 4 (a + 2) - 48)).2.2).2.2).2.1, (nmP V l ((nmP V l ((nmP V l (a + 4) (V 4 (a + 2) - 48)).2.1 + 1) (nmP V l (a + 4) (V 4 (a + 2) - 48)).2.2).2.1 + 1) (nmP V l ((nmP V l (a + 4) (V 4 (a + 2) - 48)).2.1 + 1) (nmP V l (a + 4) (V 4 (a + 2) - 48)).2.2).2.2).2.2)
def repTx (V : VV) (l : Nat) (a : Nat) (x : Int32) : Bool × VV × Nat × Int32 :=
  if (nmP V l a x).1 = false then (false, V, (nmP V l a x).2.1, (nmP V l a x).2.2) else
  if sgB V l (nmP V l a x).2.1 46 = false then (false, V, (nmP V l a x).2.1, (nmP V l a x).2.2) else
  if dgB V l ((nmP V l a x).2.1 + 1) 6 = false then (false, V, ((nmP V l a x).2.1 + 1), (nmP V l a x).2.2) else
  if sgB V l ((nmP V l a x).2.1 + 2) 64 = false then (false, V, ((nmP V l a x).2.1 + 2), (V 4 ((nmP V l a x).2.1 + 1) - 48)) else
  if (nmP V l ((nmP V l a x).2.1 + 3) (V 4 ((nmP V l a x).2.1 + 1) - 48)).1 = false then (false, V, (nmP V l ((nmP V l a x).2.1 + 3) (V 4 ((nmP V l a x).2.1 + 1) - 48)).2.1, (nmP V l ((nmP V l a x).2.1 + 3) (V 4 ((nmP V l a x).2.1 + 1) - 48)).2.2) else (true, (becomeV V 2 0 (V 4 ((nmP V l a x).2.1 + 1) - 48) (nmP V l ((nmP V l a x).2.1 + 3) (V 4 ((nmP V l a x).2.1 + 1) - 48)).2.2 0 0 (nmP V l a x).2.2), (nmP V l ((nmP V l a x).2.1 + 3) (V 4 ((nmP V l a x).2.1 + 1) - 48)).2.1, (nmP V l ((nmP V l a x).2.1 + 3) (V 4 ((nmP V l a x).2.1 + 1) - 48)).2.2)
def shT (V : VV) (l a : Nat) (x : Int32) : Bool × VV × Nat × Int32 :=
  if sgB V l a 76 = true then ownT V l 0 (a + 1) x else if sgB V l a 84 = true then ownT V l 1 (a + 1) x else if sgB V l a 82 = true then repTx V l (a + 1) x else (false, V, a, x)
theorem ltn {a l : Nat} (h : nI l ≤ nI a) (ha : a < 2 ^ 31 := by omega) (hl : l < 2 ^ 31 := by omega) : ¬ a < l := fun q => absurd h (nI_ge q hl)
theorem ltp {a l : Nat} (hl : a < 2 ^ 31) (h : ¬ nI l ≤ nI a) : a < l := by
  rcases Nat.lt_or_ge a l with q | q
  · exact q
  · exact absurd (nI_le q hl) h
/-- nothing but the proposal -/
def Sm5 (V V1 : VV) : Prop := ∀ i j, i ≠ 5 → V1 i j = V i j
theorem sm5_b {V : VV} {k g d s l sp o : Int32} : Sm5 V (becomeV V k g d s l sp o) := by
  intro i j h
  unfold becomeV
  rw [up_no h, up_no h, up_no h, up_no h, up_no h, up_no h, up_no h]
theorem sm5_r {V : VV} : Sm5 V V := fun _ _ _ => rfl
theorem own_le {V : VV} {l a : Nat} {k x : Int32} (ha : a ≤ l) : (ownT V l k a x).2.2.1 ≤ l ∧ Sm5 V (ownT V l k a x).2.1 := by
  unfold ownT
  split
  · exact ⟨ha, sm5_r⟩
  rename_i h1; have h1 := dg_lt (by simpa using h1)
  split
  · exact ⟨by show a + 1 ≤ l; omega, sm5_r⟩
  rename_i h2; have h2 := sg_lt (by simpa using h2)
  split
  · exact ⟨by show a + 2 ≤ l; omega, sm5_r⟩
  rename_i h3; have h3 := dg_lt (by simpa using h3)
  split
  · exact ⟨by show a + 3 ≤ l; omega, sm5_r⟩
  rename_i h4; have h4 := sg_lt (by simpa using h4)
  have h5 := nmP_le (V := V) (x := V 4 (a + 2) - 48) (show a + 4 ≤ l by omega)
  split
  · exact ⟨h5, sm5_r⟩
  split
  · exact ⟨h5, sm5_r⟩
  rename_i h6; have h6 := sg_lt (by simpa using h6)
  have h7 := nmP_le (V := V) (x := (nmP V l (a + 4) (V 4 (a + 2) - 48)).2.2) (show (nmP V l (a + 4) (V 4 (a + 2) - 48)).2.1 + 1 ≤ l by omega)
  split
  · exact ⟨h7, sm5_r⟩
  split
  · exact ⟨h7, sm5_b⟩
  rename_i h8; have h8 := sg_lt (by simpa using h8)
  split
  · exact ⟨nmP_le (by omega), sm5_r⟩
  · exact ⟨nmP_le (by omega), sm5_b⟩
theorem rep_le {V : VV} {l a : Nat} {x : Int32} (ha : a ≤ l) : (repTx V l a x).2.2.1 ≤ l ∧ Sm5 V (repTx V l a x).2.1 := by
  unfold repTx
  have h1 := nmP_le (V := V) (x := x) ha
  split
  · exact ⟨h1, sm5_r⟩
  split
  · exact ⟨h1, sm5_r⟩
  rename_i h2; have h2 := sg_lt (by simpa using h2)
  split
  · exact ⟨by show (nmP V l a x).2.1 + 1 ≤ l; omega, sm5_r⟩
  rename_i h3; have h3 := dg_lt (by simpa using h3)
  split
  · exact ⟨by show (nmP V l a x).2.1 + 2 ≤ l; omega, sm5_r⟩
  rename_i h4; have h4 := sg_lt (by simpa using h4)
  split
  · exact ⟨nmP_le (by omega), sm5_r⟩
  · exact ⟨nmP_le (by omega), sm5_b⟩
theorem sh_le {V : VV} {l a : Nat} {x : Int32} (ha : a ≤ l) : (shT V l a x).2.2.1 ≤ l ∧ Sm5 V (shT V l a x).2.1 := by
  unfold shT
  split
  · rename_i h; exact own_le (sg_lt h)
  split
  · rename_i h; exact own_le (sg_lt h)
  split
  · rename_i h; exact rep_le (sg_lt h)
  · exact ⟨ha, sm5_r⟩
def allT (l : Nat) : Nat → VV → Nat → Int32 → Bool × VV × Nat × Int32
  | 0, V, a, x => (false, V, a, x)
  | k + 1, V, a, x => if (shT V l a x).1 = false then (false, (shT V l a x).2) else if sgB (shT V l a x).2.1 l (shT V l a x).2.2.1 59 = true then allT l k (shT V l a x).2.1 ((shT V l a x).2.2.1 + 1) (shT V l a x).2.2.2 else (decide ((shT V l a x).2.2.1 = l), (shT V l a x).2)
theorem stT_p0 {V : VV} {a : Nat} {x : Int32} : up (stT V a x) 3 2 0 = stT V 0 x := stT_p (b := 0)
