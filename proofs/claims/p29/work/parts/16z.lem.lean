theorem b2i_t {B : Bool} (h : ¬ b2i B = 0) : B = true := by cases B <;> simp_all [b2i]
theorem b2i_n {B : Bool} (h : b2i B = 0) : ¬ B = true := by cases B <;> simp_all [b2i]
theorem b2i_f {B : Bool} (h : b2i B = 0) : B = false := by cases B <;> simp_all [b2i]
theorem b2i_nf {B : Bool} (h : ¬ b2i B = 0) : ¬ B = false := by cases B <;> simp_all [b2i]
theorem b2i_d {p : Prop} [Decidable p] (h : ¬ b2i (decide p) = 0) : p := of_decide_eq_true (b2i_t h)
theorem b2i_nd {p : Prop} [Decidable p] (h : b2i (decide p) = 0) : ¬ p := fun q => b2i_n h (decide_eq_true q)
theorem b2i_c {p : Prop} [Decidable p] (h : p) : b2i (decide p) = 1 := by simp [b2i, h]
theorem b2i_cn {p : Prop} [Decidable p] (h : ¬ p) : b2i (decide p) = 0 := by simp [b2i, h]
theorem b2i_z {p : Prop} [Decidable p] (h : ¬ ¬ b2i (decide p) = 0) : b2i (decide p) = 0 := Decidable.not_not.mp h
theorem b2i_zn {p : Prop} [Decidable p] (h : ¬ ¬ b2i (decide p) = 0) : ¬ p := b2i_nd (Decidable.not_not.mp h)
theorem b2i_y {p : Prop} [Decidable p] (h : ¬ b2i (decide p) = 0) : p := b2i_d h
theorem b2i_01 (B : Bool) : b2i B = 0 ∨ b2i B = 1 := by cases B <;> simp [b2i]
theorem lt24 {n : Nat} (h : nI n < 24) : ¬ n = 24 := fun q => by subst q; exact absurd h (by decide)
theorem ge24 {n : Nat} (hn : n ≤ 24) (h : ¬ nI n < 24) : n = 24 := by
  rcases Nat.lt_or_ge n 24 with q | q
  · exact absurd (nI_lt (a := n) (b := 24) q (by decide)) h
  · omega
theorem o2i_is {x : Option Nat} (h : ¬ o2i x = -1) : x.isSome = true := by
  cases x with
  | none => exact absurd rfl h
  | some o => rfl
theorem o2i_ns {p : Nat → Bool} {k i : Nat} (hk : i + k < 2 ^ 31) (h : o2i (fstF p k i) = -1) : ¬ (fstF p k i).isSome = true := by
  rw [o2i_none hk h]; simp
theorem bef_1 {F : Nat → Nat → Int32} {d st : Int32} {s : Nat} (h : F 2 s < d) : befS F d st s = true := by simp [befS, h]
theorem bef_2 {F : Nat → Nat → Int32} {d st : Int32} {s : Nat} (h : F 2 s = d) (h2 : ¬ st ≤ F 3 s) : befS F d st s = true := by simp [befS, h, Int32.not_le.mp h2]
theorem bef_3 {F : Nat → Nat → Int32} {d st : Int32} {s : Nat} (h0 : ¬ F 2 s < d) (h : ¬ F 2 s = d) : ¬ befS F d st s = true := by simp [befS, h, h0]
theorem bef_4 {F : Nat → Nat → Int32} {d st : Int32} {s : Nat} (h0 : ¬ F 2 s < d) (h : st ≤ F 3 s) : ¬ befS F d st s = true := by simp [befS, h0, Int32.not_lt.mpr h]
def becomeV (V : VV) (k g d s l sp o : Int32) : VV := up (up (up (up (up (up (up V 5 0 k) 5 1 g) 5 2 d) 5 3 s) 5 4 l) 5 5 sp) 5 6 o
theorem up_up {V : VV} {o k : Nat} {x y : Int32} : up (up V o k x) o k y = up V o k y := by
  funext i j; simp only [up]; split <;> (try split) <;> rfl
theorem nI_in_of {x : Int32} {n : Nat} (h1 : ¬ x < 0) (h2 : x < nI n) (hn : n ≤ 24) : ∃ o, x = nI o ∧ o < n := by
  obtain ⟨j, hj, rfl⟩ := nI_of h1
  exact ⟨j, rfl, (nI_ltI hj (by omega)).mp h2⟩
theorem lt24q {n : Nat} (h : ¬ 24 ≤ nI n) : ¬ n = 24 := fun q => by subst q; exact h (by decide)
theorem ge24q {n : Nat} (hn : n ≤ 24) (h : 24 ≤ nI n) : n = 24 := by
  rcases Nat.lt_or_ge n 24 with q | q
  · exact absurd h (nI_ge (a := n) (b := 24) q (by decide))
  · omega
