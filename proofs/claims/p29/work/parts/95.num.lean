theorem t_lt {a b : Int32} : a < b ↔ a.toInt < b.toInt := Int32.lt_iff_toInt_lt
theorem t_le {a b : Int32} : a ≤ b ↔ a.toInt ≤ b.toInt := Int32.le_iff_toInt_le
theorem t_eq {a b : Int32} : a = b ↔ a.toInt = b.toInt := ⟨congrArg _, fun h => Int32.toInt_inj.mp h⟩
theorem t_bm {x : Int} (h1 : -2147483648 ≤ x) (h2 : x < 2147483648) : x.bmod (2 ^ 32) = x := by
  rw [Int.bmod_eq_of_le (by omega) (by omega)]
theorem t_add {a b : Int32} (h1 : -2147483648 ≤ a.toInt + b.toInt) (h2 : a.toInt + b.toInt < 2147483648) : (a + b).toInt = a.toInt + b.toInt := by rw [Int32.toInt_add, t_bm h1 h2]
theorem t_sub {a b : Int32} (h1 : -2147483648 ≤ a.toInt - b.toInt) (h2 : a.toInt - b.toInt < 2147483648) : (a - b).toInt = a.toInt - b.toInt := by rw [Int32.toInt_sub, t_bm h1 h2]
theorem t_mul {a b : Int32} (h1 : -2147483648 ≤ a.toInt * b.toInt) (h2 : a.toInt * b.toInt < 2147483648) : (a * b).toInt = a.toInt * b.toInt := by rw [Int32.toInt_mul, t_bm h1 h2]
theorem t_neg {a : Int32} (h1 : -2147483648 ≤ -a.toInt) (h2 : -a.toInt < 2147483648) : (-a).toInt = -a.toInt := by rw [Int32.toInt_neg, t_bm h1 h2]
theorem t_nI {x : Int32} (h : 0 ≤ x.toInt) : x = nI x.toInt.toNat := by
  have hb : x.toInt < 2147483648 := Int32.toInt_lt x
  rw [t_eq, nI_toInt (by omega)]
  omega
theorem t_nat {n : Nat} (h : n < 2147483648) : (nI n).toInt = n := nI_toInt h
theorem t_0 : (0 : Int32).toInt = 0 := rfl
theorem t_1 : (1 : Int32).toInt = 1 := rfl
theorem t_60 : (60 : Int32).toInt = 60 := rfl
theorem maxF_c {x y : Int32} : maxF x y = if y < x then x else y := by
  unfold maxF
  split <;> split <;> first
    | rfl
    | (rename_i h1 h2; rw [t_lt] at h1 h2; exact absurd h1 (by omega))
    | (rename_i h1 h2; rw [t_lt] at h1 h2; rw [t_eq]; omega)
theorem minF_c {x y : Int32} : minF x y = if x < y then x else y := by
  unfold minF
  split <;> split <;> first
    | rfl
    | (rename_i h1 h2; rw [t_lt] at h1 h2; exact absurd h1 (by omega))
    | (rename_i h1 h2; rw [t_lt] at h1 h2; rw [t_eq]; omega)
theorem maxF_t {x y : Int32} : (maxF x y).toInt = max x.toInt y.toInt := by
  unfold maxF
  split <;> rename_i h <;> rw [t_lt] at h <;> omega
theorem minF_t {x y : Int32} : (minF x y).toInt = min x.toInt y.toInt := by
  unfold minF
  split <;> rename_i h <;> rw [t_lt] at h <;> omega
/-- minutes within an hour, both ways -/
theorem inHour_eq {f m h : Int32} (h1 : 0 ≤ f.toInt) (h2 : f.toInt ≤ 5000) (h3 : 0 ≤ m.toInt) (h4 : m.toInt ≤ 5000) (h5 : 0 ≤ h.toInt) (h6 : h.toInt ≤ 50) : inHourF f m h = inHourR f m h := by
  have e1 : (60 * h).toInt = 60 * h.toInt := by rw [t_mul (by rw [t_60]; omega) (by rw [t_60]; omega), t_60]
  have e2 : (h + 1).toInt = h.toInt + 1 := by rw [t_add (by rw [t_1]; omega) (by rw [t_1]; omega), t_1]
  have e3 : (60 * (h + 1)).toInt = 60 * h.toInt + 60 := by rw [t_mul (by rw [t_60]; omega) (by rw [t_60]; omega), t_60]; omega
  have e4 : (60 * h + 60).toInt = 60 * h.toInt + 60 := by rw [t_add (by rw [t_60]; omega) (by rw [t_60]; omega), t_60]; omega
  have e5 : (f + m).toInt = f.toInt + m.toInt := t_add (by omega) (by omega)
  have e6 : 60 * (h + 1) = 60 * h + 60 := t_eq.mpr (by omega)
  unfold inHourF inHourR
  rw [e6]
  rw [show (if 60 * h < f then f else 60 * h) = maxF f (60 * h) from maxF_c.symm, show (if f + m < 60 * h + 60 then f + m else 60 * h + 60) = minF (f + m) (60 * h + 60) from minF_c.symm]
  have a1 := maxF_t (x := f) (y := 60 * h)
  have a2 := minF_t (x := f + m) (y := 60 * h + 60)
  generalize maxF f (60 * h) = lo at a1
  generalize minF (f + m) (60 * h + 60) = hi at a2
  have e7 : (hi - lo).toInt = hi.toInt - lo.toInt := t_sub (by omega) (by omega)
  unfold maxF
  by_cases q : lo < hi
  · have q2 := t_lt.mp q
    rw [if_pos q, if_pos (t_lt.mpr (by rw [t_0]; omega))]
  · have q2 : ¬ lo.toInt < hi.toInt := fun z => q (t_lt.mpr z)
    rw [if_neg q, if_neg (fun z => q2 (by have := t_lt.mp z; rw [t_0] at this; omega))]
theorem inHourF_0 {f h : Int32} (h1 : 0 ≤ f.toInt) (h2 : f.toInt ≤ 5000) (h5 : 0 ≤ h.toInt) (h6 : h.toInt ≤ 50) : inHourF f 0 h = 0 := by
  rw [inHour_eq h1 h2 (by decide) (by decide) h5 h6]
  have e1 : (60 * h).toInt = 60 * h.toInt := by rw [t_mul (by rw [t_60]; omega) (by rw [t_60]; omega), t_60]
  have e4 : (60 * h + 60).toInt = 60 * h.toInt + 60 := by rw [t_add (by rw [t_60]; omega) (by rw [t_60]; omega), t_60]; omega
  unfold inHourR
  rw [Int32.add_zero]
  rw [show (if 60 * h < f then f else 60 * h) = maxF f (60 * h) from maxF_c.symm, show (if f < 60 * h + 60 then f else 60 * h + 60) = minF f (60 * h + 60) from minF_c.symm]
  have a1 := maxF_t (x := f) (y := 60 * h)
  have a2 := minF_t (x := f) (y := 60 * h + 60)
  rw [if_neg (fun z => by have := t_lt.mp z; omega)]
theorem or_ex {p : Nat → Bool} : ∀ {n : Nat}, orTo p n = true ↔ ∃ j, j < n ∧ p j = true
  | 0 => ⟨fun h => (by cases h), fun ⟨_, h, _⟩ => absurd h (Nat.not_lt_zero _)⟩
  | n + 1 => by
    unfold orTo
    rw [Bool.or_eq_true, or_ex]
    exact ⟨fun h => h.elim (fun ⟨j, h1, h2⟩ => ⟨j, by omega, h2⟩) (fun h => ⟨n, by omega, h⟩), fun ⟨j, h1, h2⟩ => by
      by_cases q : j = n
      · exact Or.inr (q ▸ h2)
      · exact Or.inl ⟨j, by omega, h2⟩⟩
theorem fst_ex {p : Nat → Bool} : ∀ {k i : Nat}, (fstF p k i).isSome = true ↔ ∃ j, i ≤ j ∧ j < i + k ∧ p j = true
  | 0, i => ⟨fun h => (by cases h), fun ⟨_, h1, h2, _⟩ => by omega⟩
  | k + 1, i => by
    unfold fstF
    by_cases h : p i = true
    · rw [if_pos h]
      exact ⟨fun _ => ⟨i, Nat.le_refl _, by omega, h⟩, fun _ => rfl⟩
    · rw [if_neg h, fst_ex]
      exact ⟨fun ⟨j, h1, h2, h3⟩ => ⟨j, by omega, by omega, h3⟩, fun ⟨j, h1, h2, h3⟩ => by
        by_cases q : j = i
        · exact absurd (q ▸ h3) h
        · exact ⟨j, by omega, by omega, h3⟩⟩
theorem fst_or {p q : Nat → Bool} {n : Nat} (h : ∀ j, j < n → p j = q j) : (fstF p n 0).isSome = orTo q n := by
  have e : (fstF p n 0).isSome = true ↔ orTo q n = true := by
    rw [fst_ex, or_ex]
    exact ⟨fun ⟨j, _, h2, h3⟩ => ⟨j, by omega, by rw [← h j (by omega)]; exact h3⟩, fun ⟨j, h1, h2⟩ => ⟨j, Nat.zero_le _, by omega, by rw [h j h1]; exact h2⟩⟩
  cases h1 : (fstF p n 0).isSome <;> cases h2 : orTo q n <;> simp_all
theorem or_cg {p q : Nat → Bool} : ∀ {n : Nat}, (∀ j, j < n → p j = q j) → orTo p n = orTo q n
  | 0, _ => rfl
  | n + 1, h => by rw [orTo, orTo, or_cg (fun j hj => h j (by omega)), h n (by omega)]
theorem fst_cg {p q : Nat → Bool} : ∀ {k i : Nat}, (∀ j, i ≤ j → j < i + k → p j = q j) → fstF p k i = fstF q k i
  | 0, _, _ => rfl
  | k + 1, i, h => by rw [fstF, fstF, h i (Nat.le_refl _) (by omega), fst_cg (fun j h1 h2 => h j (by omega) (by omega))]
