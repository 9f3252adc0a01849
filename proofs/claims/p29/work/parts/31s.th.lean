theorem win_of {x : Int32} {k : Nat} (hk : k < 2 ^ 31) (h : withinB x 0 (nI k) = true) : ∃ s, s < k + 1 ∧ x = nI s := by
  simp only [withinB, Bool.and_eq_true, decide_eq_true_eq] at h
  obtain ⟨j, hj, rfl⟩ := nI_of (Int32.not_lt.mpr h.1)
  exact ⟨j, by have := (nI_leI hj hk).mp h.2; omega, rfl⟩
def isValB (s : Nat) (v : Int32) : Bool := withinB v (stVal 0 s) (stVal 1 s)
def rightB (g d st ln sp : Int32) : Bool := withinB g 0 5 && withinB d 0 6 && withinB st 0 1439 && withinB ln 5 240 && withinB sp 0 30 && decide (sp ≤ ln)
theorem shNat {n : Nat} {x : Int32} (hn : n ≤ 24) (h : withinB x 0 (nI n - 1) = true) : ∃ s, s < n ∧ x = nI s := by
  rcases Nat.eq_zero_or_pos n with q | q
  · subst q
    simp only [withinB, Bool.and_eq_true, decide_eq_true_eq] at h
    have h1 := Int32.le_trans h.1 h.2
    exact absurd h1 (by decide)
  · rw [nI_predn q] at h
    obtain ⟨s, hs, rfl⟩ := win_of (by omega) h
    exact ⟨s, by omega, rfl⟩
theorem svR_no {V : VV} {m a j : Nat} (h : ¬ a = 202 ∧ ¬ (a = 200 ∧ j = 2)) : svR V m a j = V a j := by
  have h2 : ∀ {W : VV} {x : Int32}, up W 200 2 x a j = W a j := by
    intro W x
    dsimp only [up]
    by_cases ha : a = 200
    · rw [if_pos ha, if_neg (fun q => h.2 ⟨ha, q⟩)]
    · rw [if_neg ha]
  unfold svR
  split
  · rw [h2, cpSv_no h.1, h2, shSv_no h.1]
  · rw [h2, cpSv_no h.1]
theorem refR_lt {F : Nat → Nat → Int32} {G : Nat → Int32} {al kd g d st ln sp : Int32} {n o : Nat} (hn : n ≤ 24) (h : refR F G al n kd g d st ln sp o = 0) : n < 24 := by
  rcases Nat.lt_or_ge n 24 with q | q
  · exact q
  · have : n = 24 := by omega
    subst this
    unfold refR at h
    rw [if_pos rfl] at h
    exact absurd h (by decide)
def plN (V : VV) (n : Nat) : Nat := plcR (keyS (RF V)) (1440 * V 204 2 + V 204 3) n
/-- of a show that is fresh: why it would be refused -/
def rfN (V : VV) (n g o : Nat) : Int32 := refR (RF V) (V 201) (V 201 (8 + 5 * g + 0) + V 201 (8 + 5 * g + 1)) n (V 204 0) (nI g) (V 204 2) (V 204 3) (V 204 4) (V 204 5) o
def addedV (V : VV) (m n : Nat) : VV := insR (svR (up (up V 200 4 0) 200 0 0) m) n (plN V n)
theorem right_g {g d st ln sp : Int32} (h : rightB g d st ln sp = true) : ∃ k, k < 6 ∧ g = nI k := by
  simp only [rightB, Bool.and_eq_true] at h
  exact win_of (k := 5) (by decide) h.1.1.1.1.1
