theorem rt_le {n : Nat} : ∀ {V : VV} {k : Nat}, (rtP n V k).1 ≤ n + k := by
  induction n with
  | zero => intro V k; show k ≤ 0 + k; omega
  | succ n ih =>
    intro V k
    rw [rtP]; split
    · have := ih (V := (tkS V (V 203 k)).2) (k := k + 1); omega
    · show k ≤ n + 1 + k; omega
theorem rt_au {n : Nat} : ∀ {V : VV} {t s k : Nat}, Au V t s k → n + k ≤ 60 → (rtP n V k).1 = n + k → ∃ t2 s2, Au (rtP n V k).2 t2 s2 (n + k) := by
  induction n with
  | zero => intro V t s k h _ _; exact ⟨t, s, by rw [Nat.zero_add]; exact h⟩
  | succ n ih =>
    intro V t s k h hk hr
    have hts := au_s (c := V 203 k) h (by omega)
    rw [rtP, hts] at hr ⊢
    by_cases hc : (tkP V t s (V 203 k)).1 = true
    · rw [if_pos hc] at hr ⊢
      obtain ⟨t2, s2, hA⟩ := au_tk h hc
      obtain ⟨t3, s3, hB⟩ := ih hA (by omega) (by rw [hr]; omega)
      exact ⟨t3, s3, by rw [show n + 1 + k = n + (k + 1) by omega]; exact hB⟩
    · rw [if_neg hc] at hr
      exact absurd hr (by show ¬ k = n + 1 + k; omega)
theorem sau_rt {n : Nat} : ∀ {V : VV} {k : Nat}, Sau V (rtP n V k).2 := by
  induction n with
  | zero => intro V k; exact sau_r
  | succ n ih =>
    intro V k
    rw [rtP]; split
    · exact sau_t sau_tk ih
    · exact sau_tk
theorem ins_no {V : VV} {n p i j : Nat} (h : i ≠ 201) : insR V n p i j = V i j := by
  dsimp only [insR, adjR]; rw [if_neg (fun q => h q.1), up_no h, frR_no h, shR_no h]
theorem ins_39 {V : VV} {n p : Nat} : insR V n p 201 39 = nI (n + 1) := by
  dsimp only [insR]; rw [adjR_lo (by decide)]; exact up_ss
theorem ins_g {V : VV} {n p : Nat} (hp : p ≤ n) (h : ∀ s, s < n → ∃ g, g < 6 ∧ RF V 1 s = nI g) (h2 : ∃ g, g < 6 ∧ V 204 1 = nI g) : ∀ s, s < n + 1 → ∃ g, g < 6 ∧ RF (insR V n p) 1 s = nI g := by
  intro s hs
  have e : RF (insR V n p) 1 s = frR (shR V p n) p 8 201 (40 + 8 * s + 1) := by
    dsimp only [RF, insR, adjR]
    rw [if_neg (by omega), up_nk (by omega)]
  rw [e]
  by_cases q : s = p
  · subst q
    obtain ⟨g, hg, hv⟩ := h2
    refine ⟨g, hg, ?_⟩
    dsimp only [frR]
    rw [if_pos (by omega), shR_no (by decide), show 40 + 8 * s + 1 - (40 + 8 * s) = 1 by omega]; exact hv
  · have e2 : frR (shR V p n) p 8 201 (40 + 8 * s + 1) = shR V p n 201 (40 + 8 * s + 1) := by dsimp only [frR]; rw [if_neg (by omega)]
    rw [e2]
    dsimp only [shR]
    by_cases q2 : p < s
    · rw [if_pos (by omega), show 40 + 8 * s + 1 - 8 = 40 + 8 * (s - 1) + 1 by omega]
      exact h (s - 1) (by omega)
    · rw [if_neg (by omega)]
      exact h s (by omega)
theorem ar_ok {V : VV} {n e : Nat} (h : arC V n e = 0) : arOk V n e = true ∧ arR V n e = 0 := by
  unfold arC at h
  by_cases q : arOk V n e = true
  · rw [if_pos q] at h; exact ⟨q, h⟩
  · rw [if_neg q] at h; exact absurd h (by decide)
theorem ar_v0 {V : VV} {n e : Nat} (h : arC V n e = 0) : arV V n e = insR (arT V e) n (plN (arT V e) n) := by
  unfold arV; rw [if_pos (ar_ok h).1, if_pos (ar_ok h).2]
theorem ar_no {V : VV} {n e j : Nat} {i : Nat} (h : i ≠ 201) (h2 : i ≠ 204) : arV V n e i j = V i j := by
  unfold arV; split
  · split
    · rw [ins_no h, arT_nf h2]
    · rw [arT_nf h2]
  · rfl
theorem ar_n {V : VV} {n e : Nat} (h : arC V n e = 0) : arV V n e 201 39 = nI (n + 1) := by rw [ar_v0 h]; exact ins_39
theorem ar_lt {V : VV} {n e : Nat} (hn : n ≤ 24) (h : arC V n e = 0) : n < 24 := refR_lt hn (ar_ok h).2
theorem ar_g {V : VV} {n e : Nat} (hn24 : n ≤ 24) (hsg : ∀ s, s < n → ∃ g, g < 6 ∧ RF V 1 s = nI g) (h : arC V n e = 0) : ∀ s, s < n + 1 → ∃ g, g < 6 ∧ RF (arV V n e) 1 s = nI g := by
  rw [ar_v0 h]
  refine ins_g (plcR_le n) (by rw [RF_z (arT_nf (by decide))]; exact hsg) ?_
  have hok := (ar_ok h).1
  by_cases q : V 209 e = 2
  · unfold arOk at hok
    rw [if_pos q] at hok
    obtain ⟨o, ho, ho1⟩ := shNat hn24 (Bool.and_eq_true_iff.mp hok).1
    obtain ⟨g, hg, hog⟩ := hsg o ho
    refine ⟨g, hg, ?_⟩
    have hcl : arO V e = o := by unfold arO; rw [ho1]; exact nI_clamp (by omega)
    unfold arT; rw [if_pos q, hcl, ← hog]; rfl
  · unfold arOk at hok
    rw [if_neg q] at hok
    obtain ⟨g, hg, hg1⟩ := right_g hok
    refine ⟨g, hg, ?_⟩
    unfold arT; rw [if_neg q, ← hg1]; rfl
def ldP : Nat → VV → Nat → Nat → VV × Nat
  | 0, V, _, j => (V, j)
  | f + 1, V, n, j => if arC V n (6 * j) = 0 then ldP f (up (arV V n (6 * j)) 200 4 0) (n + 1) (j + 1) else (up (arV V n (6 * j)) 200 4 (arC V n (6 * j)), j)
def ldB (V : VV) (l0 : Nat) : Bool := decide ((rtT V l0).1 = l0) && cmB (rtT V l0).2 (toN ((rtT V l0).2 200 15)) (toN ((rtT V l0).2 200 13))
def ldK (V : VV) (l0 : Nat) : Nat := toN ((rtT V l0).2 200 15) + 1
def ld0 (V : VV) (l0 m : Nat) : VV := up (up (svR (up (rtT V l0).2 200 0 0) m) 200 15 (nI (ldK V l0))) 200 4 0
theorem ldB_1 {V : VV} {l0 : Nat} (h : ¬ (rtT V l0).1 = l0) : ldB V l0 = false := by unfold ldB; rw [decide_eq_false h]; rfl
theorem ldB_2 {V : VV} {l0 : Nat} (h : cmB (rtT V l0).2 (toN ((rtT V l0).2 200 15)) (toN ((rtT V l0).2 200 13)) = false) : ldB V l0 = false := by unfold ldB; rw [h, Bool.and_false]
theorem ldB_3 {V : VV} {l0 : Nat} (h0 : (rtT V l0).1 = l0) (h : cmB (rtT V l0).2 (toN ((rtT V l0).2 200 15)) (toN ((rtT V l0).2 200 13)) = true) : ldB V l0 = true := by unfold ldB; rw [h, decide_eq_true h0]; rfl
