theorem fp_mul {c1 c2 c : Nat} {q1 q2 q : Int} {j : Nat} (h1 : nrm c1 q1) (h2 : nrm c2 q2) (h : nrm c q) (hc : c1 * c2 = c * 2 ^ j) (hq : q1 + q2 = q - (j : Int)) : FP.dmul (dN64 c1 q1) (dN64 c2 q2) = dN64 c q := by
  show UInt64.ofNat (FP.Core.mul B64 (dN64 c1 q1).toNat (dN64 c2 q2).toNat) = _
  unfold FP.Core.mul
  rw [dN_val h1, dN_val h2]
  unfold FP.Core.exactProduct FP.Core.round
  dsimp only
  show UInt64.ofNat (FP.Core.encode B64 (FP.Core.roundRatio B64 false (c1 * c2) 1 (q1 + q2))) = _
  rw [hc, rr_ex h hq, fp_enc h]
  rfl
theorem n_1 : nrm T52 (-52) := ⟨by decide, by decide, by decide, by decide⟩
theorem e_1 : FP.dconst1 = dN64 T52 (-52) := by decide +kernel
theorem fp_one {c : Nat} {q : Int} (h : nrm c q) : FP.dmul FP.dconst1 (dN64 c q) = dN64 c q := by
  rw [e_1]
  exact fp_mul (j := 52) n_1 h h (Nat.mul_comm _ _) (by omega)
theorem fp_one0 : FP.dmul FP.dconst1 0 = 0 := by decide +kernel
theorem n64_of {r : UInt64} (h : r.toNat ≤ 9218868437227405312) : vf_n64 r := by
  unfold vf_n64
  rw [UInt64.le_iff_toNat_le, UInt64.toNat_and]
  have e : (0x7fffffffffffffff : UInt64).toNat = 2 ^ 63 - 1 := by decide
  rw [e, Nat.and_two_pow_sub_one_eq_mod]
  exact Nat.le_trans (Nat.mod_le _ _) (Nat.le_trans h (by decide))
theorem n64_d {c : Nat} {q : Int} (h : nrm c q) : vf_n64 (dN64 c q) := by
  refine n64_of ?_
  rw [dN_nat h]
  obtain ⟨h1, h2, h3, h4⟩ := h
  unfold bN
  have : (q + 1075).toNat ≤ 1975 := by omega
  have h5 : (q + 1075).toNat * T52 ≤ 1975 * T52 := Nat.mul_le_mul_right _ this
  exact Nat.le_trans (Nat.add_le_add h5 (show c - T52 ≤ T52 by omega)) (by decide)
theorem n64_0 : vf_n64 0 := n64_of (by decide)
theorem cmp_eq {a : Int} : compare a a = .eq := by simp [compare, compareOfLessAndEq]
theorem cmp_self {c : Nat} {q : Int} (h : nrm c q) : FP.dcmp (dN64 c q) (dN64 c q) = some .eq := by
  show FP.Core.cmp B64 (dN64 c q).toNat (dN64 c q).toNat = _
  unfold FP.Core.cmp
  rw [dN_val h]
  unfold FP.Core.order
  dsimp only
  rw [cmp_eq]
/-- the minutes m of k, as the class and as the reference have them -/
theorem fp_share {m k : Nat} (hk0 : 0 < k) (hmk : m ≤ k) (hk : k < 100000) : FP.dmul FP.dconst1 (FP.i2d (nI m)) = FP.i2d (nI m) ∧ (FP.ddiv (FP.i2d (nI m)) (FP.i2d (nI k)) = 0 ∨ ∃ c q, le1 c q ∧ FP.ddiv (FP.i2d (nI m)) (FP.i2d (nI k)) = dN64 c q) ∧ vf_n64 (FP.i2d (nI m)) := by
  obtain ⟨c2, q2, n2, _, _, e2, f2⟩ := i2d_ex hk0 (show k < 2 ^ 31 by omega)
  by_cases hm0 : m = 0
  · subst hm0
    rw [show nI 0 = 0 from rfl, i2d_0, e2]
    refine ⟨fp_one0, Or.inl ?_, n64_0⟩
    show UInt64.ofNat (FP.Core.div B64 (0 : UInt64).toNat (dN64 c2 q2).toNat) = _
    unfold FP.Core.div
    rw [dN_val n2, show FP.Core.decode B64 (0 : UInt64).toNat = .fin false 0 (-1074) by decide +kernel]
    unfold FP.Core.quotient
    dsimp only
    rw [if_neg (Nat.pos_iff_ne_zero.mp (Nat.lt_of_lt_of_le (by decide) n2.1))]
    unfold FP.Core.roundRatio
    rw [if_pos rfl]
    decide +kernel
  · obtain ⟨c1, q1, n1, _, _, e1, f1⟩ := i2d_ex (x := m) (by omega) (show m < 2 ^ 31 by omega)
    rw [e1, e2]
    refine ⟨fp_one n1, Or.inr (div_le1 n1 n2 ?_ (by omega)), n64_d n1⟩
    obtain ⟨a1, a2, a3, a4⟩ := n1
    obtain ⟨b1, b2, b3, b4⟩ := n2
    by_cases hq : q1 < q2
    · exact Or.inl hq
    · by_cases hq2 : q1 = q2
      · refine Or.inr ⟨hq2, ?_⟩
        rw [f1, f2, hq2]
        exact Nat.mul_le_mul_right _ hmk
      · exfalso
        -- q1 > q2: then m would be above k
        obtain ⟨t, ht⟩ : ∃ t, (-q2).toNat = (-q1).toNat + (t + 1) := ⟨(-q2).toNat - (-q1).toNat - 1, by omega⟩
        rw [ht, Nat.pow_add, Nat.pow_succ] at f2
        have hp : 0 < 2 ^ t := Nat.two_pow_pos t
        have h1 : m * 2 ^ (-q1).toNat ≤ k * 2 ^ (-q1).toNat := Nat.mul_le_mul_right _ hmk
        have h2 : k * 2 ^ (-q1).toNat * 2 ≤ k * (2 ^ (-q1).toNat * (2 ^ t * 2)) := by
          rw [Nat.mul_assoc]
          exact Nat.mul_le_mul_left _ (Nat.mul_le_mul_left _ (by omega))
        omega
