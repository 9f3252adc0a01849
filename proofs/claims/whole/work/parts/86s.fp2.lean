-- shifts (kit/laws/BITS.to-paste), doubling and the bits
theorem wb_tb (n : Nat) : (lN n).toBitVec = BitVec.ofNat 64 n := rfl
theorem wb_inj {a b : Int64} (h : a.toBitVec = b.toBitVec) : a = b := Int64.toBitVec_inj.mp h
theorem wb_c : ∀ k, k < 64 → ((nI k).toInt64 &&& 63) = lN k := by decide +kernel
theorem wb_sm : ∀ k, k < 64 → (BitVec.ofNat 64 k).smod 64 = BitVec.ofNat 64 k := by decide +kernel
theorem wb_shl (n : Nat) {k : Nat} (hk : k < 64) : lN n <<< ((nI k).toInt64 &&& 63) = lN (n * 2 ^ k) := by
  rw [wb_c k hk]
  apply wb_inj
  rw [Int64.toBitVec_shiftLeft, wb_tb, wb_tb, wb_tb, wb_sm k hk]
  apply BitVec.eq_of_toNat_eq
  rw [BitVec.shiftLeft_eq', BitVec.toNat_shiftLeft, BitVec.toNat_ofNat, BitVec.toNat_ofNat, BitVec.toNat_ofNat, Nat.mod_eq_of_lt (show k < 2 ^ 64 by omega), Nat.shiftLeft_eq, Nat.mul_mod, Nat.mod_mod, ← Nat.mul_mod]
theorem fp_mul {c1 c2 c : Nat} {q1 q2 q : Int} {j : Nat} (h1 : nrm c1 q1) (h2 : nrm c2 q2) (h : nrm c q) (hc : c1 * c2 = c * 2 ^ j) (hq : q1 + q2 = q - (j : Int)) : FP.dmul (dN64 c1 q1) (dN64 c2 q2) = dN64 c q := by
  show UInt64.ofNat (FP.Core.mul B64 (dN64 c1 q1).toNat (dN64 c2 q2).toNat) = _
  unfold FP.Core.mul
  rw [dN_val h1, dN_val h2]
  unfold FP.Core.exactProduct FP.Core.round
  dsimp only
  show UInt64.ofNat (FP.Core.encode B64 (FP.Core.roundRatio B64 false (c1 * c2) 1 (q1 + q2))) = _
  rw [hc, rr_ex h hq, fp_enc h]
  rfl
theorem n_1 : nrm T52 (-52) := ⟨by decide, by decide, by decide, by decide⟩
theorem n_2 : nrm T52 (-51) := ⟨by decide, by decide, by decide, by decide⟩
theorem n_52 : nrm T52 0 := ⟨by decide, by decide, by decide, by decide⟩
theorem e_1 : FP.dconst1 = dN64 T52 (-52) := by decide +kernel
theorem e_2 : (4611686018427387904 : UInt64) = dN64 T52 (-51) := by decide +kernel
theorem e_52 : (4841369599423283200 : UInt64) = dN64 T52 0 := by decide +kernel
theorem fp_dbl {c : Nat} {q : Int} (h : nrm c q) (h2 : q < 900) : FP.dmul (dN64 c q) 4611686018427387904 = dN64 c (q + 1) := by
  rw [e_2]
  exact fp_mul (j := 52) h n_2 ⟨h.1, h.2.1, by have := h.2.2.1; omega, by omega⟩ rfl (by omega)
theorem fp_one {c : Nat} {q : Int} (h : nrm c q) : FP.dmul FP.dconst1 (dN64 c q) = dN64 c q := by
  rw [e_1]
  exact fp_mul (j := 52) n_1 h h (Nat.mul_comm _ _) (by omega)
theorem fp_one0 : FP.dmul FP.dconst1 0 = 0 := by decide +kernel
theorem n64_of {r : UInt64} (h : r.toNat ≤ 9218868437227405312) : vf_n64 r := by
  unfold vf_n64
  rw [UInt64.le_iff_toNat_le, UInt64.toNat_and]
  have e : (0x7fffffffffffffff : UInt64).toNat = 2 ^ 63 - 1 := by decide
  rw [e, Nat.and_two_pow_sub_one_eq_mod]
  exact Nat.le_trans (Nat.mod_le _ _) (Nat.le_trans h (by decide))
theorem n64_d {c : Nat} {q : Int} (h : nrm c q) : vf_n64 (dN64 c q) := by
  refine n64_of ?_
  rw [dN_nat h]
  obtain ⟨h1, h2, h3, h4⟩ := h
  unfold bN
  have : (q + 1075).toNat ≤ 1975 := by omega
  have h5 : (q + 1075).toNat * T52 ≤ 1975 * T52 := Nat.mul_le_mul_right _ this
  exact Nat.le_trans (Nat.add_le_add h5 (show c - T52 ≤ T52 by omega)) (by decide)
theorem n64_0 : vf_n64 0 := n64_of (by decide)
theorem cmp_lt {a b : Int} (h : a < b) : compare a b = .lt := by simp [compare, compareOfLessAndEq, h]
theorem cmp_gt {a b : Int} (h : b < a) : compare a b = .gt := by
  have h1 : ¬ a < b := by omega
  have h2 : ¬ a = b := by omega
  simp [compare, compareOfLessAndEq, h1, h2]
theorem cmp_eq {a : Int} : compare a a = .eq := by simp [compare, compareOfLessAndEq]
theorem cmp_self {c : Nat} {q : Int} (h : nrm c q) : FP.dcmp (dN64 c q) (dN64 c q) = some .eq := by
  show FP.Core.cmp B64 (dN64 c q).toNat (dN64 c q).toNat = _
  unfold FP.Core.cmp
  rw [dN_val h]
  unfold FP.Core.order
  dsimp only
  rw [cmp_eq]
theorem cmp_0 {c : Nat} {q : Int} (h : nrm c q) : FP.dcmp (dN64 c q) FP.dconst0 = some .gt := by
  show FP.Core.cmp B64 (dN64 c q).toNat (0 : UInt64).toNat = _
  unfold FP.Core.cmp
  rw [dN_val h]
  have e : FP.Core.decode B64 (0 : UInt64).toNat = .fin false 0 (-1074) := by decide +kernel
  rw [e]
  unfold FP.Core.order FP.Core.inUnits FP.Core.signed
  dsimp only
  rw [if_neg (by decide), if_neg (by decide), Nat.zero_mul]
  have h1 : 0 < c * 2 ^ (q - min q (-1074)).toNat := Nat.mul_pos (Nat.lt_of_lt_of_le (by decide) h.1) (Nat.two_pow_pos _)
  rw [cmp_gt (by omega)]
theorem cmp_1 {c : Nat} {q : Int} (h : nrm c q) (hq : q ≤ -53) : FP.dcmp (dN64 c q) FP.dconst1 = some .lt := by
  rw [e_1]
  show FP.Core.cmp B64 (dN64 c q).toNat (dN64 T52 (-52)).toNat = _
  unfold FP.Core.cmp
  rw [dN_val h, dN_val n_1]
  unfold FP.Core.order FP.Core.inUnits FP.Core.signed
  dsimp only
  rw [if_neg (by decide), if_neg (by decide)]
  have e1 : (q - min q (-52)).toNat = 0 := by omega
  rw [e1, Nat.pow_zero, Nat.mul_one]
  obtain ⟨t, ht⟩ : ∃ t, (-52 - min q (-52)).toNat = t + 1 := ⟨(-52 - min q (-52)).toNat - 1, by omega⟩
  rw [ht, Nat.pow_succ]
  have h1 : 0 < 2 ^ t := Nat.two_pow_pos t
  have h2 : 2 * T52 ≤ T52 * (2 ^ t * 2) := by
    rw [Nat.mul_comm 2]
    exact Nat.mul_le_mul_left _ (by omega)
  have h3 := h.2.1
  rw [cmp_lt (by omega)]
theorem cmp_2 {c : Nat} (h : nrm c (-52)) : FP.dcmp (dN64 c (-52)) FP.dconst1 = some .gt ∨ FP.dcmp (dN64 c (-52)) FP.dconst1 = some .eq := by
  rw [e_1]
  by_cases hc : c = T52
  · subst hc; exact Or.inr (cmp_self n_1)
  · refine Or.inl ?_
    show FP.Core.cmp B64 (dN64 c (-52)).toNat (dN64 T52 (-52)).toNat = _
    unfold FP.Core.cmp
    rw [dN_val h, dN_val n_1]
    unfold FP.Core.order FP.Core.inUnits FP.Core.signed
    dsimp only
    rw [if_neg (by decide), if_neg (by decide)]
    have e1 : ((-52 : Int) - min (-52) (-52)).toNat = 0 := by decide
    rw [e1, Nat.pow_zero, Nat.mul_one, Nat.mul_one, cmp_gt (by have := h.1; omega)]
/-- what is rounded away from the leading one on -/
theorem rr_m {m : Nat} {e : Int} (h0 : 0 < m) (hm : m < 2 * T52) (he : -900 ≤ e) (he2 : e ≤ 800) : nrm (m * 2 ^ (52 - m.log2)) ((m.log2 : Int) - 52 + e) ∧ FP.Core.roundRatio B64 false m 1 e = .fin false (m * 2 ^ (52 - m.log2)) ((m.log2 : Int) - 52 + e) := by
  have hlog : m.log2 < 53 := (Nat.log2_lt (by omega)).mpr hm
  have hlo := Nat.log2_self_le (n := m) (by omega)
  have hhi := Nat.lt_log2_self (n := m)
  have e52 : m.log2 + (52 - m.log2) = 52 := by omega
  have hc1 : T52 ≤ m * 2 ^ (52 - m.log2) := by
    have := Nat.mul_le_mul_right (2 ^ (52 - m.log2)) hlo
    rw [← Nat.pow_add, e52] at this
    exact this
  have hc2 : m * 2 ^ (52 - m.log2) < 2 * T52 := by
    have := Nat.mul_lt_mul_of_pos_right hhi (Nat.two_pow_pos (52 - m.log2))
    rw [← Nat.pow_add, show m.log2 + 1 + (52 - m.log2) = 53 by omega] at this
    exact this
  refine ⟨⟨hc1, hc2, by omega, by omega⟩, ?_⟩
  unfold FP.Core.roundRatio
  rw [if_neg (by omega)]
  have hq : FP.Core.quantum B64 m 1 e = (m.log2 : Int) - 52 + e := by
    unfold FP.Core.quantum
    rw [lead_1 (by omega), fp_qmin, fp_p]
    omega
  rw [hq]
  unfold FP.Core.roundAt FP.Core.unitsNum FP.Core.unitsDen
  have e3 : (e - ((m.log2 : Int) - 52 + e)).toNat = 52 - m.log2 := by omega
  have e4 : ((m.log2 : Int) - 52 + e - e).toNat = 0 := by omega
  rw [e3, e4, Nat.pow_zero, Nat.mul_one]
  have := near_ex (m * 2 ^ (52 - m.log2)) 1 (by decide)
  rw [Nat.mul_one] at this
  rw [this]
  unfold FP.Core.settle FP.Core.bound
  rw [fp_p, fp_qmax, if_pos (by show _ < 2 ^ 53; omega), if_pos (by omega)]
/-- what a number of [1, 2) is above 1 -/
theorem fp_sub {c : Nat} (h : nrm c (-52)) : FP.dsub (dN64 c (-52)) FP.dconst1 = if c = T52 then 0 else dN64 ((c - T52) * 2 ^ (52 - (c - T52).log2)) (((c - T52).log2 : Int) - 104) := by
  rw [e_1]
  show UInt64.ofNat (FP.Core.sub B64 (dN64 c (-52)).toNat (dN64 T52 (-52)).toNat) = _
  unfold FP.Core.sub
  rw [dN_val h, dN_val n_1]
  unfold FP.Core.negate FP.Core.exactSum FP.Core.round
  dsimp only
  have h1 := h.1
  have hv : FP.Core.sumUnits false c (-52) (!false) T52 (-52) (min (-52) (-52)) = ((c - T52 : Nat) : Int) := by
    unfold FP.Core.sumUnits FP.Core.signed FP.Core.inUnits
    have e1 : ((-52 : Int) - min (-52) (-52)).toNat = 0 := by decide
    rw [e1, Nat.pow_zero, Nat.mul_one, Nat.mul_one, if_neg (by decide), if_pos (by decide)]
    omega
  rw [hv]
  have hsg : FP.Core.sumSign false (!false) ((c - T52 : Nat) : Int) = false := by
    unfold FP.Core.sumSign
    split
    · rfl
    · exact decide_eq_false (by omega)
  rw [hsg]
  have e2 : (((c - T52 : Nat) : Int)).natAbs = c - T52 := by omega
  have e3 : (min (-52) (-52) : Int) = -52 := by decide
  rw [e2, e3]
  by_cases hc : c = T52
  · rw [if_pos hc, hc]
    decide +kernel
  · rw [if_neg hc]
    obtain ⟨hn, hr⟩ := rr_m (m := c - T52) (e := -52) (by omega) (by have := h.2.1; omega) (by decide) (by decide)
    rw [hr, fp_enc hn]
    have e4 : ((c - T52).log2 : Int) - 52 + -52 = ((c - T52).log2 : Int) - 104 := by omega
    rw [e4]
    rfl
theorem fp_0mul : FP.dmul 0 4841369599423283200 = 0 := by decide +kernel
theorem fp_m52 {c : Nat} {q : Int} (h : nrm c q) (h2 : q < 800) : FP.dmul (dN64 c q) 4841369599423283200 = dN64 c (q + 52) := by
  rw [e_52]
  exact fp_mul (j := 52) h n_52 ⟨h.1, h.2.1, by have := h.2.2.1; omega, by omega⟩ rfl (by omega)
theorem fp_d2l {m : Nat} (h0 : 0 < m) (hm : m < 2 * T52) (h : nrm (m * 2 ^ (52 - m.log2)) ((m.log2 : Int) - 52)) : FP.d2l (dN64 (m * 2 ^ (52 - m.log2)) ((m.log2 : Int) - 52)) = lN m := by
  have hlog : m.log2 < 53 := (Nat.log2_lt (by omega)).mpr hm
  show FP.Core.toL (FP.Core.decode B64 _) = _
  rw [dN_val h]
  unfold FP.Core.toL FP.Core.toInt FP.Core.truncate FP.Core.signed
  dsimp only
  rw [if_neg (by decide)]
  have e1 : ((m.log2 : Int) - 52).toNat = 0 := by omega
  have e2 : (-((m.log2 : Int) - 52)).toNat = 52 - m.log2 := by omega
  rw [e1, e2, Nat.pow_zero, Nat.mul_one, Nat.mul_div_cancel _ (Nat.two_pow_pos _)]
  have e3 : max (-2 ^ 63) (min (2 ^ 63 - 1) (m : Int)) = (m : Int) := by
    have hT : T52 = 4503599627370496 := rfl
    have : (m : Int) < 9007199254740992 := by omega
    omega
  rw [e3]
  exact Int64.ofInt_eq_ofNat
theorem fp_d2l0 : FP.d2l 0 = 0 := by decide +kernel
/-- the bits, out of the exponent and what is above 1 -/
theorem fp_bits {c : Nat} {q : Int} (h : nrm c q) : (lN (q + 1075).toNat <<< ((52 : Int32).toInt64 &&& 63)) + lN (c - T52) = (dN64 c q).toInt64 := by
  have := wb_shl (q + 1075).toNat (k := 52) (by decide)
  rw [show (52 : Int32) = nI 52 from rfl, this, show (lN ((q + 1075).toNat * 2 ^ 52) + lN (c - T52)) = lN ((q + 1075).toNat * 2 ^ 52 + (c - T52)) from (Int64.ofNat_add _ _).symm]
  rfl
/-- the minutes m of k, as the class and as the reference have them -/
theorem fp_share {m k : Nat} (hk0 : 0 < k) (hmk : m ≤ k) (hk : k < 100000) : FP.dmul FP.dconst1 (FP.i2d (nI m)) = FP.i2d (nI m) ∧ (FP.ddiv (FP.i2d (nI m)) (FP.i2d (nI k)) = 0 ∨ ∃ c q, le1 c q ∧ FP.ddiv (FP.i2d (nI m)) (FP.i2d (nI k)) = dN64 c q) ∧ vf_n64 (FP.i2d (nI m)) := by
  obtain ⟨c2, q2, n2, _, _, e2, f2⟩ := i2d_ex hk0 (show k < 2 ^ 31 by omega)
  by_cases hm0 : m = 0
  · subst hm0
    rw [show nI 0 = 0 from rfl, i2d_0, e2]
    refine ⟨fp_one0, Or.inl ?_, n64_0⟩
    show UInt64.ofNat (FP.Core.div B64 (0 : UInt64).toNat (dN64 c2 q2).toNat) = _
    unfold FP.Core.div
    rw [dN_val n2, show FP.Core.decode B64 (0 : UInt64).toNat = .fin false 0 (-1074) by decide +kernel]
    unfold FP.Core.quotient
    dsimp only
    rw [if_neg (Nat.pos_iff_ne_zero.mp (Nat.lt_of_lt_of_le (by decide) n2.1))]
    unfold FP.Core.roundRatio
    rw [if_pos rfl]
    decide +kernel
  · obtain ⟨c1, q1, n1, _, _, e1, f1⟩ := i2d_ex (x := m) (by omega) (show m < 2 ^ 31 by omega)
    rw [e1, e2]
    refine ⟨fp_one n1, Or.inr (div_le1 n1 n2 ?_ (by omega)), n64_d n1⟩
    obtain ⟨a1, a2, a3, a4⟩ := n1
    obtain ⟨b1, b2, b3, b4⟩ := n2
    by_cases hq : q1 < q2
    · exact Or.inl hq
    · by_cases hq2 : q1 = q2
      · refine Or.inr ⟨hq2, ?_⟩
        rw [f1, f2, hq2]
        exact Nat.mul_le_mul_right _ hmk
      · exfalso
        -- q1 > q2: then m would be above k
        obtain ⟨t, ht⟩ : ∃ t, (-q2).toNat = (-q1).toNat + (t + 1) := ⟨(-q2).toNat - (-q1).toNat - 1, by omega⟩
        rw [ht, Nat.pow_add, Nat.pow_succ] at f2
        have hp : 0 < 2 ^ t := Nat.two_pow_pos t
        have h1 : m * 2 ^ (-q1).toNat ≤ k * 2 ^ (-q1).toNat := Nat.mul_le_mul_right _ hmk
        have h2 : k * 2 ^ (-q1).toNat * 2 ≤ k * (2 ^ (-q1).toNat * (2 ^ t * 2)) := by
          rw [Nat.mul_assoc]
          exact Nat.mul_le_mul_left _ (Nat.mul_le_mul_left _ (by omega))
        omega
