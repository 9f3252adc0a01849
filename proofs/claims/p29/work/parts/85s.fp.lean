abbrev T52 : Nat := 4503599627370496
abbrev B64 : FP.Core.Fmt := FP.Core.b64
/-- the bits of c * 2 ^ q, c being of 53 digits -/
def bN (c : Nat) (q : Int) : Nat := (q + 1075).toNat * T52 + (c - T52)
def nrm (c : Nat) (q : Int) : Prop := T52 ≤ c ∧ c < 2 * T52 ∧ -1074 ≤ q ∧ q ≤ 900
theorem fp_tails : B64.tails = T52 := by decide
theorem fp_exps : B64.exps = 2048 := by decide
theorem fp_qmin : B64.qmin = -1074 := by decide
theorem fp_qmax : B64.qmax = 971 := by decide
theorem fp_p : B64.p = 53 := rfl
theorem fp_enc {c : Nat} {q : Int} (h : nrm c q) : FP.Core.encode B64 (.fin false c q) = bN c q := by
  obtain ⟨h1, h2, h3, h4⟩ := h
  unfold FP.Core.encode FP.Core.assemble bN
  dsimp only
  rw [fp_tails, fp_qmin, if_neg (by omega)]
  have e : (q - -1074).toNat + 1 = (q + 1075).toNat := by omega
  rw [e]
  simp
theorem bN_lt {c : Nat} {q : Int} (h : nrm c q) : bN c q < 2 ^ 63 := by
  obtain ⟨h1, h2, h3, h4⟩ := h
  unfold bN
  have : (q + 1075).toNat ≤ 1975 := by omega
  have h5 : (q + 1075).toNat * T52 ≤ 1975 * T52 := Nat.mul_le_mul_right _ this
  exact Nat.lt_of_lt_of_le (Nat.add_lt_add_of_le_of_lt h5 (show c - T52 < T52 by omega)) (by decide)
theorem fp_dec {c : Nat} {q : Int} (h : nrm c q) : FP.Core.decode B64 (bN c q) = .fin false c q := by
  obtain ⟨h1, h2, h3, h4⟩ := h
  have ht : c - T52 < T52 := by omega
  have hT : FP.Core.fieldT B64 (bN c q) = c - T52 := by
    unfold FP.Core.fieldT bN
    rw [fp_tails, Nat.mul_comm, Nat.mul_add_mod, Nat.mod_eq_of_lt ht]
  have hd : bN c q / T52 = (q + 1075).toNat := by
    unfold bN
    rw [Nat.mul_comm, Nat.mul_add_div (by decide), Nat.div_eq_of_lt ht, Nat.add_zero]
  have hE : FP.Core.fieldE B64 (bN c q) = (q + 1075).toNat := by
    unfold FP.Core.fieldE
    rw [fp_tails, fp_exps, hd, Nat.mod_eq_of_lt (by omega)]
  have hS : FP.Core.fieldS B64 (bN c q) = false := by
    unfold FP.Core.fieldS
    rw [fp_tails, fp_exps, hd, Nat.div_eq_of_lt (by omega)]
    rfl
  unfold FP.Core.decode
  rw [hT, hE, hS, fp_exps, fp_tails, fp_qmin, if_neg (by omega), if_neg (by omega)]
  have e1 : T52 + (c - T52) = c := by omega
  have e2 : -1074 + (((q + 1075).toNat : Int) - 1) = q := by omega
  rw [e1, e2]
/-- the double -/
def dN64 (c : Nat) (q : Int) : UInt64 := UInt64.ofNat (bN c q)
theorem dN_nat {c : Nat} {q : Int} (h : nrm c q) : (dN64 c q).toNat = bN c q := by
  unfold dN64
  have := bN_lt h
  exact UInt64.toNat_ofNat_of_lt' (by show _ < 2 ^ 64; omega)
theorem dN_val {c : Nat} {q : Int} (h : nrm c q) : FP.Core.decode B64 (dN64 c q).toNat = .fin false c q := by rw [dN_nat h, fp_dec h]
theorem log_of {c j : Nat} (h1 : T52 ≤ c) (h2 : c < 2 * T52) : (c * 2 ^ j).log2 = 52 + j := by
  have hp : 0 < 2 ^ j := Nat.two_pow_pos j
  rw [Nat.log2_eq_iff (Nat.mul_ne_zero (by omega) (by omega))]
  constructor
  · rw [Nat.pow_add]; exact Nat.mul_le_mul_right _ h1
  · rw [show 52 + j + 1 = 53 + j by omega, Nat.pow_add]; exact Nat.mul_lt_mul_of_pos_right h2 hp
theorem lead_1 {A : Nat} (h : A ≠ 0) : FP.Core.leading A 1 = (A.log2 : Int) := by
  unfold FP.Core.leading
  have h1 : Nat.log2 1 = 0 := by decide
  rw [h1]
  have h2 : ((A.log2 : Int) - ((0 : Nat) : Int)) = (A.log2 : Int) := by omega
  rw [h2]
  have h3 : ((A.log2 : Int)).toNat = A.log2 := by omega
  have h4 : (-(A.log2 : Int)).toNat = 0 := by omega
  dsimp only
  rw [h3, h4, Nat.one_mul, Nat.pow_zero, Nat.mul_one, if_pos (Nat.log2_self_le h)]
theorem near_ex (c B : Nat) (hB : 0 < B) : FP.Core.nearest (c * B) B = c := by
  unfold FP.Core.nearest
  rw [Nat.mul_mod_left, if_pos (by omega), Nat.mul_div_cancel _ hB]
/-- a whole number of twos' powers rounds to itself -/
theorem rr_ex {c j : Nat} {e q : Int} (h : nrm c q) (he : e = q - (j : Int)) : FP.Core.roundRatio B64 false (c * 2 ^ j) 1 e = .fin false c q := by
  obtain ⟨h1, h2, h3, h4⟩ := h
  have hp : 0 < 2 ^ j := Nat.two_pow_pos j
  have hne : c * 2 ^ j ≠ 0 := Nat.mul_ne_zero (by omega) (by omega)
  unfold FP.Core.roundRatio
  rw [if_neg hne]
  have hq : FP.Core.quantum B64 (c * 2 ^ j) 1 e = q := by
    unfold FP.Core.quantum
    rw [lead_1 hne, log_of h1 h2, fp_qmin, fp_p]
    omega
  rw [hq]
  unfold FP.Core.roundAt FP.Core.unitsNum FP.Core.unitsDen
  have e1 : (e - q).toNat = 0 := by omega
  have e2 : (q - e).toNat = j := by omega
  rw [e1, e2, Nat.pow_zero, Nat.mul_one, Nat.one_mul, near_ex _ _ hp]
  unfold FP.Core.settle FP.Core.bound
  rw [fp_p, fp_qmax, if_pos (by show c < 2 ^ 53; omega), if_pos (by omega)]
/-- an int as a double -/
theorem i2d_ex {x : Nat} (h0 : 0 < x) (hx : x < 2 ^ 31) : ∃ c q, nrm c q ∧ q ≤ -22 ∧ -52 ≤ q ∧ FP.i2d (nI x) = dN64 c q ∧ c = x * 2 ^ (-q).toNat := by
  have hlog : x.log2 < 31 := (Nat.log2_lt (by omega)).mpr hx
  have hlo := Nat.log2_self_le (n := x) (by omega)
  have hhi := Nat.lt_log2_self (n := x)
  have e52 : x.log2 + (52 - x.log2) = 52 := by omega
  have hc1 : T52 ≤ x * 2 ^ (52 - x.log2) := by
    have := Nat.mul_le_mul_right (2 ^ (52 - x.log2)) hlo
    rw [← Nat.pow_add, e52] at this
    exact this
  have hc2 : x * 2 ^ (52 - x.log2) < 2 * T52 := by
    have := Nat.mul_lt_mul_of_pos_right hhi (Nat.two_pow_pos (52 - x.log2))
    rw [← Nat.pow_add, show x.log2 + 1 + (52 - x.log2) = 53 by omega] at this
    exact this
  have hn : nrm (x * 2 ^ (52 - x.log2)) ((x.log2 : Int) - 52) := ⟨hc1, hc2, by omega, by omega⟩
  refine ⟨x * 2 ^ (52 - x.log2), (x.log2 : Int) - 52, hn, by omega, by omega, ?_, ?_⟩
  · show UInt64.ofNat (FP.Core.fromInt B64 (nI x).toInt) = _
    rw [nI_toInt hx]
    unfold FP.Core.fromInt FP.Core.ofInt FP.Core.round
    have e1 : decide ((x : Int) < 0) = false := decide_eq_false (by omega)
    have e2 : (x : Int).natAbs = x := by omega
    rw [e1, e2]
    dsimp only
    have hr : FP.Core.roundRatio B64 false x 1 0 = .fin false (x * 2 ^ (52 - x.log2)) ((x.log2 : Int) - 52) := by
      unfold FP.Core.roundRatio
      rw [if_neg (by omega)]
      have hq : FP.Core.quantum B64 x 1 0 = (x.log2 : Int) - 52 := by
        unfold FP.Core.quantum
        rw [lead_1 (by omega), fp_qmin, fp_p]
        omega
      rw [hq]
      unfold FP.Core.roundAt FP.Core.unitsNum FP.Core.unitsDen
      have e3 : (0 - ((x.log2 : Int) - 52)).toNat = 52 - x.log2 := by omega
      have e4 : ((x.log2 : Int) - 52 - 0).toNat = 0 := by omega
      rw [e3, e4, Nat.pow_zero, Nat.mul_one]
      have := near_ex (x * 2 ^ (52 - x.log2)) 1 (by decide)
      rw [Nat.mul_one] at this
      rw [this]
      unfold FP.Core.settle FP.Core.bound
      rw [fp_p, fp_qmax, if_pos (by show _ < 2 ^ 53; omega), if_pos (by omega)]
    rw [hr, fp_enc hn]
    rfl
  · rw [show (-((x.log2 : Int) - 52)).toNat = 52 - x.log2 by omega]
theorem i2d_0 : FP.i2d 0 = 0 := by decide +kernel
/-- a positive double that is at most 1 -/
def le1 (c : Nat) (q : Int) : Prop := nrm c q ∧ -300 ≤ q ∧ (q ≤ -53 ∨ q = -52 ∧ c = T52)
theorem settle_n {N : Nat} {q : Int} (h1 : T52 ≤ N) (h2 : N ≤ 2 * T52) (h3 : -1074 ≤ q) (h4 : q ≤ 800) : ∃ c q2, nrm c q2 ∧ FP.Core.settle B64 false N q = .fin false c q2 ∧ (N < 2 * T52 ∧ c = N ∧ q2 = q ∨ c = T52 ∧ q2 = q + 1) := by
  unfold FP.Core.settle FP.Core.bound
  rw [fp_p, fp_qmax, fp_tails]
  by_cases h : N < 2 ^ 53
  · rw [if_pos h, if_pos (by omega)]
    exact ⟨N, q, ⟨h1, by omega, h3, by omega⟩, rfl, Or.inl ⟨by omega, rfl, rfl⟩⟩
  · rw [if_neg h, if_pos (by omega)]
    exact ⟨T52, q + 1, ⟨by omega, by omega, by omega, by omega⟩, rfl, Or.inr ⟨rfl, rfl⟩⟩
theorem near_lo {A B M : Nat} (hB : 0 < B) (h : M * B ≤ A) : M ≤ FP.Core.nearest A B := by
  have := (Nat.le_div_iff_mul_le hB).mpr h
  unfold FP.Core.nearest
  split
  · exact this
  · split <;> omega
theorem near_hi {A B M : Nat} (hB : 0 < B) (h : A ≤ M * B) : FP.Core.nearest A B ≤ M := by
  unfold FP.Core.nearest
  have hd := Nat.div_add_mod A B
  have hle : A / B ≤ M := Nat.div_le_of_le_mul (by rw [Nat.mul_comm]; exact h)
  by_cases he : A / B = M
  · have hz : A % B = 0 := by
      rw [he, Nat.mul_comm] at hd
      omega
    rw [hz, if_pos (by omega)]
    exact hle
  · split
    · exact hle
    · split
      · omega
      · have := Nat.mod_lt (A / B) (show 0 < 2 by decide)
        omega
/-- a quotient at most 1 -/
theorem div_le1 {c1 c2 : Nat} {q1 q2 : Int} (h1 : nrm c1 q1) (h2 : nrm c2 q2) (hq : q1 < q2 ∨ q1 = q2 ∧ c1 ≤ c2) (hlo : -100 ≤ q1 - q2) : ∃ c q, le1 c q ∧ FP.ddiv (dN64 c1 q1) (dN64 c2 q2) = dN64 c q := by
  have hlog1 := log_of (j := 0) h1.1 h1.2.1
  have hlog2 := log_of (j := 0) h2.1 h2.2.1
  rw [Nat.pow_zero, Nat.mul_one, Nat.add_zero] at hlog1 hlog2
  obtain ⟨a1, a2, a3, a4⟩ := h1
  obtain ⟨b1, b2, b3, b4⟩ := h2
  have key : ∃ c q, le1 c q ∧ FP.Core.roundRatio B64 false c1 c2 (q1 - q2) = .fin false c q := by
    unfold FP.Core.roundRatio
    rw [if_neg (by omega)]
    by_cases hcc : c2 ≤ c1
    · have hl : FP.Core.leading c1 c2 = 0 := by
        unfold FP.Core.leading
        rw [hlog1, hlog2]
        have e : (((52 : Nat) : Int) - ((52 : Nat) : Int)) = 0 := by omega
        rw [e]
        dsimp only
        have e2 : ((0 : Int)).toNat = 0 := rfl
        have e3 : (-(0 : Int)).toNat = 0 := rfl
        rw [e2, e3, Nat.pow_zero, Nat.mul_one, Nat.mul_one, if_pos hcc]
      have hqu : FP.Core.quantum B64 c1 c2 (q1 - q2) = q1 - q2 - 52 := by
        unfold FP.Core.quantum
        rw [hl, fp_qmin, fp_p]
        omega
      rw [hqu]
      unfold FP.Core.roundAt FP.Core.unitsNum FP.Core.unitsDen
      have e4 : (q1 - q2 - (q1 - q2 - 52)).toNat = 52 := by omega
      have e5 : (q1 - q2 - 52 - (q1 - q2)).toNat = 0 := by omega
      rw [e4, e5, Nat.pow_zero, Nat.mul_one]
      have n1 : T52 ≤ FP.Core.nearest (c1 * 2 ^ 52) c2 := near_lo (by omega) (by rw [Nat.mul_comm]; exact Nat.mul_le_mul_right _ hcc)
      have n2 : FP.Core.nearest (c1 * 2 ^ 52) c2 ≤ 2 * T52 := near_hi (by omega) (by
        show c1 * T52 ≤ 2 * T52 * c2
        have : c1 * T52 ≤ (2 * c2) * T52 := Nat.mul_le_mul_right _ (by omega)
        rw [show 2 * T52 * c2 = (2 * c2) * T52 by rw [Nat.mul_right_comm]]
        exact this)
      obtain ⟨c, q, hn, hs, hcq⟩ := settle_n (q := q1 - q2 - 52) n1 n2 (by omega) (by omega)
      refine ⟨c, q, ⟨hn, by omega, ?_⟩, hs⟩
      rcases hq with hq | ⟨hq, hc⟩
      · rcases hcq with ⟨_, e, f⟩ | ⟨e, f⟩
        · exact Or.inl (by omega)
        · by_cases g : q ≤ -53
          · exact Or.inl g
          · exact Or.inr ⟨by omega, e⟩
      · have hce : c1 = c2 := by omega
        have hne : FP.Core.nearest (c1 * 2 ^ 52) c2 = T52 := by
          subst hce
          have := near_ex T52 c1 (by omega)
          rw [Nat.mul_comm] at this
          exact this
        rcases hcq with ⟨_, e, f⟩ | ⟨e, f⟩
        · exact Or.inr ⟨by omega, by omega⟩
        · exfalso
          rw [hne] at hs
          unfold FP.Core.settle FP.Core.bound at hs
          rw [fp_p, fp_qmax, if_pos (by decide), if_pos (by omega)] at hs
          injection hs with _ _ hs3
          omega
    · have hl : FP.Core.leading c1 c2 = -1 := by
        unfold FP.Core.leading
        rw [hlog1, hlog2]
        have e : (((52 : Nat) : Int) - ((52 : Nat) : Int)) = 0 := by omega
        rw [e]
        dsimp only
        have e2 : ((0 : Int)).toNat = 0 := rfl
        have e3 : (-(0 : Int)).toNat = 0 := rfl
        rw [e2, e3, Nat.pow_zero, Nat.mul_one, Nat.mul_one, if_neg hcc]
        rfl
      have hqu : FP.Core.quantum B64 c1 c2 (q1 - q2) = q1 - q2 - 53 := by
        unfold FP.Core.quantum
        rw [hl, fp_qmin, fp_p]
        omega
      rw [hqu]
      unfold FP.Core.roundAt FP.Core.unitsNum FP.Core.unitsDen
      have e4 : (q1 - q2 - (q1 - q2 - 53)).toNat = 53 := by omega
      have e5 : (q1 - q2 - 53 - (q1 - q2)).toNat = 0 := by omega
      rw [e4, e5, Nat.pow_zero, Nat.mul_one]
      have n1 : T52 ≤ FP.Core.nearest (c1 * 2 ^ 53) c2 := near_lo (by omega) (by
        show T52 * c2 ≤ c1 * (2 * T52)
        have : T52 * c2 ≤ T52 * (2 * c1) := Nat.mul_le_mul_left _ (by omega)
        rw [show c1 * (2 * T52) = T52 * (2 * c1) by rw [Nat.mul_left_comm, Nat.mul_left_comm T52, Nat.mul_comm c1]]
        exact this)
      have n2 : FP.Core.nearest (c1 * 2 ^ 53) c2 ≤ 2 * T52 := near_hi (by omega) (by
        show c1 * (2 * T52) ≤ 2 * T52 * c2
        rw [Nat.mul_comm (2 * T52)]
        exact Nat.mul_le_mul_right _ (by omega))
      obtain ⟨c, q, hn, hs, hcq⟩ := settle_n (q := q1 - q2 - 53) n1 n2 (by omega) (by omega)
      refine ⟨c, q, ⟨hn, by omega, ?_⟩, hs⟩
      rcases hcq with ⟨_, e, f⟩ | ⟨e, f⟩
      · exact Or.inl (by omega)
      · by_cases g : q ≤ -53
        · exact Or.inl g
        · exact Or.inr ⟨by omega, e⟩
  obtain ⟨c, q, hle, hr⟩ := key
  refine ⟨c, q, hle, ?_⟩
  show UInt64.ofNat (FP.Core.div B64 (dN64 c1 q1).toNat (dN64 c2 q2).toNat) = _
  unfold FP.Core.div
  rw [dN_val ⟨a1, a2, a3, a4⟩, dN_val ⟨b1, b2, b3, b4⟩]
  unfold FP.Core.quotient
  dsimp only
  rw [if_neg (by omega)]
  show UInt64.ofNat (FP.Core.encode B64 (FP.Core.roundRatio B64 false c1 c2 (q1 - q2))) = _
  rw [hr, fp_enc hle.1]
  rfl
