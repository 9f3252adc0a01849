theorem or_of {p : Nat → Bool} {i : Nat} (h : p i = true) : ∀ {n : Nat}, i < n → orTo p n = true
  | 0, hi => absurd hi (Nat.not_lt_zero i)
  | n + 1, hi => by
    unfold orTo
    by_cases q : i = n
    · subst q; rw [h, Bool.or_true]
    · rw [or_of h (by omega), Bool.true_or]
/-- another show t of the day of s is dropped when s has the overrun b -/
def badP (V : VV) (n s : Nat) (b : Int32) (t : Nat) : Bool := decide (¬ nI t = nI s) && decide (V 31 t = V 31 s) && decide (airS (CF V) (V 21) (fun x => if nI x = nI s then b else V 35 x) n 0 t = -1)
def hrmB (V : VV) (n s : Nat) (b : Int32) : Bool := !orTo (badP V n s b) n
theorem bad_1 {V : VV} {n s t : Nat} {b : Int32} (h : nI t = nI s) : badP V n s b t = false := by unfold badP; rw [decide_eq_false (fun q => q h)]; rfl
theorem bad_2 {V : VV} {n s t : Nat} {b : Int32} (h : ¬ V 31 t = V 31 s) : badP V n s b t = false := by unfold badP; rw [decide_eq_false h, Bool.and_false]; rfl
theorem bad_3 {V : VV} {n s t : Nat} {b : Int32} (h : ¬ airS (CF V) (V 21) (fun x => if nI x = nI s then b else V 35 x) n 0 t = -1) : badP V n s b t = false := by unfold badP; rw [decide_eq_false h, Bool.and_false]
theorem bad_0 {V : VV} {n s t : Nat} {b : Int32} (h1 : ¬ nI t = nI s) (h2 : V 31 t = V 31 s) (h3 : airS (CF V) (V 21) (fun x => if nI x = nI s then b else V 35 x) n 0 t = -1) : badP V n s b t = true := by unfold badP; rw [decide_eq_true h1, decide_eq_true h2, decide_eq_true h3]; rfl
theorem or_s {p : Nat → Bool} {i : Nat} (h : orTo p i = false) (h2 : p i = false) : orTo p (i + 1) = false := by unfold orTo; rw [h, h2]; rfl
theorem hrm_f {V : VV} {n s i : Nat} {b : Int32} (hi : i < n) (h : badP V n s b i = true) : 0 = b2i (hrmB V n s b) := by unfold hrmB; rw [or_of h hi]; rfl
theorem hrm_t {V : VV} {n s : Nat} {b : Int32} (h : orTo (badP V n s b) n = false) : 1 = b2i (hrmB V n s b) := by unfold hrmB; rw [h]; rfl
/-- the greatest of an interval that p holds, by halves -/
def bsS (p : Int32 → Bool) : Nat → Int32 → Int32 → Int32
  | 0, lo, _ => lo
  | k + 1, lo, hi => if hi - lo ≤ 1 then lo else if p (lo + (hi - lo) / 2) = true then bsS p k (lo + (hi - lo) / 2) hi else bsS p k lo (lo + (hi - lo) / 2)
def grtS (V : VV) (n s : Nat) : Int32 := if hrmB V n s (-60) = true then bsS (hrmB V n s) 8 (-60) 121 else -101
theorem bs_1 {p : Int32 → Bool} {k : Nat} {lo hi : Int32} (h : hi - lo ≤ 1) : bsS p (k + 1) lo hi = lo := by rw [bsS, if_pos h]
theorem bs_2 {p : Int32 → Bool} {k : Nat} {lo hi : Int32} (h : ¬ hi - lo ≤ 1) (h2 : p (lo + (hi - lo) / 2) = true) : bsS p (k + 1) lo hi = bsS p k (lo + (hi - lo) / 2) hi := by rw [bsS, if_neg h, if_pos h2]
theorem bs_3 {p : Int32 → Bool} {k : Nat} {lo hi : Int32} (h : ¬ hi - lo ≤ 1) (h2 : p (lo + (hi - lo) / 2) = false) : bsS p (k + 1) lo hi = bsS p k lo (lo + (hi - lo) / 2) := by rw [bsS, if_neg h, if_neg (by rw [h2]; decide)]
theorem sma_t {b : Nat} {V V1 V2 : VV} (h : SmA b V V1) (h2 : SmA b V1 V2) : SmA b V V2 := fun i hi => (h2 i hi).trans (h i hi)
theorem sma_cf {V V1 : VV} (h : SmA 12 V V1) : CF V1 = CF V := funext fun k => h (29 + k) (by omega)
theorem hrm_sm {V V1 : VV} (h : SmA 12 V V1) {n s : Nat} {b : Int32} : hrmB V1 n s b = hrmB V n s b := by
  unfold hrmB
  refine congrArg (fun f => !orTo f n) (funext fun t => ?_)
  unfold badP
  rw [sma_cf h, h 31 (by decide), h 21 (by decide), h 35 (by decide)]
theorem cf_b {V : VV} {k g d s l sp o : Int32} : CF (becomeV V k g d s l sp o) = CF V := funext fun j => sm5_b5 (29 + j) (by omega)
/-- behind a playing with another overrun: what f answers of the memory then -/
def PlT (f : VV → Int32) (ov : Nat → Int32) (n : Nat) (V : VV) (L : LL) (N : NN) (I : List Nat) : PP := fun r1 V1 L1 N1 I1 => r1 = .inl (some (aI (f V1))) ∧ AirI 12 V V1 ov n ∧ L1 = L ∧ N1 = N ∧ I1 = I
