theorem z_ix0 {b c g : Nat} : nI b * nI g + nI c = nI (b * g + c) := by rw [pk_mul, nI_add]
def goV (V : VV) (b : Bool) (nx : Int32) : VV := up V 200 13 (if b = true then nx else V 200 13)
def pcN (q : Nat) : Nat := if q = 0 then 1 else q + 2
def kdC (c : Int32) : Int32 := if c = 76 then 0 else if c = 84 then 1 else 2
theorem kd_1 {c : Int32} (h : c = 76) : 0 = kdC c := (if_pos h).symm
theorem kd_2 {c : Int32} (h : ¬ c = 76) (h2 : c = 84) : 1 = kdC c := by unfold kdC; rw [if_neg h, if_pos h2]
theorem kd_3 {c : Int32} (h : ¬ c = 76) (h2 : ¬ c = 84) : 2 = kdC c := by unfold kdC; rw [if_neg h, if_neg h2]
def bg0 (V : VV) (t : Nat) (c : Int32) : VV := up (up V 209 (6 * t + 0) (kdC c)) 209 (6 * t + 5) 0
def lt2 (c : Int32) : Bool := decide (c = 76) || decide (c = 84)
theorem lt2_1 {c : Int32} (h : c = 76) : lt2 c = true := by unfold lt2; rw [decide_eq_true h, Bool.true_or]
theorem lt2_2 {c : Int32} (h : c = 84) : lt2 c = true := by unfold lt2; rw [decide_eq_true h, Bool.or_true]
theorem lt2_3 {c : Int32} (h : ¬ c = 76) (h2 : ¬ c = 84) : lt2 c = false := by unfold lt2; rw [decide_eq_false h, decide_eq_false h2]; rfl
def begP (V : VV) (t : Nat) (c : Int32) : Bool × VV := if c = 82 then (true, goV (bg0 V t c) true 10) else (lt2 c, goV (bg0 V t c) (lt2 c) 1)
def enV (V : VV) (t : Nat) (c : Int32) : VV := if c = 59 then up (up V 200 15 (nI (t + 1))) 200 13 0 else V
def tdV (V : VV) (t : Nat) (c : Int32) (w : Nat) (m nx : Int32) : VV := goV (up V 209 (6 * t + w) (c - 48)) (withinB c 48 (48 + m)) nx
def bnV (V : VV) (t : Nat) (c : Int32) (q : Nat) : VV := goV (up (up V 209 (6 * t + pcN q) (c - 48)) 200 14 1) (withinB c 48 57) (nI (20 + q))
def gdB (V : VV) (t q : Nat) : Bool := decide (0 < V 209 (6 * t + pcN q)) && decide (V 200 14 < 4)
theorem gd_1 {V : VV} {t q : Nat} (h : 0 < V 209 (6 * t + pcN q)) (h2 : V 200 14 < 4) : gdB V t q = true := by unfold gdB; rw [decide_eq_true h, decide_eq_true h2]; rfl
theorem gd_2 {V : VV} {t q : Nat} (h : ¬ 0 < V 209 (6 * t + pcN q)) : gdB V t q = false := by unfold gdB; rw [decide_eq_false h, Bool.false_and]
theorem gd_3 {V : VV} {t q : Nat} (h : ¬ V 200 14 < 4) : gdB V t q = false := by unfold gdB; rw [decide_eq_false h, Bool.and_false]
def ndV (V : VV) (t : Nat) (c : Int32) (q : Nat) : VV := up (up V 209 (6 * t + pcN q) (if gdB V t q = true then 10 * V 209 (6 * t + pcN q) + c - 48 else V 209 (6 * t + pcN q))) 200 14 (V 200 14 + b2i (gdB V t q))
def gnP (V : VV) (t : Nat) (c : Int32) (q : Nat) : Bool × VV :=
  if withinB c 48 57 = true then (gdB V t q, ndV V t c q)
  else if q = 0 then (decide (c = 46), goV V (decide (c = 46)) 3)
  else if q = 1 then (if V 209 (6 * t) = 2 then (decide (c = 59), enV V t c) else (decide (c = 43), goV V (decide (c = 43)) 12))
  else if q = 2 then (if c = 58 then (true, goV V true 13) else (decide (c = 59), enV V t c))
  else (decide (c = 59), enV V t c)
def tkP (V : VV) (t s : Nat) (c : Int32) : Bool × VV :=
  if s = 0 then begP V t c
  else if s = 1 then (withinB c 48 (48 + 5), tdV V t c 1 5 2)
  else if s = 2 then (decide (c = 46), goV V (decide (c = 46)) 3)
  else if s = 3 then (withinB c 48 (48 + 6), tdV V t c 2 6 4)
  else if s = 4 then (decide (c = 64), goV V (decide (c = 64)) 11)
  else if s < 20 then (withinB c 48 57, bnV V t c (s - 10))
  else gnP V t c (s - 20)
theorem goV_f {V : VV} {x : Int32} : goV V false x = V := eq_of2 fun i j => by
  unfold goV; rw [if_neg (by decide)]
  by_cases h : i = 200
  · subst h
    by_cases h2 : j = 13
    · subst h2; exact up_ss
    · exact up_nk h2
  · exact up_no h
theorem goV_15 {V : VV} {b : Bool} {x : Int32} : goV V b x 200 15 = V 200 15 := by unfold goV; exact up_nk (by decide)
theorem goV_9 {V : VV} {b : Bool} {x : Int32} {j : Nat} : goV V b x 209 j = V 209 j := by unfold goV; exact up_no (by decide)
theorem cd_t {c x : Int32} (h : c = x) : decide (c = x) = true := decide_eq_true h
theorem cd_f {c x : Int32} (h : ¬ c = x) : decide (c = x) = false := decide_eq_false h
theorem nI_subn {a b : Nat} (h : b ≤ a) : nI a - nI b = nI (a - b) := by
  have e : nI a = nI (a - b) + nI b := by rw [nI_add, Nat.sub_add_cancel h]
  rw [e, Int32.add_sub_cancel]
theorem z_ixm {b g : Nat} : nI b * nI g = nI (b * g) := by rw [pk_mul]
theorem gn_w {V : VV} {t q : Nat} {c : Int32} (h : withinB c 48 57 = true) : gnP V t c q = (gdB V t q, ndV V t c q) := if_pos h
theorem gn_0 {V : VV} {t : Nat} {c : Int32} (h : withinB c 48 57 = false) : gnP V t c 0 = (decide (c = 46), goV V (decide (c = 46)) 3) := by unfold gnP; rw [tf_e h]; rfl
theorem gn_1a {V : VV} {t : Nat} {c : Int32} (h : withinB c 48 57 = false) (h2 : V 209 (6 * t) = 2) : gnP V t c 1 = (decide (c = 59), enV V t c) := by
  unfold gnP; rw [tf_e h]; exact if_pos h2
theorem gn_1b {V : VV} {t : Nat} {c : Int32} (h : withinB c 48 57 = false) (h2 : ¬ V 209 (6 * t) = 2) : gnP V t c 1 = (decide (c = 43), goV V (decide (c = 43)) 12) := by
  unfold gnP; rw [tf_e h]; exact if_neg h2
theorem gn_2a {V : VV} {t : Nat} {c : Int32} (h : withinB c 48 57 = false) (h2 : c = 58) : gnP V t c 2 = (true, goV V true 13) := by
  unfold gnP; rw [tf_e h]; exact if_pos h2
theorem gn_2b {V : VV} {t : Nat} {c : Int32} (h : withinB c 48 57 = false) (h2 : ¬ c = 58) : gnP V t c 2 = (decide (c = 59), enV V t c) := by
  unfold gnP; rw [tf_e h]; exact if_neg h2
theorem gn_3 {V : VV} {t : Nat} {c : Int32} (h : withinB c 48 57 = false) : gnP V t c 3 = (decide (c = 59), enV V t c) := by
  unfold gnP; rw [tf_e h]; rfl
theorem tk_5 {V : VV} {t s : Nat} {c : Int32} (h : 4 < s) (h2 : s < 20) : tkP V t s c = (withinB c 48 57, bnV V t c (s - 10)) := by
  unfold tkP; rw [if_neg (by omega), if_neg (by omega), if_neg (by omega), if_neg (by omega), if_neg (by omega), if_pos h2]
theorem tk_6 {V : VV} {t s : Nat} {c : Int32} (h2 : 20 ≤ s) : tkP V t s c = gnP V t c (s - 20) := by
  unfold tkP; rw [if_neg (by omega), if_neg (by omega), if_neg (by omega), if_neg (by omega), if_neg (by omega), if_neg (by omega)]
