theorem ins_nf {V : VV} {n p i : Nat} (h : ¬ (29 ≤ i ∧ i ≤ 36)) (h2 : i ≠ 20) : insV V n p i = V i := by
  unfold insV setP
  rw [up_nf (by omega), up_nf (by omega), up_nf (by omega), up_nf (by omega), up_nf (by omega), up_nf (by omega), up_nf (by omega), adjV_no (by omega), up_nf (by omega), up_nf h2, shV_no h]
theorem ins_20 {V : VV} {n p j : Nat} (h : j ≠ 7) : insV V n p 20 j = V 20 j := by
  unfold insV setP
  rw [up_no (by omega), up_no (by omega), up_no (by omega), up_no (by omega), up_no (by omega), up_no (by omega), up_no (by omega), adjV_no (by omega), up_no (by omega), up_nk h, shV_no (by omega)]
theorem ins_207 {V : VV} {n p : Nat} : insV V n p 20 7 = nI (n + 1) := by
  unfold insV setP
  rw [up_no (by omega), up_no (by omega), up_no (by omega), up_no (by omega), up_no (by omega), up_no (by omega), up_no (by omega), adjV_no (by omega), up_no (by omega), up_ss]
/-- the shows before, with a new one at the place p -/
def insB (F : Nat → Nat → Int32) (f : Nat → Int32) (p k s : Nat) : Int32 := if s < p then F k s else if s = p then f k else F k (s - 1)
theorem ins_k {V : VV} {n p k s : Nat} (hk : k < 7) (hp : p ≤ n) (hs : s ≤ n) : insV V n p (29 + k) s = insB (CF V) (fun k => if k = 6 then 0 else V 5 k) p k s := by
  have hM : ∀ i, ¬ (29 ≤ i ∧ i ≤ 36) → i ≠ 20 → (adjV (up (up (shV V p n) 20 7 (nI (n + 1))) 36 p (V 5 6)) p (n + 1)) i = V i := fun i h1 h2 => by
    rw [adjV_no (by omega), up_nf (by omega), up_nf h2, shV_no h1]
  have hR : ∀ i, 29 ≤ i → i < 36 → (adjV (up (up (shV V p n) 20 7 (nI (n + 1))) 36 p (V 5 6)) p (n + 1)) i = shV V p n i := fun i h1 h2 => by
    rw [adjV_no (by omega), up_nf (by omega), up_nf (by omega)]
  unfold insV
  generalize (adjV (up (up (shV V p n) 20 7 (nI (n + 1))) 36 p (V 5 6)) p (n + 1)) = M at hM hR
  have h5 := hM 5 (by omega) (by omega)
  unfold insB CF
  by_cases hsp : s = p
  · subst hsp
    rw [if_neg (Nat.lt_irrefl s), if_pos rfl]
    unfold setP
    rw [h5]
    rcases (show k = 0 ∨ k = 1 ∨ k = 2 ∨ k = 3 ∨ k = 4 ∨ k = 5 ∨ k = 6 by omega) with rfl | rfl | rfl | rfl | rfl | rfl | rfl <;> simp [up]
  · have e : setP M p (29 + k) s = M (29 + k) s := by
      unfold setP
      have h : ∀ {W : VV} {a : Nat} {x : Int32}, up W a p x (29 + k) s = W (29 + k) s := fun {W a x} => by
        by_cases ha : 29 + k = a
        · subst ha; exact up_nk hsp
        · exact up_no ha
      rw [h, h, h, h, h, h, h]
    rw [e, hR _ (by omega) (by omega)]
    unfold shV
    by_cases hlt : s < p
    · rw [if_pos hlt, if_neg (by omega)]
    · rw [if_neg hlt, if_neg hsp, if_pos (by omega)]
def adj1 (p : Nat) (x : Int32) : Int32 := if nI p ≤ x then x + 1 else x
def dec1' (p : Nat) (x : Int32) : Int32 := if nI p < x then x - 1 else x
theorem ins_7 {V : VV} {n p s : Nat} (hp : p ≤ n) (hs : s ≤ n) : insV V n p 36 s = adj1 p (insB (CF V) (fun _ => V 5 6) p 7 s) := by
  have hb : (up (up (shV V p n) 20 7 (nI (n + 1))) 36 p (V 5 6)) 36 s = insB (CF V) (fun _ => V 5 6) p 7 s := by
    unfold insB CF
    by_cases hsp : s = p
    · subst hsp
      rw [up_ss, if_neg (Nat.lt_irrefl s), if_pos rfl]
    · rw [up_nk hsp, up_no (by omega), if_neg hsp]
      unfold shV
      by_cases hlt : s < p
      · rw [if_pos hlt, if_neg (by omega)]
      · rw [if_neg hlt, if_pos (by omega)]
  rw [← hb]
  unfold insV setP adj1
  rw [up_no (by omega), up_no (by omega), up_no (by omega), up_no (by omega), up_no (by omega), up_no (by omega), up_no (by omega)]
  generalize (up (up (shV V p n) 20 7 (nI (n + 1))) 36 p (V 5 6)) = W
  unfold adjV
  by_cases q : nI p ≤ W 36 s
  · rw [if_pos ⟨rfl, by omega, q⟩, if_pos q]
  · rw [if_neg (fun z => q z.2.2), if_neg q]
theorem del_nf {V : VV} {n p i : Nat} (h : ¬ (29 ≤ i ∧ i ≤ 36)) (h2 : i ≠ 20) : delV V n p i = V i := by
  unfold delV
  rw [dcV_no (by omega), up_nf h2, slV_no h]
theorem del_20 {V : VV} {n p j : Nat} (h : j ≠ 7) : delV V n p 20 j = V 20 j := by
  unfold delV
  rw [dcV_no (by omega), up_nk h, slV_no (by omega)]
theorem del_k {V : VV} {n p k s : Nat} (hk : k < 7) (hs : s < n) : delV V n p (29 + k) s = if s < p then V (29 + k) s else V (29 + k) (s + 1) := by
  unfold delV
  rw [dcV_no (by omega), up_no (by omega)]
  unfold slV
  by_cases hlt : s < p
  · rw [if_pos hlt, if_neg (by omega)]
  · rw [if_neg hlt, if_pos (by omega)]
theorem del_7 {V : VV} {n p s : Nat} (hs : s < n) : delV V n p 36 s = dec1' p (if s < p then V 36 s else V 36 (s + 1)) := by
  have hb : (up (slV V p n) 20 7 (nI n)) 36 s = if s < p then V 36 s else V 36 (s + 1) := by
    rw [up_no (by omega)]
    unfold slV
    by_cases hlt : s < p
    · rw [if_pos hlt, if_neg (by omega)]
    · rw [if_neg hlt, if_pos (by omega)]
  rw [← hb]
  unfold delV dec1'
  generalize (up (slV V p n) 20 7 (nI n)) = W
  unfold dcV
  by_cases q : nI p < W 36 s
  · rw [if_pos ⟨rfl, hs, q⟩, if_pos q]
  · rw [if_neg (fun z => q z.2.2), if_neg q]
/-- closing, group by group -/
def clN (n : Nat) (V : VV) : Nat → VV
  | 0 => V
  | g + 1 => cgV (clN n V g) g (wogS (CF (clN n V g)) (AF 6 (clN n V g)) ((clN n V g) 21 5) n (nI g))
theorem cgV_nf {V : VV} {g i : Nat} {w : Int32} (h : ¬ (23 ≤ i ∧ i ≤ 26)) : cgV V g w i = V i := by
  unfold cgV
  rw [up_nf (by omega), up_nf (by omega), up_nf (by omega), up_nf (by omega)]
theorem clN_nf {n : Nat} {V : VV} {i : Nat} (h : ¬ (23 ≤ i ∧ i ≤ 26)) : ∀ {g : Nat}, clN n V g i = V i
  | 0 => rfl
  | g + 1 => by rw [clN, cgV_nf h, clN_nf h]
/-- where the class puts the proposal -/
def plS (V : VV) (n : Nat) : Nat := cntN (befS (CF V) (V 5 2) (V 5 3)) n
/-- why the class refuses the proposal, of the group g, its original being o -/
def rfS (V : VV) (n g o : Nat) : Int32 := refS (CF V) (V 21) (V 22 g + V 23 g) n (V 5 0) (nI g) (V 5 2) (V 5 3) (V 5 4) (V 5 5) o
theorem rfS_lt {V : VV} {n g o : Nat} (hn : n ≤ 24) (h : rfS V n g o = 0) : n < 24 := by
  rcases Nat.lt_or_ge n 24 with q | q
  · exact q
  · have e : n = 24 := by omega
    unfold rfS refS at h
    rw [if_pos e] at h
    exact absurd h (by decide)
/-- entering a proposal: refused for R, or saved and put in -/
def EpR (V : VV) (L : LL) (N : NN) (I : List Nat) (o m n : Nat) (R : Int32) : PP := fun r1 V2 L2 N2 I2 =>
  if R = 0 then ∃ V1, SavP (up V 0 6 0) N o m V1 N2 ∧ V2 = insV V1 n (plS V1 n) ∧ r1 = .inl (some (aI (nI (plS V1 n)))) ∧ L2 = L ∧ IN N2 I2
  else r1 = .inr "java/lang/IllegalStateException" ∧ V2 = up V 0 6 R ∧ L2 = L ∧ N2 = N ∧ I2 = I
def kdB (x : Int32) : Int32 := if x = 0 then 1 else 0
theorem kdB_0 {x : Int32} (h : x = 0) : 1 = kdB x := (if_pos h).symm
theorem kdB_1 {x : Int32} (h : ¬ x = 0) : 0 = kdB x := (if_neg h).symm
/-- a repeat of o, its group and its length being told -/
def rpV (V : VV) (o : Nat) (d s : Int32) : VV := up (up (becomeV V 2 0 d s 0 0 (nI o)) 5 1 (V 30 o)) 5 4 (V 33 o)
/-- of a show that was read: its group and length told, if it is a repeat of a show that is there -/
def rrB (V : VV) (n : Nat) : Bool := decide (¬ V 5 6 < 0 ∧ V 5 6 < nI n)
def rrV (V : VV) (n : Nat) : VV := if V 5 0 = 2 ∧ rrB V n = true then up (up V 5 1 (V 30 (V 5 6).toNatClampNeg)) 5 4 (V 33 (V 5 6).toNatClampNeg) else V
def rrC (V : VV) (n : Nat) : Int32 :=
  if V 5 0 = 2 ∧ rrB V n = false then 20 else if rangeB (rrV V n 5 1) (rrV V n 5 2) (rrV V n 5 3) (rrV V n 5 4) (rrV V n 5 5) = true then rfS (rrV V n) n (rrV V n 5 1).toNatClampNeg (V 5 6).toNatClampNeg else 20
theorem rrV_nf {V : VV} {n i : Nat} (h : i ≠ 5) : rrV V n i = V i := by
  unfold rrV; split
  · rw [up_nf h, up_nf h]
  · rfl
theorem rrV_t {V : VV} {n : Nat} (h : V 5 0 = 2) (h2 : rrB V n = true) : rrV V n = up (up V 5 1 (V 30 (V 5 6).toNatClampNeg)) 5 4 (V 33 (V 5 6).toNatClampNeg) := if_pos ⟨h, h2⟩
theorem rrV_f {V : VV} {n : Nat} (h : ¬ V 5 0 = 2) : rrV V n = V := if_neg fun q => h q.1
theorem rrC_1 {V : VV} {n : Nat} (h : V 5 0 = 2) (h2 : rrB V n = false) : rrC V n = 20 := if_pos ⟨h, h2⟩
theorem rrC_2 {V : VV} {n : Nat} (h : ¬ (V 5 0 = 2 ∧ rrB V n = false)) (h2 : rangeB (rrV V n 5 1) (rrV V n 5 2) (rrV V n 5 3) (rrV V n 5 4) (rrV V n 5 5) = false) : rrC V n = 20 := by
  unfold rrC; rw [if_neg h, if_neg (by rw [h2]; decide)]
theorem rrC_3 {V : VV} {n : Nat} (h : ¬ (V 5 0 = 2 ∧ rrB V n = false)) (h2 : rangeB (rrV V n 5 1) (rrV V n 5 2) (rrV V n 5 3) (rrV V n 5 4) (rrV V n 5 5) = true) : rrC V n = rfS (rrV V n) n (rrV V n 5 1).toNatClampNeg (V 5 6).toNatClampNeg := by
  unfold rrC; rw [if_neg h, if_pos h2]
theorem range_g {g d st ln sp : Int32} (h : rangeB g d st ln sp = true) : ∃ k, k < 6 ∧ g = nI k := by
  unfold rangeB at h
  simp only [Bool.and_eq_true] at h
  exact win_of (k := 5) (by decide) h.1.1.1.1
