def whyN (V : VV) (n g : Nat) (d st ln : Int32) : Int32 := refR (RF V) (V 201) (alN V g) n 1 (nI g) d st ln 0 0
/-- the first start, a multiple of 5 from 5 i on, that isn't refused -/
def fotN (V : VV) (n g : Nat) (d ln : Int32) : Nat → Nat → Int32
  | 0, _ => -1
  | k + 1, i => if 0 < whyN V n g d (nI (5 * i)) ln then fotN V n g d ln k (i + 1) else nI (5 * i)
def rfoN (V : VV) (n g o : Nat) (d st : Int32) : Int32 := refR (RF V) (V 201) (alN V g) n 2 (nI g) d st (RF V 4 o) 0 o
def repN (V : VV) (n g o : Nat) : Nat → Nat → Int32
  | 0, _ => -1
  | k + 1, i => if rfoN V n g o (nI (5 * i / 1440)) (nI (5 * i % 1440)) = 0 then nI (5 * i) else repN V n g o k (i + 1)
/-- one show with another overrun -/
def ovR (V : VV) (s : Nat) (v : Int32) : VV := up V 201 (40 + 8 * s + 6) v
def mosN (V : VV) (n s : Nat) : Nat → Int32 → Int32
  | 0, _ => -101
  | k + 1, b => if dN (ovR V s b) n (RF V 2 s) 4 - b2i (decide (airR (RF (ovR V s b)) ((ovR V s b) 201) 3 s = 2)) = 0 then b else mosN V n s k (b - 1)
theorem SmR.tr {V V1 V2 : VV} {th th2 : Int32} (h : SmR V V1 th) (h2 : SmR V1 V2 th2) : SmR V V2 th2 :=
  ⟨fun i j a b => (h2.1 i j a b).trans (h.1 i j a b), h2.2⟩
theorem smR_th {V V1 : VV} {th th2 : Int32} (h : SmR V V1 th) (e : th = th2) : SmR V V1 th2 := e ▸ h
/-- the same but the rows of a day's laying and what is fresh, thrown too the same -/
def SmF (V V1 : VV) : Prop := ∀ i j, ¬ (204 ≤ i ∧ i ≤ 208) → ¬ (i = 200 ∧ j = 12) → V1 i j = V i j
theorem SmF.t {V V1 V2 : VV} (h : SmF V V1) (h2 : SmF V1 V2) : SmF V V2 := fun i j a b => (h2 i j a b).trans (h i j a b)
theorem SmF.z {V V1 : VV} (h : SmF V V1) : V1 201 = V 201 := funext fun j => h 201 j (by decide) (by omega)
theorem SmL.sf {V V1 : VV} (h : SmL V V1) : SmF V V1 := fun i j a b => h i j (fun q => a ⟨by omega, by omega⟩) b
theorem smF_tp {V : VV} {k g d s l sp o : Int32} : SmF V (tapeV V k g d s l sp o) := by
  intro i j a b
  unfold tapeV
  rw [up_no (by omega), up_no (by omega), up_no (by omega), up_no (by omega), up_no (by omega), up_no (by omega), up_no (by omega), up_no (by omega)]
theorem SmR.f {V V1 V2 : VV} {th : Int32} (h : SmR V V1 th) (h2 : SmF V1 V2) : SmR V V2 th :=
  ⟨fun i j a b => (h2 i j (fun q => a ⟨by omega, by omega⟩) (fun q => b ⟨q.1, by omega⟩)).trans (h.1 i j a b), (h2 200 0 (by decide) (by omega)).trans h.2⟩
theorem whyN_sm {V V1 : VV} (h : V1 201 = V 201) {n g : Nat} {d st ln : Int32} : whyN V1 n g d st ln = whyN V n g d st ln := by unfold whyN alN; rw [RF_z h, h]
theorem rfoN_sm {V V1 : VV} (h : V1 201 = V 201) {n g o : Nat} {d st : Int32} : rfoN V1 n g o d st = rfoN V n g o d st := by unfold rfoN alN; rw [RF_z h, h]
theorem ovR_back {V V1 : VV} {s : Nat} {b : Int32} (h : SmL (ovR V s b) V1) : SmL V (up V1 201 (40 + 8 * s + 6) (V 201 (40 + 8 * s + 6))) := by
  intro i j h1 h2
  dsimp only [up]
  by_cases hi : i = 201
  · subst hi
    by_cases hj : j = 40 + 8 * s + 6
    · subst hj; rw [if_pos rfl, if_pos rfl]
    · rw [if_pos rfl, if_neg hj, h 201 j h1 h2]; unfold ovR; rw [up_nk hj]
  · rw [if_neg hi, h i j h1 h2]; unfold ovR; rw [up_no hi]
theorem RF_ov {V : VV} {s k t : Nat} {b : Int32} (hk : k < 8) (h : ¬ (k = 6 ∧ t = s)) : RF (ovR V s b) k t = RF V k t := by
  unfold RF ovR
  rw [up_nk (by omega)]
theorem pos_ne {x : Int32} (h : 0 < x) : ¬ x = 0 := fun q => by rw [q] at h; exact absurd h (by decide)
theorem fotN_sm {V V1 : VV} (h : V1 201 = V 201) {n g : Nat} {d ln : Int32} : ∀ {k i : Nat}, fotN V1 n g d ln k i = fotN V n g d ln k i
  | 0, _ => rfl
  | k + 1, i => by rw [fotN, fotN, whyN_sm h, fotN_sm h]
theorem repN_sm {V V1 : VV} (h : V1 201 = V 201) {n g o : Nat} : ∀ {k i : Nat}, repN V1 n g o k i = repN V n g o k i
  | 0, _ => rfl
  | k + 1, i => by rw [repN, repN, rfoN_sm h, repN_sm h]
theorem rfo_of {V V1 : VV} (h : V1 201 = V 201) {n g o : Nat} {d st : Int32} : refR (RF (tapeV V1 2 (RF V1 1 o) d st (RF V1 4 o) 0 (nI o))) (V1 201) (V1 201 (8 + 5 * g + 0) + V1 201 (8 + 5 * g + 1)) n 2 (nI g) d st (RF V1 4 o) 0 o = rfoN V n g o d st := by
  rw [← rfoN_sm h]; rfl
