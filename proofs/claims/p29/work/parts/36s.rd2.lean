def whyN (V : VV) (n g : Nat) (d st ln : Int32) : Int32 := refR (RF V) (V 201) (alN V g) n 1 (nI g) d st ln 0 0
/-- the first start, a multiple of 5 from 5 i on, that isn't refused -/
def fotN (V : VV) (n g : Nat) (d ln : Int32) : Nat → Nat → Int32
  | 0, _ => -1
  | k + 1, i => if 0 < whyN V n g d (nI (5 * i)) ln then fotN V n g d ln k (i + 1) else nI (5 * i)
def rfoN (V : VV) (n g o : Nat) (d st : Int32) : Int32 := refR (RF V) (V 201) (alN V g) n 2 (nI g) d st (RF V 4 o) 0 o
def repN (V : VV) (n g o : Nat) : Nat → Nat → Int32
  | 0, _ => -1
  | k + 1, i => if rfoN V n g o (nI (5 * i / 1440)) (nI (5 * i % 1440)) = 0 then nI (5 * i) else repN V n g o k (i + 1)
/-- one show with another overrun -/
def ovR (V : VV) (s : Nat) (v : Int32) : VV := up V 201 (40 + 8 * s + 6) v
theorem whyN_sm {V V1 : VV} (h : V1 201 = V 201) {n g : Nat} {d st ln : Int32} : whyN V1 n g d st ln = whyN V n g d st ln := by unfold whyN alN; rw [RF_z h, h]
theorem RF_ov {V : VV} {s k t : Nat} {b : Int32} (hk : k < 8) (h : ¬ (k = 6 ∧ t = s)) : RF (ovR V s b) k t = RF V k t := by
  unfold RF ovR
  rw [up_nk (by omega)]
theorem fotN_sm {V V1 : VV} (h : V1 201 = V 201) {n g : Nat} {d ln : Int32} : ∀ {k i : Nat}, fotN V1 n g d ln k i = fotN V n g d ln k i
  | 0, _ => rfl
  | k + 1, i => by rw [fotN, fotN, whyN_sm h, fotN_sm h]
