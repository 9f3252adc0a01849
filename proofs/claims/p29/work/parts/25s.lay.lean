def LF (V : VV) : Nat → Nat → Int32 := fun k s => V (205 + k) s
def atR (F : Nat → Nat → Int32) (c : Int32) (s : Nat) : Int32 := if F 3 s ≤ c then c else F 3 s
def drR (F : Nat → Nat → Int32) (G : Nat → Int32) (c : Int32) (s : Nat) : Bool := decide (patS F G s < atR F c s - F 3 s) || decide (G 1 ≤ atR F c s)
def wantR (F : Nat → Nat → Int32) (s : Nat) : Int32 := if F 4 s + F 6 s < 1 then 1 else F 4 s + F 6 s
def cutR (F : Nat → Nat → Int32) (G : Nat → Int32) (c : Int32) (s : Nat) : Bool := decide (G 1 < atR F c s + wantR F s)
def forR (F : Nat → Nat → Int32) (G : Nat → Int32) (c : Int32) (s : Nat) : Int32 := if cutR F G c s = true then G 1 - atR F c s else wantR F s
def sttR (F : Nat → Nat → Int32) (G : Nat → Int32) (c : Int32) (s : Nat) : Int32 := b2i (decide (0 < atR F c s - F 3 s)) + (if cutR F G c s = true then 4 else 0)
def clkR (F : Nat → Nat → Int32) (G : Nat → Int32) (d : Int32) : Nat → Int32
  | 0 => G 0
  | s + 1 => if F 2 s = d ∧ drR F G (clkR F G d s) s = false then atR F (clkR F G d s) s + forR F G (clkR F G d s) s else clkR F G d s
/-- 0 when on air, 1 how long, 2 the delay, 3 the state -/
def airR (F : Nat → Nat → Int32) (G : Nat → Int32) (k s : Nat) : Int32 :=
  if k = 0 then (if drR F G (clkR F G (F 2 s) s) s = true then -1 else atR F (clkR F G (F 2 s) s) s)
  else if k = 1 then (if drR F G (clkR F G (F 2 s) s) s = true then 0 else forR F G (clkR F G (F 2 s) s) s)
  else if k = 2 then atR F (clkR F G (F 2 s) s) s - F 3 s
  else (if drR F G (clkR F G (F 2 s) s) s = true then 2 else sttR F G (clkR F G (F 2 s) s) s)
def SmL (V V1 : VV) : Prop := ∀ i j, ¬ (205 ≤ i ∧ i ≤ 208) → ¬ (i = 200 ∧ j = 12) → V1 i j = V i j
def LayI (V V1 : VV) (d : Int32) (i : Nat) : Prop := SmL V V1 ∧ V1 200 12 = clkR (RF V) (V 201) d i ∧ (∀ s, s < i → RF V 2 s = d → ∀ k, k < 4 → LF V1 k s = airR (RF V) (V 201) k s) ∧ ∀ s, i ≤ s ∨ ¬ RF V 2 s = d → ∀ k, k < 4 → LF V1 k s = LF V k s
theorem RF_z {V V1 : VV} (h : V1 201 = V 201) : RF V1 = RF V := by
  funext k s; unfold RF; rw [h]
def airedR (F A : Nat → Nat → Int32) (n : Nat) (d h : Int32) : Int32 := sumTo (fun s => if F 2 s = d ∧ ¬ A 3 s = 2 then inHourR (A 0 s) (if F 5 s < A 1 s then F 5 s else A 1 s) h else 0) n
def partR (F A : Nat → Nat → Int32) (w s : Nat) : Int32 :=
  if w = 0 then 1 else if w = 1 then F 4 s else if w = 2 then A 1 s else if w = 3 then b2i (decide (¬ A 3 s = 2 ∧ 0 < A 2 s)) else if w = 4 then b2i (decide (A 3 s = 2)) else if w = 5 then (if A 3 s = 2 then 0 else A 2 s) else 0
def hrsR (F A : Nat → Nat → Int32) (lim : Int32) (n : Nat) (d : Int32) : Int32 := sumTo (fun h => if lim < airedR F A n d (nI h) then 1 else 0) 24
def dayR (F A : Nat → Nat → Int32) (c lim : Int32) (n : Nat) (d : Int32) (w : Nat) : Int32 :=
  if w = 6 then c else sumTo2 (if w = 7 then hrsR F A lim n d else 0) (fun s => if F 2 s = d then partR F A w s else 0) n
where sumTo2 (a : Int32) (f : Nat → Int32) : Nat → Int32
  | 0 => a
  | n + 1 => sumTo2 a f n + f n
theorem pR_d {F A : Nat → Nat → Int32} {w s : Nat} (h : 5 < w) : 0 = partR F A w s := by
  simp [partR, show ¬ w = 0 by omega, show ¬ w = 1 by omega, show ¬ w = 2 by omega, show ¬ w = 3 by omega, show ¬ w = 4 by omega, show ¬ w = 5 by omega]
