/-- nothing but what the reference makes anew at each call; thrown is th -/
def SmR (V V1 : VV) (th : Int32) : Prop := (∀ i j, ¬ (204 ≤ i ∧ i ≤ 209) → ¬ (i = 200 ∧ (j = 0 ∨ (12 ≤ j ∧ j ≤ 15))) → V1 i j = V i j) ∧ V1 200 0 = th
theorem SmR.l {V V1 V2 : VV} {th : Int32} (h : SmR V V1 th) (h2 : SmL V1 V2) : SmR V V2 th :=
  ⟨fun i j a b => (h2 i j (fun q => a ⟨by omega, by omega⟩) (fun q => b ⟨q.1, by omega⟩)).trans (h.1 i j a b), (h2 200 0 (by decide) (by omega)).trans h.2⟩
def showN (V : VV) (s w : Nat) : Int32 := if w < 8 then RF V w s else airR (RF V) (V 201) (w - 8) s
theorem showN_hi {V : VV} {s w : Nat} (k : Nat) (h : w = k + 8) : showN V s w = airR (RF V) (V 201) k s := by
  subst h; unfold showN; rw [if_neg (by omega), Nat.add_sub_cancel]
def alN (V : VV) (g : Nat) : Int32 := V 201 (8 + 5 * g + 0) + V 201 (8 + 5 * g + 1)
def grpN (V : VV) (n g w : Nat) : Int32 :=
  if w < 2 then V 201 (8 + 5 * g + w) else if w = 2 then alN V g else if w = 3 then wolS (RF V) (V 201 5) n (nI g) else if w = 4 then awS V n (nI g) else if w = 5 then cntS (RF V) 1 n (nI g) else V 201 (8 + 5 * g + (w - 4))
def cntV (V : VV) (n w : Nat) : Int32 :=
  if w = 0 then V 201 38 else if w = 1 then V 201 39 else if w = 2 then cntS (RF V) 0 n 0 else if w = 3 then cntS (RF V) 0 n 2 else if w = 4 then wkN V n 3 7 else if w = 5 then wkN V n 4 7 else if w = 6 then V 200 2 else wkN V n 2 7
theorem awS_sm {V V1 : VV} (h : V1 201 = V 201) {n : Nat} {g : Int32} : awS V1 n g = awS V n g := by unfold awS; rw [RF_z h, h]
