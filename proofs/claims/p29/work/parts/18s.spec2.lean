/-- what an airing holds, over its first id -/
def AF (b : Nat) (V : VV) : Nat → Nat → Int32 := fun k s => V (b + 1 + k) s
def drpB (A : Nat → Nat → Int32) (s : Nat) : Bool := decide (A 0 s = -1)
def dlyB (A : Nat → Nat → Int32) (s : Nat) : Bool := !drpB A s && decide (0 < A 2 s)
def fateS (A : Nat → Nat → Int32) (s : Nat) : Int32 := (if drpB A s = true then 2 else if dlyB A s = true then 1 else 0) + (if A 3 s = 0 then 0 else 4)
def wogS (F A : Nat → Nat → Int32) (sh : Int32) (n : Nat) (g : Int32) : Int32 := sumTo (fun s => if F 1 s = g then worthF sh (F 0 s) (A 1 s) else 0) n
def spS (F A : Nat → Nat → Int32) (n : Nat) (d h : Int32) : Int32 := sumTo (fun s => if F 2 s = d ∧ drpB A s = false then inHourF (A 0 s) (minF (F 5 s) (A 1 s)) h else 0) n
def partS (F A : Nat → Nat → Int32) (w s : Nat) : Int32 := if w = 0 then 1 else if w = 1 then F 4 s else if w = 2 then A 1 s else if w = 3 then b2i (dlyB A s) else if w = 4 then b2i (drpB A s) else if drpB A s = true then 0 else A 2 s
def hrsS (F A : Nat → Nat → Int32) (lim : Int32) (n : Nat) (d : Int32) : Int32 := sumTo (fun h => if lim < spS F A n d (nI h) then 1 else 0) 24
def dayS (F A : Nat → Nat → Int32) (lim : Int32) (n : Nat) (d w : Nat) : Int32 := if w = 6 then A 4 d else if w = 7 then hrsS F A lim n (nI d) else sumTo (fun s => if F 2 s = nI d then partS F A w s else 0) n
def wkS (F A : Nat → Nat → Int32) (n w : Nat) : Int32 := sumTo (partS F A w) n
def stS (F : Nat → Nat → Int32) (c : Int32) (s : Nat) : Int32 := maxF (F 3 s) c
def patS (F : Nat → Nat → Int32) (G : Nat → Int32) (s : Nat) : Int32 := if F 0 s = 0 then G 2 else G 3
def drB (F : Nat → Nat → Int32) (G : Nat → Int32) (c : Int32) (s : Nat) : Bool := decide (patS F G s < stS F c s - F 3 s) || decide (¬ 0 < G 1 - stS F c s)
def wantS (F : Nat → Nat → Int32) (s : Nat) (ov : Int32) : Int32 := maxF 1 (F 4 s + ov)
def minS (F : Nat → Nat → Int32) (G : Nat → Int32) (c : Int32) (s : Nat) (ov : Int32) : Int32 := minF (wantS F s ov) (G 1 - stS F c s)
def psV (b : Nat) (V : VV) (d s : Nat) (ov : Int32) : VV :=
  if drB (CF V) (V 21) (V (b + 5) d) s = true then up (up (up (up V (b + 3) s (stS (CF V) (V (b + 5) d) s - V 32 s)) (b + 1) s (-1)) (b + 2) s 0) (b + 4) s 0
  else up (up (up (up (up V (b + 3) s (stS (CF V) (V (b + 5) d) s - V 32 s)) (b + 1) s (stS (CF V) (V (b + 5) d) s)) (b + 2) s (minS (CF V) (V 21) (V (b + 5) d) s ov)) (b + 4) s (b2i (decide (V 21 1 - stS (CF V) (V (b + 5) d) s < wantS (CF V) s ov)))) (b + 5) d (stS (CF V) (V (b + 5) d) s + minS (CF V) (V 21) (V (b + 5) d) s ov)
theorem dr_1 {F : Nat → Nat → Int32} {G : Nat → Int32} {c : Int32} {s : Nat} (h : patS F G s < stS F c s - F 3 s) : drB F G c s = true := by simp [drB, h]
theorem dr_2 {F : Nat → Nat → Int32} {G : Nat → Int32} {c : Int32} {s : Nat} (h : ¬ 0 < G 1 - stS F c s) : drB F G c s = true := by simp only [drB, decide_eq_true h, Bool.or_true]
theorem dr_0 {F : Nat → Nat → Int32} {G : Nat → Int32} {c : Int32} {s : Nat} (h1 : ¬ patS F G s < stS F c s - F 3 s) (h : 0 < G 1 - stS F c s) : ¬ drB F G c s = true := by
  have h2 : ¬ ¬ 0 < G 1 - stS F c s := fun q => q h
  simp only [drB, decide_eq_false h1, decide_eq_false h2]; simp
/-- the clock of a day ahead of the show s, each show x with the overrun ov x -/
def clkS (F : Nat → Nat → Int32) (G : Nat → Int32) (ov : Nat → Int32) (d : Int32) : Nat → Int32
  | 0 => G 0
  | s + 1 => if F 2 s = d ∧ drB F G (clkS F G ov d s) s = false then stS F (clkS F G ov d s) s + minS F G (clkS F G ov d s) s (ov s) else clkS F G ov d s
/-- 0 when on air, 1 how long, 2 the delay, 3 cut, 4 (of a day) the clock behind its last show -/
def airS (F : Nat → Nat → Int32) (G : Nat → Int32) (ov : Nat → Int32) (n k s : Nat) : Int32 :=
  if k = 0 then (if drB F G (clkS F G ov (F 2 s) s) s = true then -1 else stS F (clkS F G ov (F 2 s) s) s)
  else if k = 1 then (if drB F G (clkS F G ov (F 2 s) s) s = true then 0 else minS F G (clkS F G ov (F 2 s) s) s (ov s))
  else if k = 2 then stS F (clkS F G ov (F 2 s) s) s - F 3 s
  else if k = 3 then (if drB F G (clkS F G ov (F 2 s) s) s = true then 0 else b2i (decide (G 1 - stS F (clkS F G ov (F 2 s) s) s < wantS F s (ov s))))
  else clkS F G ov (nI s) n
/-- nothing but the airing's rows -/
def SmA (b : Nat) (V V1 : VV) : Prop := ∀ i, ¬ (b < i ∧ i ≤ b + 5) → V1 i = V i
def AirI (b : Nat) (V V1 : VV) (ov : Nat → Int32) (i : Nat) : Prop := SmA b V V1 ∧ (∀ s, s < i → ∀ k, k < 4 → V1 (b + 1 + k) s = airS (CF V) (V 21) ov i k s) ∧ ∀ d, d < 7 → V1 (b + 5) d = clkS (CF V) (V 21) ov (nI d) i
theorem psV_sm {b : Nat} {V : VV} {d s : Nat} {ov : Int32} {i : Nat} (h : ¬ (b < i ∧ i ≤ b + 5)) : psV b V d s ov i = V i := by
  unfold psV
  split
  · rw [up_nf (by omega), up_nf (by omega), up_nf (by omega), up_nf (by omega)]
  · rw [up_nf (by omega), up_nf (by omega), up_nf (by omega), up_nf (by omega), up_nf (by omega)]
theorem airI_step {b : Nat} {V V1 : VV} {ov : Nat → Int32} {i d : Nat} (hb : b + 5 < 20) (hd : d < 7) (hday : V 31 i = nI d) (h : AirI b V V1 ov i) : AirI b V (psV b V1 d i (ov i)) ov (i + 1) := by
  obtain ⟨h1, h2, h3⟩ := h
  have e21 : V1 21 = V 21 := h1 21 (by omega)
  have eF : CF V1 = CF V := by
    funext k s
    show V1 (29 + k) s = V (29 + k) s
    rw [h1 (29 + k) (by omega)]
  have eday : CF V 2 i = nI d := hday
  have ec : V1 (b + 5) d = clkS (CF V) (V 21) ov (nI d) i := h3 d hd
  have e32 : V1 32 = V 32 := h1 32 (by omega)
  refine ⟨fun j hj => (psV_sm hj).trans (h1 j hj), ?_, ?_⟩
  · intro s hs k hk
    by_cases hsi : s = i
    · subst hsi
      unfold psV airS
      rw [eF, e21, ec, e32, eday]
      rcases (show k = 0 ∨ k = 1 ∨ k = 2 ∨ k = 3 by omega) with rfl | rfl | rfl | rfl
      · split <;> rename_i hdr <;> simp [up, hdr]
      · split <;> rename_i hdr <;> simp [up, hdr]
      · split <;> rename_i hdr <;> simp [up, hdr] <;> rfl
      · split <;> rename_i hdr <;> simp [up, hdr]
    · have hold := h2 s (by omega) k hk
      have : airS (CF V) (V 21) ov (i + 1) k s = airS (CF V) (V 21) ov i k s := by
        unfold airS
        rcases (show k = 0 ∨ k = 1 ∨ k = 2 ∨ k = 3 by omega) with rfl | rfl | rfl | rfl <;> simp
      rw [this, ← hold]
      unfold psV
      rcases (show k = 0 ∨ k = 1 ∨ k = 2 ∨ k = 3 by omega) with rfl | rfl | rfl | rfl <;> split <;> simp [up, hsi]
  · intro e he
    simp only [clkS]
    by_cases hed : e = d
    · subst hed
      unfold psV
      rw [eF, e21, ec, eday]
      split
      · rename_i hdr
        rw [if_neg (by rw [hdr]; simp)]
        simp [up, ec]
      · rename_i hdr
        rw [if_pos ⟨rfl, by simpa using hdr⟩]
        simp [up]
    · rw [if_neg (fun q => hed ((nI_eq (by omega) (by omega)).mp (eday.symm.trans q.1)).symm), ← h3 e he]
      unfold psV
      split <;> simp [up, hed]
