theorem airedR_congr {F A B : Nat → Nat → Int32} {n : Nat} {d h : Int32} (hA : ∀ s, s < n → F 2 s = d → ∀ k, k < 4 → A k s = B k s) : airedR F A n d h = airedR F B n d h := by
  refine sumTo_congr fun s hs => ?_
  by_cases hd : F 2 s = d
  · rw [hA s hs hd 3 (by decide), hA s hs hd 0 (by decide), hA s hs hd 1 (by decide)]
  · rw [if_neg (fun q => hd q.1), if_neg (fun q => hd q.1)]
theorem hrsR_congr {F A B : Nat → Nat → Int32} {lim : Int32} {n : Nat} {d : Int32} (hA : ∀ s, s < n → F 2 s = d → ∀ k, k < 4 → A k s = B k s) : hrsR F A lim n d = hrsR F B lim n d :=
  sumTo_congr fun h _ => by rw [airedR_congr hA]
theorem partR_congr {F A B : Nat → Nat → Int32} {w s : Nat} (hA : ∀ k, k < 4 → A k s = B k s) : partR F A w s = partR F B w s := by
  unfold partR
  rw [hA 1 (by decide), hA 2 (by decide), hA 3 (by decide)]
theorem sumTo2_congr {a : Int32} {f g : Nat → Int32} : ∀ {n : Nat}, (∀ s, s < n → f s = g s) → dayR.sumTo2 a f n = dayR.sumTo2 a g n
  | 0, _ => rfl
  | n + 1, h => by rw [dayR.sumTo2, dayR.sumTo2, sumTo2_congr (fun s hs => h s (by omega)), h n (by omega)]
theorem dayR_congr {F A B : Nat → Nat → Int32} {c lim : Int32} {n : Nat} {d : Int32} {w : Nat} (hA : ∀ s, s < n → F 2 s = d → ∀ k, k < 4 → A k s = B k s) : dayR F A c lim n d w = dayR F B c lim n d w := by
  unfold dayR
  rw [hrsR_congr hA]
  split
  · rfl
  · refine sumTo2_congr fun s hs => ?_
    by_cases hd : F 2 s = d
    · rw [if_pos hd, if_pos hd, partR_congr (hA s hs hd)]
    · rw [if_neg hd, if_neg hd]
/-- a property of a day, out of the plan alone -/
def dN (V : VV) (n : Nat) (d : Int32) (w : Nat) : Int32 := dayR (RF V) (airR (RF V) (V 201)) (clkR (RF V) (V 201) d n) (V 201 6) n d w
theorem dN_of {V V1 : VV} {n : Nat} {d : Int32} {w : Nat} (h : LayI V V1 d n) : dayR (RF V1) (LF V1) (V1 200 12) (V1 201 6) n d w = dN V n d w := by
  have ez := h.1.z
  unfold dN
  rw [RF_z ez, ez, h.2.1]
  exact dayR_congr h.2.2.1
theorem dN_sm {V V1 : VV} (h : V1 201 = V 201) {n : Nat} {d : Int32} {w : Nat} : dN V1 n d w = dN V n d w := by
  unfold dN; rw [RF_z h, h]
def spN (V : VV) (n : Nat) (d h : Int32) : Int32 := airedR (RF V) (airR (RF V) (V 201)) n d h
theorem spN_of {V V1 : VV} {n : Nat} {d h : Int32} (hl : LayI V V1 d n) : airedR (RF V1) (LF V1) n d h = spN V n d h := by
  unfold spN; rw [RF_z hl.1.z]; exact airedR_congr hl.2.2.1
def wkN (V : VV) (n w : Nat) : Nat → Int32 := sumTo (fun d => dN V n (nI d) w)
def awS (V : VV) (n : Nat) (g : Int32) : Int32 := sumTo (fun s => if RF V 1 s = g then worthF (V 201 5) (RF V 0 s) (airR (RF V) (V 201) 1 s) else 0) n
theorem nI_wne {w : Nat} (h : ¬ w = 7) (hw : w < 8) : ¬ nI w = 7 := fun q => h ((nI_eq (b := 7) (by omega) (by decide)).mp q)
