-- the reference's day on air
def LF (V : VV) : Nat → Nat → Int32 := fun k s => V (205 + k) s
def atR (F : Nat → Nat → Int32) (c : Int32) (s : Nat) : Int32 := if F 3 s ≤ c then c else F 3 s
def drR (F : Nat → Nat → Int32) (G : Nat → Int32) (c : Int32) (s : Nat) : Bool := decide (patS F G s < atR F c s - F 3 s) || decide (G 1 ≤ atR F c s)
def wantR (F : Nat → Nat → Int32) (s : Nat) : Int32 := if F 4 s + F 6 s < 1 then 1 else F 4 s + F 6 s
def cutR (F : Nat → Nat → Int32) (G : Nat → Int32) (c : Int32) (s : Nat) : Bool := decide (G 1 < atR F c s + wantR F s)
def forR (F : Nat → Nat → Int32) (G : Nat → Int32) (c : Int32) (s : Nat) : Int32 := if cutR F G c s = true then G 1 - atR F c s else wantR F s
def sttR (F : Nat → Nat → Int32) (G : Nat → Int32) (c : Int32) (s : Nat) : Int32 := b2i (decide (0 < atR F c s - F 3 s)) + (if cutR F G c s = true then 4 else 0)
def lsV (V : VV) (s : Nat) : VV :=
  if drR (RF V) (V 201) (V 200 12) s = true then up (up (up (up V 207 s (atR (RF V) (V 200 12) s - RF V 3 s)) 205 s (-1)) 206 s 0) 208 s 2
  else up (up (up (up (up (up (up (up V 207 s (atR (RF V) (V 200 12) s - RF V 3 s)) 205 s (-1)) 206 s 0) 208 s 2) 205 s (atR (RF V) (V 200 12) s)) 206 s (forR (RF V) (V 201) (V 200 12) s)) 208 s (sttR (RF V) (V 201) (V 200 12) s)) 200 12 (atR (RF V) (V 200 12) s + forR (RF V) (V 201) (V 200 12) s)
theorem dR_1 {F : Nat → Nat → Int32} {G : Nat → Int32} {c : Int32} {s : Nat} (h : patS F G s < atR F c s - F 3 s) : drR F G c s = true := by simp [drR, h]
theorem dR_2 {F : Nat → Nat → Int32} {G : Nat → Int32} {c : Int32} {s : Nat} (h : G 1 ≤ atR F c s) : drR F G c s = true := by simp [drR, h]
theorem dR_0 {F : Nat → Nat → Int32} {G : Nat → Int32} {c : Int32} {s : Nat} (h1 : ¬ patS F G s < atR F c s - F 3 s) (h : ¬ G 1 ≤ atR F c s) : ¬ drR F G c s = true := by
  simp only [drR, decide_eq_false h1, decide_eq_false h]; simp
def clkR (F : Nat → Nat → Int32) (G : Nat → Int32) (d : Int32) : Nat → Int32
  | 0 => G 0
  | s + 1 => if F 2 s = d ∧ drR F G (clkR F G d s) s = false then atR F (clkR F G d s) s + forR F G (clkR F G d s) s else clkR F G d s
/-- 0 when on air, 1 how long, 2 the delay, 3 the state -/
def airR (F : Nat → Nat → Int32) (G : Nat → Int32) (k s : Nat) : Int32 :=
  if k = 0 then (if drR F G (clkR F G (F 2 s) s) s = true then -1 else atR F (clkR F G (F 2 s) s) s)
  else if k = 1 then (if drR F G (clkR F G (F 2 s) s) s = true then 0 else forR F G (clkR F G (F 2 s) s) s)
  else if k = 2 then atR F (clkR F G (F 2 s) s) s - F 3 s
  else (if drR F G (clkR F G (F 2 s) s) s = true then 2 else sttR F G (clkR F G (F 2 s) s) s)
def SmL (V V1 : VV) : Prop := ∀ i j, ¬ (205 ≤ i ∧ i ≤ 208) → ¬ (i = 200 ∧ j = 12) → V1 i j = V i j
def LayI (V V1 : VV) (d : Int32) (i : Nat) : Prop := SmL V V1 ∧ V1 200 12 = clkR (RF V) (V 201) d i ∧ (∀ s, s < i → RF V 2 s = d → ∀ k, k < 4 → LF V1 k s = airR (RF V) (V 201) k s) ∧ ∀ s, i ≤ s ∨ ¬ RF V 2 s = d → ∀ k, k < 4 → LF V1 k s = LF V k s
theorem SmL.z {V V1 : VV} (h : SmL V V1) : V1 201 = V 201 := funext fun j => h 201 j (by decide) (by omega)
theorem SmL.f {V V1 : VV} (h : SmL V V1) : V1 204 = V 204 := funext fun j => h 204 j (by decide) (by omega)
theorem RF_z {V V1 : VV} (h : V1 201 = V 201) : RF V1 = RF V := by
  funext k s; unfold RF; rw [h]
theorem SmL.t {V V1 V2 : VV} (h : SmL V V1) (h2 : SmL V1 V2) : SmL V V2 := fun i j a b => (h2 i j a b).trans (h i j a b)
theorem lsV_sm {V : VV} {s : Nat} : SmL V (lsV V s) := by
  intro i j h1 h2
  unfold lsV
  split
  · rw [up_no (by omega), up_no (by omega), up_no (by omega), up_no (by omega)]
  · have h3 : ∀ {W : VV} {x : Int32}, up W 200 12 x i j = W i j := by
      intro W x
      unfold up
      by_cases hi : i = 200
      · rw [if_pos hi, if_neg (fun q => h2 ⟨hi, q⟩)]
      · rw [if_neg hi]
    rw [h3, up_no (by omega), up_no (by omega), up_no (by omega), up_no (by omega), up_no (by omega), up_no (by omega), up_no (by omega)]
theorem layI_step {V V1 : VV} {d : Int32} {i : Nat} (hd : RF V 2 i = d) (h : LayI V V1 d i) : LayI V (lsV V1 i) d (i + 1) := by
  obtain ⟨h1, h2, h3, h4⟩ := h
  have ez := h1.z
  have eF := RF_z ez
  refine ⟨h1.t lsV_sm, ?_, ?_, ?_⟩
  · unfold lsV
    simp only [clkR]
    rw [eF, ez, h2]
    split
    · rename_i hdr
      rw [if_neg (fun q => by rw [hdr] at q; simp at q)]
      simp [up, h2]
    · rename_i hdr
      rw [if_pos ⟨hd, by simpa using hdr⟩]
      simp [up]
  · intro s hs hsd k hk
    by_cases hsi : s = i
    · subst hsi
      unfold lsV airR LF
      rw [eF, ez, h2, hd]
      rcases (show k = 0 ∨ k = 1 ∨ k = 2 ∨ k = 3 by omega) with rfl | rfl | rfl | rfl <;> split <;> rename_i hdr <;> simp [up, hdr]
    · rw [← h3 s (by omega) hsd k hk]
      unfold lsV LF
      rcases (show k = 0 ∨ k = 1 ∨ k = 2 ∨ k = 3 by omega) with rfl | rfl | rfl | rfl <;> split <;> simp [up, hsi]
  · intro s hs k hk
    have hsi : s ≠ i := fun q => by
      rcases hs with q2 | q2
      · omega
      · exact q2 (q ▸ hd)
    rw [← h4 s (hs.imp (fun q => by omega) id) k hk]
    unfold lsV LF
    rcases (show k = 0 ∨ k = 1 ∨ k = 2 ∨ k = 3 by omega) with rfl | rfl | rfl | rfl <;> split <;> simp [up, hsi]
theorem layI_skip {V V1 : VV} {d : Int32} {i : Nat} (hd : ¬ RF V 2 i = d) (h : LayI V V1 d i) : LayI V V1 d (i + 1) := by
  obtain ⟨h1, h2, h3, h4⟩ := h
  refine ⟨h1, by rw [clkR, if_neg (fun q => hd q.1)]; exact h2, fun s hs hsd k hk => ?_, fun s hs k hk => ?_⟩
  · by_cases hsi : s = i
    · subst hsi; exact absurd hsd hd
    · exact h3 s (by omega) hsd k hk
  · by_cases hsi : s = i
    · subst hsi; exact h4 s (Or.inl (Nat.le_refl _)) k hk
    · exact h4 s (hs.imp (fun q => by omega) id) k hk
def airedR (F A : Nat → Nat → Int32) (n : Nat) (d h : Int32) : Int32 := sumTo (fun s => if F 2 s = d ∧ ¬ A 3 s = 2 then inHourR (A 0 s) (if F 5 s < A 1 s then F 5 s else A 1 s) h else 0) n
def partR (F A : Nat → Nat → Int32) (w s : Nat) : Int32 :=
  if w = 0 then 1 else if w = 1 then F 4 s else if w = 2 then A 1 s else if w = 3 then b2i (decide (¬ A 3 s = 2 ∧ 0 < A 2 s)) else if w = 4 then b2i (decide (A 3 s = 2)) else if w = 5 then (if A 3 s = 2 then 0 else A 2 s) else 0
def hrsR (F A : Nat → Nat → Int32) (lim : Int32) (n : Nat) (d : Int32) : Int32 := sumTo (fun h => if lim < airedR F A n d (nI h) then 1 else 0) 24
def dayR (F A : Nat → Nat → Int32) (c lim : Int32) (n : Nat) (d : Int32) (w : Nat) : Int32 :=
  if w = 6 then c else sumTo2 (if w = 7 then hrsR F A lim n d else 0) (fun s => if F 2 s = d then partR F A w s else 0) n
where sumTo2 (a : Int32) (f : Nat → Int32) : Nat → Int32
  | 0 => a
  | n + 1 => sumTo2 a f n + f n
theorem layI_0 {V : VV} {d : Int32} : LayI V (up V 200 12 (V 201 0)) d 0 := by
  refine ⟨fun i j _ h2 => ?_, by simp [up, clkR], fun s hs => absurd hs (Nat.not_lt_zero s), fun s _ k hk => ?_⟩
  · unfold up
    by_cases hi : i = 200
    · rw [if_pos hi, if_neg (fun q => h2 ⟨hi, q⟩)]
    · rw [if_neg hi]
  · unfold LF; rw [up_no (by omega)]
/-- the days below i are laid -/
def LayA (V V1 : VV) (n i : Nat) : Prop := SmL V V1 ∧ ∀ s, s < n → ∀ d, d < i → RF V 2 s = nI d → ∀ k, k < 4 → LF V1 k s = airR (RF V) (V 201) k s
theorem layA_0 {V : VV} {n : Nat} : LayA V V n 0 := ⟨fun _ _ _ _ => rfl, fun s _ d hd => absurd hd (Nat.not_lt_zero d)⟩
theorem layA_step {V V1 V2 : VV} {n i : Nat} (h : LayA V V1 n i) (h2 : LayI V1 V2 (nI i) n) : LayA V V2 n (i + 1) := by
  have ez := h.1.z
  have eF := RF_z ez
  refine ⟨h.1.t h2.1, fun s hs d hd hsd k hk => ?_⟩
  by_cases hdi : RF V 2 s = nI i
  · have := h2.2.2.1 s hs (by rw [eF]; exact hdi) k hk
    rw [this, eF, ez]
  · rw [h2.2.2.2 s (Or.inr (by rw [eF]; exact hdi)) k hk]
    refine h.2 s hs d ?_ hsd k hk
    by_cases q : d = i
    · subst q; exact absurd hsd hdi
    · omega
theorem pR_d {F A : Nat → Nat → Int32} {w s : Nat} (h : 5 < w) : 0 = partR F A w s := by
  simp [partR, show ¬ w = 0 by omega, show ¬ w = 1 by omega, show ¬ w = 2 by omega, show ¬ w = 3 by omega, show ¬ w = 4 by omega, show ¬ w = 5 by omega]
theorem pR_3t {F A : Nat → Nat → Int32} {s : Nat} (h : ¬ A 3 s = 2 ∧ 0 < A 2 s) : 1 = partR F A 3 s := by simp [partR, b2i, h]
theorem pR_3f {F A : Nat → Nat → Int32} {s : Nat} (h : ¬ (¬ A 3 s = 2 ∧ 0 < A 2 s)) : 0 = partR F A 3 s := by
  show 0 = b2i (decide (¬ A 3 s = 2 ∧ 0 < A 2 s))
  exact (b2i_cn h).symm
theorem pR_4t {F A : Nat → Nat → Int32} {s : Nat} (h : A 3 s = 2) : 1 = partR F A 4 s := by simp [partR, b2i, h]
theorem pR_4f {F A : Nat → Nat → Int32} {s : Nat} (h : ¬ A 3 s = 2) : 0 = partR F A 4 s := by simp [partR, b2i, h]
theorem pR_5t {F A : Nat → Nat → Int32} {s : Nat} (h : A 3 s = 2) : 0 = partR F A 5 s := by simp [partR, h]
theorem pR_5f {F A : Nat → Nat → Int32} {s : Nat} (h : ¬ A 3 s = 2) : A 2 s = partR F A 5 s := by simp [partR, h]
