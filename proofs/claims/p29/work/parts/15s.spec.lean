section
variable {E : EE} {pc : Nat} {ls : zLS} {st : List AV} {V : VV} {L : LL} {N : NN} {I : List Nat} {a b : Nat}
/-- a local that isn't read any more -/
theorem x_fgt (j : Nat) (K : Wx E pc (ls.set j none) st V L N I a b) : Wx E pc ls st V L N I a b := by
  intro ad H locs lsa hP hD hS hA hl
  refine K ad H locs lsa hP hD hS hA ⟨hl.1, hl.2.1, fun k v hk => hl.2.2 k v ?_⟩
  by_cases hkj : k = j
  · subst hkj
    have hlt := (List.getElem?_eq_some_iff.mp hk).1
    rw [List.getElem?_set_self (by simpa using hlt)] at hk
    cases hk
  · rwa [List.getElem?_set_ne (Ne.symm hkj)] at hk
end
theorem wi_t {v lo hi : Int32} (h1 : ¬ v < lo) (h2 : ¬ hi < v) : (1 : Int32) = b2i (withinB v lo hi) := by
  have h3 := Int32.not_lt.mp h1
  have h4 := Int32.not_lt.mp h2
  simp [b2i, withinB, h3, h4]
theorem wi_f1 {v lo hi : Int32} (h1 : v < lo) : (0 : Int32) = b2i (withinB v lo hi) := by
  have h3 := Int32.not_le.mpr h1
  simp [b2i, withinB, h3]
theorem wi_f2 {v lo hi : Int32} (h1 : hi < v) : (0 : Int32) = b2i (withinB v lo hi) := by
  have h3 := Int32.not_le.mpr h1
  simp [b2i, withinB, h3]
/-- what is computed, over a view F of the shows (F k s: the number k of the show s) -/
def CF (V : VV) : Nat → Nat → Int32 := fun k s => V (29 + k) s
def wolS (F : Nat → Nat → Int32) (sh : Int32) (n : Nat) (g : Int32) : Int32 := sumTo (fun s => if F 1 s = g then worthF sh (F 0 s) (F 4 s) else 0) n
def cntS (F : Nat → Nat → Int32) (k n : Nat) (g : Int32) : Int32 := sumTo (fun s => if F k s = g then 1 else 0) n
def planS (F : Nat → Nat → Int32) (n : Nat) (d h : Int32) : Int32 := sumTo (fun s => if F 2 s = d then inHourF (F 3 s) (F 5 s) h else 0) n
def hitS (F : Nat → Nat → Int32) (d st ln : Int32) (s : Nat) : Bool := decide (F 2 s = d) && decide (F 3 s < st + ln) && decide (st < F 3 s + F 4 s)
/-- the first of k from i on -/
def fstF (p : Nat → Bool) : Nat → Nat → Option Nat
  | 0, _ => none
  | k + 1, i => if p i = true then some i else fstF p k (i + 1)
def o2i (o : Option Nat) : Int32 := match o with
  | some i => nI i
  | none => -1
def earlS (F : Nat → Nat → Int32) (gap : Int32) (o : Nat) : Int32 := 1440 * F 2 o + F 3 o + F 4 o + 60 * gap
def exP (F : Nat → Nat → Int32) (lim : Int32) (n : Nat) (d st sp : Int32) (h : Nat) : Bool := decide (lim < planS F n d (nI h) + inHourF st sp (nI h))
def exS (F : Nat → Nat → Int32) (lim : Int32) (n : Nat) (d st sp : Int32) : Bool := (fstF (exP F lim n d st sp) 24 0).isSome
def nextF (t : Int32) : Int32 := (t + 5 - 1) / 5 * 5
/-- from a start on, past the shows in the way -/
def ffF (F : Nat → Nat → Int32) (close : Int32) (n : Nat) (d ln : Int32) : Nat → Int32 → Int32
  | 0, _ => -1
  | k + 1, st => if close < st + ln then -1 else match fstF (hitS F d st ln) n 0 with
    | none => st
    | some o => ffF F close n d ln k (nextF (F 3 o + F 4 o))
def tapeT (F : Nat → Nat → Int32) (G : Nat → Int32) (al : Int32) (n : Nat) (g d ln : Int32) : Int32 :=
  if n = 24 ∨ al < wolS F (G 5) n g + ln ∨ exS F (G 6) n d 0 0 = true then -1 else ffF F (G 1) n d ln (n + 1) (nextF (maxF 0 (G 0)))
def repP (F : Nat → Nat → Int32) (G : Nat → Int32) (n o d : Nat) : Int32 := ffF F (G 1) n (nI d) (F 4 o) (n + 1) (nextF (maxF (earlS F (G 4) o - 1440 * nI d) (G 0)))
def repD (F : Nat → Nat → Int32) (G : Nat → Int32) (n o : Nat) : Nat → Nat → Int32
  | 0, _ => -1
  | k + 1, d => if repP F G n o d ≠ -1 ∧ exS F (G 6) n (nI d) 0 0 = false then 1440 * nI d + repP F G n o d else repD F G n o k (d + 1)
def repT (F : Nat → Nat → Int32) (G : Nat → Int32) (al : Int32) (n o : Nat) : Int32 :=
  if n = 24 ∨ F 0 o = 2 ∨ al < wolS F (G 5) n (F 1 o) + worthF (G 5) 2 (F 4 o) then -1 else repD F G n o 7 0
def refS (F : Nat → Nat → Int32) (G : Nat → Int32) (al : Int32) (n : Nat) (kd g d st ln sp : Int32) (o : Nat) : Int32 :=
  if n = 24 then 1 else if kd = 2 ∧ F 0 o = 2 then 2 else if st < G 0 ∨ G 1 < st + ln then 3 else if (fstF (hitS F d st ln) n 0).isSome = true then 4
  else if kd = 2 ∧ 1440 * d + st < earlS F (G 4) o then 5 else if al < wolS F (G 5) n g + worthF (G 5) kd ln then 6 else if exS F (G 6) n d st sp = true then 7 else 0
def befS (F : Nat → Nat → Int32) (d st : Int32) (s : Nat) : Bool := decide (F 2 s < d) || (decide (F 2 s = d) && decide (F 3 s < st))
def cntN (p : Nat → Bool) : Nat → Nat
  | 0 => 0
  | n + 1 => if p n = true then cntN p n + 1 else cntN p n
theorem cntN_le (p : Nat → Bool) : ∀ n, cntN p n ≤ n
  | 0 => Nat.le_refl 0
  | n + 1 => by
    have := cntN_le p n
    simp only [cntN]; split <;> omega
theorem fstF_lt {p : Nat → Bool} : ∀ {k i o : Nat}, fstF p k i = some o → i ≤ o ∧ o < i + k ∧ p o = true
  | 0, i, o, h => by simp [fstF] at h
  | k + 1, i, o, h => by
    simp only [fstF] at h
    split at h
    · cases h; rename_i hp; exact ⟨Nat.le_refl _, by omega, hp⟩
    · obtain ⟨h1, h2, h3⟩ := fstF_lt h; exact ⟨by omega, by omega, h3⟩
def rangeB (g d st ln sp : Int32) : Bool := withinB g 0 5 && withinB d 0 6 && withinB st 0 1439 && withinB ln 5 240 && withinB sp 0 (minF 30 ln)
theorem o2i_some {x : Option Nat} (h : ¬ o2i x = -1) : ∃ o, o2i x = nI o ∧ x = some o := by
  cases x with
  | none => exact absurd rfl h
  | some o => exact ⟨o, rfl, rfl⟩
theorem nI_m1 {o : Nat} (ho : o < 2 ^ 31) : ¬ nI o = -1 := fun h => by
  have h1 := congrArg Int32.toInt h
  rw [nI_toInt ho] at h1
  have : (-1 : Int32).toInt = -1 := by decide
  omega
theorem o2i_none {p : Nat → Bool} {k i : Nat} (hk : i + k < 2 ^ 31) (h : o2i (fstF p k i) = -1) : fstF p k i = none := by
  cases hx : fstF p k i with
  | none => rfl
  | some o => rw [hx] at h; exact absurd h (nI_m1 (by have := (fstF_lt hx).2.1; omega))
theorem hit_1 {F : Nat → Nat → Int32} {d st ln : Int32} {s : Nat} (h : ¬ F 2 s = d) : ¬ hitS F d st ln s = true := by simp [hitS, h]
theorem hit_2 {F : Nat → Nat → Int32} {d st ln : Int32} {s : Nat} (h : st + ln ≤ F 3 s) : ¬ hitS F d st ln s = true := by
  have := Int32.not_lt.mpr h
  simp [hitS, this]
theorem hit_3 {F : Nat → Nat → Int32} {d st ln : Int32} {s : Nat} (h : F 3 s + F 4 s ≤ st) : ¬ hitS F d st ln s = true := by
  have := Int32.not_lt.mpr h
  simp [hitS, this]
theorem hit_0 {F : Nat → Nat → Int32} {d st ln : Int32} {s : Nat} (h : F 2 s = d) (h2 : ¬ st + ln ≤ F 3 s) (h3 : ¬ F 3 s + F 4 s ≤ st) : hitS F d st ln s = true := by
  have h4 := Int32.not_le.mp h2
  have h5 := Int32.not_le.mp h3
  simp [hitS, h, h4, h5]
section
variable {E : EE} {own : String} {cc : ByteArray} {ret : Option FieldType} {nL D MC MS pc : Nat} {ls : zLS} {st : List AV} {V : VV} {L : LL} {N : NN} {I : List Nat} {a b : Nat}
theorem x_tableInN (C : OK E own cc nL ret D MC MS) {dflt lo hi : Int} {offs : Array Int} {len c : Nat} {off : Int} {tgt : Nat} (d : decode cc pc = .ok (.tableswitch dflt lo hi offs, len)) (hc : c < 2 ^ 31) (h1 : lo ≤ (c : Int)) (h2 : (c : Int) ≤ hi) (ho : offs[((c : Int) - lo).toNat]? = some off) (ht : (pc : Int) + off = (tgt : Int)) (K : Wx E tgt ls st V L N I a b) : Wx E pc ls (aI (nI c) :: st) V L N I a b :=
  x_tableIn C d (by rw [nI_toInt hc]; omega) (by rw [nI_toInt hc]; omega) (by rw [nI_toInt hc]; exact ho) ht K
end
/-- the slot ahead of k holds no long -/
def kl (ls : zLS) : Nat → Bool
  | 0 => true
  | j + 1 => match ls[j]? with
    | some (some v) => !isW v
    | _ => true
theorem st1_set {ls : zLS} {k : Nat} {v : AV} (h : kl ls k = true) : st1 ls k v = ls.set k (some v) := by
  unfold st1
  refine congrArg (fun l => List.set l k (some v)) ?_
  cases k with
  | zero => rfl
  | succ j =>
    simp only [kl] at h
    simp only [killL]
    split
    · rename_i w hw
      rw [hw] at h
      simp only [Bool.not_eq_true'] at h
      rw [h]; rfl
    · rfl
section
variable {E : EE} {own : String} {cc : ByteArray} {ret : Option FieldType} {nL D MC MS pc : Nat} {ls : zLS} {st : List AV} {V : VV} {L : LL} {N : NN} {I : List Nat} {a b : Nat}
theorem y_istore_n (C : OK E own cc nL ret D MC MS) {k : Fin 4} {x : Int32} (d : decode cc pc = .ok (.istore_n k, 1)) (hn : (k : Nat) < nL) (hk : kl ls (k : Nat) = true) (K : Wx E (pc + 1) (ls.set (k : Nat) (some (aI x))) st V L N I a b) : Wx E pc ls (aI x :: st) V L N I a b := x_istore_n C d hn (by rw [st1_set hk]; exact K)
theorem y_istore (C : OK E own cc nL ret D MC MS) {k : Nat} {x : Int32} (d : decode cc pc = .ok (.istore k, 2)) (hn : k < nL) (hk : kl ls k = true) (K : Wx E (pc + 2) (ls.set k (some (aI x))) st V L N I a b) : Wx E pc ls (aI x :: st) V L N I a b := x_istore C d hn (by rw [st1_set hk]; exact K)
theorem y_astore_n (C : OK E own cc nL ret D MC MS) {k : Fin 4} {x : Nat} (d : decode cc pc = .ok (.astore_n k, 1)) (hn : (k : Nat) < nL) (hk : kl ls (k : Nat) = true) (K : Wx E (pc + 1) (ls.set (k : Nat) (some (aR x))) st V L N I a b) : Wx E pc ls (aR x :: st) V L N I a b := x_astore_n C d hn (by rw [st1_set hk]; exact K)
theorem y_astore (C : OK E own cc nL ret D MC MS) {k : Nat} {x : Nat} (d : decode cc pc = .ok (.astore k, 2)) (hn : k < nL) (hk : kl ls k = true) (K : Wx E (pc + 2) (ls.set k (some (aR x))) st V L N I a b) : Wx E pc ls (aR x :: st) V L N I a b := x_astore C d hn (by rw [st1_set hk]; exact K)
theorem y_astore_nq (C : OK E own cc nL ret D MC MS) {k : Fin 4} {x : Nat} (d : decode cc pc = .ok (.astore_n k, 1)) (hn : (k : Nat) < nL) (hk : kl ls (k : Nat) = true) (K : Wx E (pc + 1) (ls.set (k : Nat) (some (aQ x))) st V L N I a b) : Wx E pc ls (aQ x :: st) V L N I a b := x_astore_nq C d hn (by rw [st1_set hk]; exact K)
theorem y_astoreq (C : OK E own cc nL ret D MC MS) {k : Nat} {x : Nat} (d : decode cc pc = .ok (.astore k, 2)) (hn : k < nL) (hk : kl ls k = true) (K : Wx E (pc + 2) (ls.set k (some (aQ x))) st V L N I a b) : Wx E pc ls (aQ x :: st) V L N I a b := x_astoreq C d hn (by rw [st1_set hk]; exact K)
theorem y_iinc (C : OK E own cc nL ret D MC MS) {k : Nat} {n : Int} {x : Int32} (v : Int32) (d : decode cc pc = .ok (.iinc k n, 3)) (h : ls[k]? = some (some (aI x))) (hv : x + Int32.ofInt n = v) (hn : k < nL) (hk : kl ls k = true) (K : Wx E (pc + 3) (ls.set k (some (aI v))) st V L N I a b) : Wx E pc ls st V L N I a b := x_iinc C v d h hv hn (by rw [st1_set hk]; exact K)
end
