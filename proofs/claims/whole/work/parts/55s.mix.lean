def shN (V : VV) (n : Nat) : UInt64 := FP.ddiv (FP.dmul FP.dconst1 (FP.i2d (wkN V n 2 7))) (FP.i2d (7 * (V 201 1 - V 201 0)))
def mxL (L : LL) (v : Int64) : LL := upL L 200 17 (31 * L 200 17 + v)
def mdA (V : VV) (n : Nat) (d : Int32) (L : LL) : Nat → LL
  | 0 => L
  | w + 1 => mxL (mdA V n d L w) (dN V n d w).toInt64
def mdB (V : VV) (n : Nat) (d : Int32) (L : LL) : Nat → LL
  | 0 => L
  | h + 1 => mxL (mxL (mdB V n d L h) (planR (RF V) n d (nI h)).toInt64) (spN V n d (nI h)).toInt64
def mdD (V : VV) (n : Nat) (L : LL) : Nat → LL
  | 0 => L
  | d + 1 => mdB V n (nI d) (mdA V n (nI d) (mdD V n L d) 8) 24
theorem spN_sm {V V1 : VV} (h : V1 201 = V 201) {n : Nat} {d x : Int32} : spN V1 n d x = spN V n d x := by
  unfold spN; rw [RF_z h, h]
theorem sml_r {V : VV} : SmL V V := fun _ _ _ _ => rfl
theorem pm_vL {Q : VV → Prop} {V1 : VV} {L1 L : LL} {N : NN} {I : List Nat} (h : Q V1) (hL : L1 = L) : Pm none Q L N I (.inl none) V1 L1 N I := ⟨rfl, h, hL, rfl, rfl⟩
theorem pm_dd {Q : VV → Prop} {x y : UInt64} {V1 : VV} {L : LL} {N : NN} {I : List Nat} (e : y = x) (h : Q V1) : Pm (some (aD x)) Q L N I (.inl (some (aD y))) V1 L N I := ⟨by rw [e], h, rfl, rfl, rfl⟩
