theorem wkN_sm {V V1 : VV} (h : V1 201 = V 201) {n w k : Nat} : wkN V1 n w k = wkN V n w k := by
  unfold wkN
  exact congrArg (fun f => sumTo f k) (funext fun d => dN_sm h)
theorem alN_z {V V1 : VV} (h : V1 201 = V 201) {g : Nat} : alN V1 g = alN V g := by unfold alN; rw [h]
theorem cntV_sm {V V1 : VV} (h : V1 201 = V 201) (h2 : V1 200 2 = V 200 2) {n w : Nat} : cntV V1 n w = cntV V n w := by
  unfold cntV; rw [RF_z h, h, h2, wkN_sm h, wkN_sm h, wkN_sm h]
theorem grpN_sm {V V1 : VV} (h : V1 201 = V 201) {n g w : Nat} : grpN V1 n g w = grpN V n g w := by
  unfold grpN; rw [RF_z h, h, alN_z h, awS_sm h]
theorem showN_sm {V V1 : VV} (h : V1 201 = V 201) {s w : Nat} : showN V1 s w = showN V s w := by
  unfold showN; rw [RF_z h, h]
theorem shN_sm {V V1 : VV} (h : V1 201 = V 201) {n : Nat} : shN V1 n = shN V n := by
  unfold shN; rw [wkN_sm h, h]
theorem smf_r {V : VV} : SmF V V := fun _ _ _ _ => rfl
theorem smf_2 {V V1 : VV} (h : SmF V V1) : V1 200 2 = V 200 2 := h 200 2 (by decide) (by decide)
/-- the words of the digest, one loop after another -/
def dgA (V : VV) (n : Nat) (L : LL) : Nat → LL
  | 0 => L
  | w + 1 => mxL (dgA V n L w) (cntV V n w).toInt64
def dgZ (V : VV) (L : LL) : Nat → LL
  | 0 => L
  | k + 1 => mxL (dgZ V L k) (V 201 k).toInt64
def dgC (V : VV) (n : Nat) (L : LL) : Nat → LL
  | 0 => L
  | k + 1 => mxL (dgC V n L k) (grpN V n (k / 9) (k % 9)).toInt64
def dgS (V : VV) (s : Nat) (L : LL) : Nat → LL
  | 0 => L
  | w + 1 => mxL (dgS V s L w) (showN V s w).toInt64
def dgR (V : VV) (n s : Nat) (L : LL) : LL := mxL (dgS V s L 12) (repN V n (RF V 1 s).toNatClampNeg s 2016 0).toInt64
def dgD (V : VV) (n : Nat) (L : LL) : Nat → LL
  | 0 => L
  | s + 1 => if RF V 0 s = 0 then mxL (dgR V n s (dgD V n L s)) (mosS V n s 181).toInt64 else dgR V n s (dgD V n L s)
def dgE (V : VV) (n : Nat) (L : LL) : Nat → LL
  | 0 => L
  | g + 1 => mxL (dgE V n L g) (fotN V n g 3 30 288 0).toInt64
def dgT (V : VV) (L : LL) : Nat → LL
  | 0 => L
  | k + 1 => mxL (dgT V L k) (V 203 k).toInt64
def dg4 (V : VV) (n : Nat) (L : LL) : LL := dgE V n (mdD V n (dgD V n (dgC V n (dgZ V (dgA V n (upL L 200 17 2099) 8) 8) 54) n) 7) 6
def dg5 (V : VV) (n : Nat) (L : LL) : LL := mxL (mxL (mxL (dg4 V n L) (shN V n).toInt64) (V 200 4).toInt64) (V 200 5).toInt64
section
variable {E : EE} {own : String} {cc : ByteArray} {nL : Nat} {ret : Option FieldType} {D MC MS pc a b : Nat} {ls : List (Option AV)} {st : List AV} {V : VV} {L : LL} {N : NN} {I : List Nat}
theorem x_cO1 (C : OK E own cc nL ret D MC MS) {idx D1 mL : Nat} {y : MethodName} {c1 : ByteArray} {r1 : Option FieldType} {a1 : AV} {r : Option AV} {V' : VV} {L' : LL} {N' : NN} {I' : List Nat} (w : COk own idx 1 y c1 mL r1) (d : decode cc pc = .ok (.invokestatic idx, 3)) (hR : Runs (eL E) D1 0 0 y (Cond.code y c1 mL r1) ([a1]) V L N I (Is r V' L' N' I'))
    (hDD : D1 + 1 ≤ D) (hok : okB ls st = true) (hroom : a ≤ MC ∧ b ≤ MS) (K : Wx E (pc + 3) ls (r.toList ++ st) V' L' N' I' a b) : Wx E pc ls (a1 :: st) V L N I a b :=
  x_callSO (Post := Is r V' L' N' I') C w d hR rfl hDD (okB_s hok) (okB_c hok) hroom (fun X V1 L1 N1 I1 h => by cases h.1) (fun r1 V1 L1 N1 I1 h => by obtain ⟨h1, rfl, rfl, rfl, rfl⟩ := h; cases h1; exact K)
end
theorem mdA_sm {V V1 : VV} (h : V1 201 = V 201) {n : Nat} {d : Int32} {L : LL} : ∀ {k : Nat}, mdA V1 n d L k = mdA V n d L k
  | 0 => rfl
  | k + 1 => by rw [mdA, mdA, dN_sm h, mdA_sm h]
theorem mdB_sm {V V1 : VV} (h : V1 201 = V 201) {n : Nat} {d : Int32} {L : LL} : ∀ {k : Nat}, mdB V1 n d L k = mdB V n d L k
  | 0 => rfl
  | k + 1 => by rw [mdB, mdB, spN_sm h, RF_z h, mdB_sm h]
theorem mdD_sm {V V1 : VV} (h : V1 201 = V 201) {n : Nat} {L : LL} : ∀ {k : Nat}, mdD V1 n L k = mdD V n L k
  | 0 => rfl
  | k + 1 => by rw [mdD, mdD, mdA_sm h, mdB_sm h, mdD_sm h]
theorem x_topl {E : EE} {pc a b : Nat} {ls : List (Option AV)} {st : List AV} {V : VV} {L : LL} {N : NN} {I : List Nat} {x : Int64} (y : Int64) (h : x = y) (K : Wx E pc ls (aL y :: st) V L N I a b) : Wx E (pc) (ls) (aL x :: st) V L N I a b := by subst h; exact K
theorem dgD_f {V : VV} {n i : Nat} {L : LL} (h : ¬ RF V 0 i = 0) : dgD V n L (i + 1) = dgR V n i (dgD V n L i) := if_neg h
theorem dgD_t {V : VV} {n i : Nat} {L : LL} (h : RF V 0 i = 0) : dgD V n L (i + 1) = mxL (dgR V n i (dgD V n L i)) (mosS V n i 181).toInt64 := if_pos h
