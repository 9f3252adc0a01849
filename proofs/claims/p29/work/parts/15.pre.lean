def pm (i : Nat) : Bool := decide (i < 18 ∨ (20 ≤ i ∧ i ≤ 36 ∧ i ≠ 27 ∧ i ≠ 28) ∨ (210 ≤ i ∧ i ≤ 217))
/-- the ids that are always there -/
def PI (I : List Nat) : Prop := ∀ i, pm i = true → i ∈ I
theorem is_r {r r2 : Option AV} {V V2 : VV} {L : LL} {N : NN} {I : List Nat} (h : r2 = r) (hv : V2 = V) : Is r V L N I (.inl r2) V2 L N I := ⟨by rw [h], hv, rfl, rfl, rfl⟩
theorem is_i {x y : Int32} {V : VV} {L : LL} {N : NN} {I : List Nat} (h : y = x) : Is (some (aI x)) V L N I (.inl (some (aI y))) V L N I := is_r (by rw [h]) rfl
theorem is_v {V V2 : VV} {L : LL} {N : NN} {I : List Nat} (h : V2 = V) : Is none V L N I (.inl none) V2 L N I := is_r rfl h
theorem is_iv {x y : Int32} {V V2 : VV} {L : LL} {N : NN} {I : List Nat} (h : y = x) (hv : V2 = V) : Is (some (aI x)) V L N I (.inl (some (aI y))) V2 L N I := is_r (by rw [h]) hv
section
variable {E : EE} {own : String} {cc : ByteArray} {ret : Option FieldType} {nL D MC MS pc : Nat} {ls : zLS} {st : List AV} {V : VV} {L : LL} {N : NN} {I I0 : List Nat} {a b mc ms : Nat} {Post : PP}
theorem x_top2i {x : Int32} {v : AV} (y : Int32) (h : x = y) (K : Wx E pc ls (v :: aI y :: st) V L N I a b) : Wx E pc ls (v :: aI x :: st) V L N I a b := by subst h; exact K
theorem x_mem {V2 : VV} (h : V = V2) (K : Wx E pc ls st V2 L N I a b) : Wx E pc ls st V L N I a b := by subst h; exact K
theorem x_loc {ls2 : zLS} (h : ls = ls2) (K : Wx E pc ls2 st V L N I a b) : Wx E pc ls st V L N I a b := by subst h; exact K
def okB (ls : zLS) (st : List AV) : Bool := ndS st && ndL ls && Nat.ble (catS st) 8
theorem okB_s {ls : zLS} {st : List AV} (h : okB ls st = true) : okS I st ∧ okL I ls := by
  simp only [okB, Bool.and_eq_true] at h
  exact ⟨okS_nd h.1.1, okL_nd h.1.2⟩
theorem okB_c {ls : zLS} {st : List AV} (h : okB ls st = true) : catS st ≤ 8 := by
  simp only [okB, Bool.and_eq_true] at h
  exact Nat.le_of_ble_eq_true h.2
theorem x_cV0 (C : OK E own cc nL ret D MC MS) {idx ci o D1 mL : Nat} {y : MethodName} {c1 : ByteArray} {r1 : Option FieldType} {r : Option AV} {V' : VV} {L' : LL} {N' : NN} {I' : List Nat} (w : CVk own idx ci 0 y c1 mL r1) (d : decode cc pc = .ok (.invokevirtual idx, 3)) (hR : Runs (eL E) D1 0 0 y (Cond.code y c1 mL r1) (aR o :: []) V L N I (Is r V' L' N' I'))
    (hi : o ∈ I) (ho : ocl o = some ci) (hDD : D1 + 1 ≤ D) (hok : okB ls st = true) (hroom : a ≤ MC ∧ b ≤ MS) (K : Wx E (pc + 3) ls (r.toList ++ st) V' L' N' I' a b) : Wx E pc ls (aR o :: st) V L N I a b :=
  x_callV1 C w d hR hi ho rfl hDD (okB_s hok) (okB_c hok) hroom K
theorem x_cS0 (C : OK E own cc nL ret D MC MS) {idx D1 mL : Nat} {y : MethodName} {c1 : ByteArray} {r1 : Option FieldType} {r : Option AV} {V' : VV} {L' : LL} {N' : NN} {I' : List Nat} (w : CSk own idx 0 y c1 mL r1) (d : decode cc pc = .ok (.invokestatic idx, 3)) (hR : Runs (eL E) D1 0 0 y (Cond.code y c1 mL r1) ([]) V L N I (Is r V' L' N' I'))
    (hDD : D1 + 1 ≤ D) (hok : okB ls st = true) (hroom : a ≤ MC ∧ b ≤ MS) (K : Wx E (pc + 3) ls (r.toList ++ st) V' L' N' I' a b) : Wx E pc ls (st) V L N I a b :=
  x_callS1 C w d hR rfl hDD (okB_s hok) (okB_c hok) hroom K
theorem x_cN0 (C : OK E own cc nL ret D MC MS) {idx D1 mL : Nat} {host : String} {y : MethodName} {c1 : ByteArray} {r1 : Option FieldType} {r : Option AV} {V' : VV} {L' : LL} {N' : NN} {I' : List Nat} (w : CNk own idx 0 host y c1 mL r1) (d : decode cc pc = .ok (.invokestatic idx, 3)) (hR : Runs (eL E) D1 0 0 y (Cond.code y c1 mL r1) ([]) V L N I (Is r V' L' N' I'))
    (hDD : D1 + 1 ≤ D) (hok : okB ls st = true) (hroom : a ≤ MC ∧ b ≤ MS) (K : Wx E (pc + 3) ls (r.toList ++ st) V' L' N' I' a b) : Wx E pc ls (st) V L N I a b :=
  x_callSN1 C w d hR rfl hDD (okB_s hok) (okB_c hok) hroom K
theorem x_cV1 (C : OK E own cc nL ret D MC MS) {idx ci o D1 mL : Nat} {y : MethodName} {c1 : ByteArray} {r1 : Option FieldType} {a1 : AV} {r : Option AV} {V' : VV} {L' : LL} {N' : NN} {I' : List Nat} (w : CVk own idx ci 1 y c1 mL r1) (d : decode cc pc = .ok (.invokevirtual idx, 3)) (hR : Runs (eL E) D1 0 0 y (Cond.code y c1 mL r1) (aR o :: [a1]) V L N I (Is r V' L' N' I'))
    (hi : o ∈ I) (ho : ocl o = some ci) (hDD : D1 + 1 ≤ D) (hok : okB ls st = true) (hroom : a ≤ MC ∧ b ≤ MS) (K : Wx E (pc + 3) ls (r.toList ++ st) V' L' N' I' a b) : Wx E pc ls (a1 :: aR o :: st) V L N I a b :=
  x_callV1 C w d hR hi ho rfl hDD (okB_s hok) (okB_c hok) hroom K
theorem x_cS1 (C : OK E own cc nL ret D MC MS) {idx D1 mL : Nat} {y : MethodName} {c1 : ByteArray} {r1 : Option FieldType} {a1 : AV} {r : Option AV} {V' : VV} {L' : LL} {N' : NN} {I' : List Nat} (w : CSk own idx 1 y c1 mL r1) (d : decode cc pc = .ok (.invokestatic idx, 3)) (hR : Runs (eL E) D1 0 0 y (Cond.code y c1 mL r1) ([a1]) V L N I (Is r V' L' N' I'))
    (hDD : D1 + 1 ≤ D) (hok : okB ls st = true) (hroom : a ≤ MC ∧ b ≤ MS) (K : Wx E (pc + 3) ls (r.toList ++ st) V' L' N' I' a b) : Wx E pc ls (a1 :: st) V L N I a b :=
  x_callS1 C w d hR rfl hDD (okB_s hok) (okB_c hok) hroom K
theorem x_cN1 (C : OK E own cc nL ret D MC MS) {idx D1 mL : Nat} {host : String} {y : MethodName} {c1 : ByteArray} {r1 : Option FieldType} {a1 : AV} {r : Option AV} {V' : VV} {L' : LL} {N' : NN} {I' : List Nat} (w : CNk own idx 1 host y c1 mL r1) (d : decode cc pc = .ok (.invokestatic idx, 3)) (hR : Runs (eL E) D1 0 0 y (Cond.code y c1 mL r1) ([a1]) V L N I (Is r V' L' N' I'))
    (hDD : D1 + 1 ≤ D) (hok : okB ls st = true) (hroom : a ≤ MC ∧ b ≤ MS) (K : Wx E (pc + 3) ls (r.toList ++ st) V' L' N' I' a b) : Wx E pc ls (a1 :: st) V L N I a b :=
  x_callSN1 C w d hR rfl hDD (okB_s hok) (okB_c hok) hroom K
theorem x_cV2 (C : OK E own cc nL ret D MC MS) {idx ci o D1 mL : Nat} {y : MethodName} {c1 : ByteArray} {r1 : Option FieldType} {a1 a2 : AV} {r : Option AV} {V' : VV} {L' : LL} {N' : NN} {I' : List Nat} (w : CVk own idx ci 2 y c1 mL r1) (d : decode cc pc = .ok (.invokevirtual idx, 3)) (hR : Runs (eL E) D1 0 0 y (Cond.code y c1 mL r1) (aR o :: [a1, a2]) V L N I (Is r V' L' N' I'))
    (hi : o ∈ I) (ho : ocl o = some ci) (hDD : D1 + 1 ≤ D) (hok : okB ls st = true) (hroom : a ≤ MC ∧ b ≤ MS) (K : Wx E (pc + 3) ls (r.toList ++ st) V' L' N' I' a b) : Wx E pc ls (a2 :: a1 :: aR o :: st) V L N I a b :=
  x_callV1 C w d hR hi ho rfl hDD (okB_s hok) (okB_c hok) hroom K
theorem x_cS2 (C : OK E own cc nL ret D MC MS) {idx D1 mL : Nat} {y : MethodName} {c1 : ByteArray} {r1 : Option FieldType} {a1 a2 : AV} {r : Option AV} {V' : VV} {L' : LL} {N' : NN} {I' : List Nat} (w : CSk own idx 2 y c1 mL r1) (d : decode cc pc = .ok (.invokestatic idx, 3)) (hR : Runs (eL E) D1 0 0 y (Cond.code y c1 mL r1) ([a1, a2]) V L N I (Is r V' L' N' I'))
    (hDD : D1 + 1 ≤ D) (hok : okB ls st = true) (hroom : a ≤ MC ∧ b ≤ MS) (K : Wx E (pc + 3) ls (r.toList ++ st) V' L' N' I' a b) : Wx E pc ls (a2 :: a1 :: st) V L N I a b :=
  x_callS1 C w d hR rfl hDD (okB_s hok) (okB_c hok) hroom K
theorem x_cN2 (C : OK E own cc nL ret D MC MS) {idx D1 mL : Nat} {host : String} {y : MethodName} {c1 : ByteArray} {r1 : Option FieldType} {a1 a2 : AV} {r : Option AV} {V' : VV} {L' : LL} {N' : NN} {I' : List Nat} (w : CNk own idx 2 host y c1 mL r1) (d : decode cc pc = .ok (.invokestatic idx, 3)) (hR : Runs (eL E) D1 0 0 y (Cond.code y c1 mL r1) ([a1, a2]) V L N I (Is r V' L' N' I'))
    (hDD : D1 + 1 ≤ D) (hok : okB ls st = true) (hroom : a ≤ MC ∧ b ≤ MS) (K : Wx E (pc + 3) ls (r.toList ++ st) V' L' N' I' a b) : Wx E pc ls (a2 :: a1 :: st) V L N I a b :=
  x_callSN1 C w d hR rfl hDD (okB_s hok) (okB_c hok) hroom K
theorem x_cV3 (C : OK E own cc nL ret D MC MS) {idx ci o D1 mL : Nat} {y : MethodName} {c1 : ByteArray} {r1 : Option FieldType} {a1 a2 a3 : AV} {r : Option AV} {V' : VV} {L' : LL} {N' : NN} {I' : List Nat} (w : CVk own idx ci 3 y c1 mL r1) (d : decode cc pc = .ok (.invokevirtual idx, 3)) (hR : Runs (eL E) D1 0 0 y (Cond.code y c1 mL r1) (aR o :: [a1, a2, a3]) V L N I (Is r V' L' N' I'))
    (hi : o ∈ I) (ho : ocl o = some ci) (hDD : D1 + 1 ≤ D) (hok : okB ls st = true) (hroom : a ≤ MC ∧ b ≤ MS) (K : Wx E (pc + 3) ls (r.toList ++ st) V' L' N' I' a b) : Wx E pc ls (a3 :: a2 :: a1 :: aR o :: st) V L N I a b :=
  x_callV1 C w d hR hi ho rfl hDD (okB_s hok) (okB_c hok) hroom K
theorem x_cS3 (C : OK E own cc nL ret D MC MS) {idx D1 mL : Nat} {y : MethodName} {c1 : ByteArray} {r1 : Option FieldType} {a1 a2 a3 : AV} {r : Option AV} {V' : VV} {L' : LL} {N' : NN} {I' : List Nat} (w : CSk own idx 3 y c1 mL r1) (d : decode cc pc = .ok (.invokestatic idx, 3)) (hR : Runs (eL E) D1 0 0 y (Cond.code y c1 mL r1) ([a1, a2, a3]) V L N I (Is r V' L' N' I'))
    (hDD : D1 + 1 ≤ D) (hok : okB ls st = true) (hroom : a ≤ MC ∧ b ≤ MS) (K : Wx E (pc + 3) ls (r.toList ++ st) V' L' N' I' a b) : Wx E pc ls (a3 :: a2 :: a1 :: st) V L N I a b :=
  x_callS1 C w d hR rfl hDD (okB_s hok) (okB_c hok) hroom K
theorem x_cN3 (C : OK E own cc nL ret D MC MS) {idx D1 mL : Nat} {host : String} {y : MethodName} {c1 : ByteArray} {r1 : Option FieldType} {a1 a2 a3 : AV} {r : Option AV} {V' : VV} {L' : LL} {N' : NN} {I' : List Nat} (w : CNk own idx 3 host y c1 mL r1) (d : decode cc pc = .ok (.invokestatic idx, 3)) (hR : Runs (eL E) D1 0 0 y (Cond.code y c1 mL r1) ([a1, a2, a3]) V L N I (Is r V' L' N' I'))
    (hDD : D1 + 1 ≤ D) (hok : okB ls st = true) (hroom : a ≤ MC ∧ b ≤ MS) (K : Wx E (pc + 3) ls (r.toList ++ st) V' L' N' I' a b) : Wx E pc ls (a3 :: a2 :: a1 :: st) V L N I a b :=
  x_callSN1 C w d hR rfl hDD (okB_s hok) (okB_c hok) hroom K
theorem x_cV4 (C : OK E own cc nL ret D MC MS) {idx ci o D1 mL : Nat} {y : MethodName} {c1 : ByteArray} {r1 : Option FieldType} {a1 a2 a3 a4 : AV} {r : Option AV} {V' : VV} {L' : LL} {N' : NN} {I' : List Nat} (w : CVk own idx ci 4 y c1 mL r1) (d : decode cc pc = .ok (.invokevirtual idx, 3)) (hR : Runs (eL E) D1 0 0 y (Cond.code y c1 mL r1) (aR o :: [a1, a2, a3, a4]) V L N I (Is r V' L' N' I'))
    (hi : o ∈ I) (ho : ocl o = some ci) (hDD : D1 + 1 ≤ D) (hok : okB ls st = true) (hroom : a ≤ MC ∧ b ≤ MS) (K : Wx E (pc + 3) ls (r.toList ++ st) V' L' N' I' a b) : Wx E pc ls (a4 :: a3 :: a2 :: a1 :: aR o :: st) V L N I a b :=
  x_callV1 C w d hR hi ho rfl hDD (okB_s hok) (okB_c hok) hroom K
theorem x_cS4 (C : OK E own cc nL ret D MC MS) {idx D1 mL : Nat} {y : MethodName} {c1 : ByteArray} {r1 : Option FieldType} {a1 a2 a3 a4 : AV} {r : Option AV} {V' : VV} {L' : LL} {N' : NN} {I' : List Nat} (w : CSk own idx 4 y c1 mL r1) (d : decode cc pc = .ok (.invokestatic idx, 3)) (hR : Runs (eL E) D1 0 0 y (Cond.code y c1 mL r1) ([a1, a2, a3, a4]) V L N I (Is r V' L' N' I'))
    (hDD : D1 + 1 ≤ D) (hok : okB ls st = true) (hroom : a ≤ MC ∧ b ≤ MS) (K : Wx E (pc + 3) ls (r.toList ++ st) V' L' N' I' a b) : Wx E pc ls (a4 :: a3 :: a2 :: a1 :: st) V L N I a b :=
  x_callS1 C w d hR rfl hDD (okB_s hok) (okB_c hok) hroom K
theorem x_cN4 (C : OK E own cc nL ret D MC MS) {idx D1 mL : Nat} {host : String} {y : MethodName} {c1 : ByteArray} {r1 : Option FieldType} {a1 a2 a3 a4 : AV} {r : Option AV} {V' : VV} {L' : LL} {N' : NN} {I' : List Nat} (w : CNk own idx 4 host y c1 mL r1) (d : decode cc pc = .ok (.invokestatic idx, 3)) (hR : Runs (eL E) D1 0 0 y (Cond.code y c1 mL r1) ([a1, a2, a3, a4]) V L N I (Is r V' L' N' I'))
    (hDD : D1 + 1 ≤ D) (hok : okB ls st = true) (hroom : a ≤ MC ∧ b ≤ MS) (K : Wx E (pc + 3) ls (r.toList ++ st) V' L' N' I' a b) : Wx E pc ls (a4 :: a3 :: a2 :: a1 :: st) V L N I a b :=
  x_callSN1 C w d hR rfl hDD (okB_s hok) (okB_c hok) hroom K
theorem x_cV5 (C : OK E own cc nL ret D MC MS) {idx ci o D1 mL : Nat} {y : MethodName} {c1 : ByteArray} {r1 : Option FieldType} {a1 a2 a3 a4 a5 : AV} {r : Option AV} {V' : VV} {L' : LL} {N' : NN} {I' : List Nat} (w : CVk own idx ci 5 y c1 mL r1) (d : decode cc pc = .ok (.invokevirtual idx, 3)) (hR : Runs (eL E) D1 0 0 y (Cond.code y c1 mL r1) (aR o :: [a1, a2, a3, a4, a5]) V L N I (Is r V' L' N' I'))
    (hi : o ∈ I) (ho : ocl o = some ci) (hDD : D1 + 1 ≤ D) (hok : okB ls st = true) (hroom : a ≤ MC ∧ b ≤ MS) (K : Wx E (pc + 3) ls (r.toList ++ st) V' L' N' I' a b) : Wx E pc ls (a5 :: a4 :: a3 :: a2 :: a1 :: aR o :: st) V L N I a b :=
  x_callV1 C w d hR hi ho rfl hDD (okB_s hok) (okB_c hok) hroom K
theorem x_cS5 (C : OK E own cc nL ret D MC MS) {idx D1 mL : Nat} {y : MethodName} {c1 : ByteArray} {r1 : Option FieldType} {a1 a2 a3 a4 a5 : AV} {r : Option AV} {V' : VV} {L' : LL} {N' : NN} {I' : List Nat} (w : CSk own idx 5 y c1 mL r1) (d : decode cc pc = .ok (.invokestatic idx, 3)) (hR : Runs (eL E) D1 0 0 y (Cond.code y c1 mL r1) ([a1, a2, a3, a4, a5]) V L N I (Is r V' L' N' I'))
    (hDD : D1 + 1 ≤ D) (hok : okB ls st = true) (hroom : a ≤ MC ∧ b ≤ MS) (K : Wx E (pc + 3) ls (r.toList ++ st) V' L' N' I' a b) : Wx E pc ls (a5 :: a4 :: a3 :: a2 :: a1 :: st) V L N I a b :=
  x_callS1 C w d hR rfl hDD (okB_s hok) (okB_c hok) hroom K
theorem x_cN5 (C : OK E own cc nL ret D MC MS) {idx D1 mL : Nat} {host : String} {y : MethodName} {c1 : ByteArray} {r1 : Option FieldType} {a1 a2 a3 a4 a5 : AV} {r : Option AV} {V' : VV} {L' : LL} {N' : NN} {I' : List Nat} (w : CNk own idx 5 host y c1 mL r1) (d : decode cc pc = .ok (.invokestatic idx, 3)) (hR : Runs (eL E) D1 0 0 y (Cond.code y c1 mL r1) ([a1, a2, a3, a4, a5]) V L N I (Is r V' L' N' I'))
    (hDD : D1 + 1 ≤ D) (hok : okB ls st = true) (hroom : a ≤ MC ∧ b ≤ MS) (K : Wx E (pc + 3) ls (r.toList ++ st) V' L' N' I' a b) : Wx E pc ls (a5 :: a4 :: a3 :: a2 :: a1 :: st) V L N I a b :=
  x_callSN1 C w d hR rfl hDD (okB_s hok) (okB_c hok) hroom K
theorem x_cV6 (C : OK E own cc nL ret D MC MS) {idx ci o D1 mL : Nat} {y : MethodName} {c1 : ByteArray} {r1 : Option FieldType} {a1 a2 a3 a4 a5 a6 : AV} {r : Option AV} {V' : VV} {L' : LL} {N' : NN} {I' : List Nat} (w : CVk own idx ci 6 y c1 mL r1) (d : decode cc pc = .ok (.invokevirtual idx, 3)) (hR : Runs (eL E) D1 0 0 y (Cond.code y c1 mL r1) (aR o :: [a1, a2, a3, a4, a5, a6]) V L N I (Is r V' L' N' I'))
    (hi : o ∈ I) (ho : ocl o = some ci) (hDD : D1 + 1 ≤ D) (hok : okB ls st = true) (hroom : a ≤ MC ∧ b ≤ MS) (K : Wx E (pc + 3) ls (r.toList ++ st) V' L' N' I' a b) : Wx E pc ls (a6 :: a5 :: a4 :: a3 :: a2 :: a1 :: aR o :: st) V L N I a b :=
  x_callV1 C w d hR hi ho rfl hDD (okB_s hok) (okB_c hok) hroom K
theorem x_cS6 (C : OK E own cc nL ret D MC MS) {idx D1 mL : Nat} {y : MethodName} {c1 : ByteArray} {r1 : Option FieldType} {a1 a2 a3 a4 a5 a6 : AV} {r : Option AV} {V' : VV} {L' : LL} {N' : NN} {I' : List Nat} (w : CSk own idx 6 y c1 mL r1) (d : decode cc pc = .ok (.invokestatic idx, 3)) (hR : Runs (eL E) D1 0 0 y (Cond.code y c1 mL r1) ([a1, a2, a3, a4, a5, a6]) V L N I (Is r V' L' N' I'))
    (hDD : D1 + 1 ≤ D) (hok : okB ls st = true) (hroom : a ≤ MC ∧ b ≤ MS) (K : Wx E (pc + 3) ls (r.toList ++ st) V' L' N' I' a b) : Wx E pc ls (a6 :: a5 :: a4 :: a3 :: a2 :: a1 :: st) V L N I a b :=
  x_callS1 C w d hR rfl hDD (okB_s hok) (okB_c hok) hroom K
theorem x_cN6 (C : OK E own cc nL ret D MC MS) {idx D1 mL : Nat} {host : String} {y : MethodName} {c1 : ByteArray} {r1 : Option FieldType} {a1 a2 a3 a4 a5 a6 : AV} {r : Option AV} {V' : VV} {L' : LL} {N' : NN} {I' : List Nat} (w : CNk own idx 6 host y c1 mL r1) (d : decode cc pc = .ok (.invokestatic idx, 3)) (hR : Runs (eL E) D1 0 0 y (Cond.code y c1 mL r1) ([a1, a2, a3, a4, a5, a6]) V L N I (Is r V' L' N' I'))
    (hDD : D1 + 1 ≤ D) (hok : okB ls st = true) (hroom : a ≤ MC ∧ b ≤ MS) (K : Wx E (pc + 3) ls (r.toList ++ st) V' L' N' I' a b) : Wx E pc ls (a6 :: a5 :: a4 :: a3 :: a2 :: a1 :: st) V L N I a b :=
  x_callSN1 C w d hR rfl hDD (okB_s hok) (okB_c hok) hroom K
theorem x_cV7 (C : OK E own cc nL ret D MC MS) {idx ci o D1 mL : Nat} {y : MethodName} {c1 : ByteArray} {r1 : Option FieldType} {a1 a2 a3 a4 a5 a6 a7 : AV} {r : Option AV} {V' : VV} {L' : LL} {N' : NN} {I' : List Nat} (w : CVk own idx ci 7 y c1 mL r1) (d : decode cc pc = .ok (.invokevirtual idx, 3)) (hR : Runs (eL E) D1 0 0 y (Cond.code y c1 mL r1) (aR o :: [a1, a2, a3, a4, a5, a6, a7]) V L N I (Is r V' L' N' I'))
    (hi : o ∈ I) (ho : ocl o = some ci) (hDD : D1 + 1 ≤ D) (hok : okB ls st = true) (hroom : a ≤ MC ∧ b ≤ MS) (K : Wx E (pc + 3) ls (r.toList ++ st) V' L' N' I' a b) : Wx E pc ls (a7 :: a6 :: a5 :: a4 :: a3 :: a2 :: a1 :: aR o :: st) V L N I a b :=
  x_callV1 C w d hR hi ho rfl hDD (okB_s hok) (okB_c hok) hroom K
theorem x_cS7 (C : OK E own cc nL ret D MC MS) {idx D1 mL : Nat} {y : MethodName} {c1 : ByteArray} {r1 : Option FieldType} {a1 a2 a3 a4 a5 a6 a7 : AV} {r : Option AV} {V' : VV} {L' : LL} {N' : NN} {I' : List Nat} (w : CSk own idx 7 y c1 mL r1) (d : decode cc pc = .ok (.invokestatic idx, 3)) (hR : Runs (eL E) D1 0 0 y (Cond.code y c1 mL r1) ([a1, a2, a3, a4, a5, a6, a7]) V L N I (Is r V' L' N' I'))
    (hDD : D1 + 1 ≤ D) (hok : okB ls st = true) (hroom : a ≤ MC ∧ b ≤ MS) (K : Wx E (pc + 3) ls (r.toList ++ st) V' L' N' I' a b) : Wx E pc ls (a7 :: a6 :: a5 :: a4 :: a3 :: a2 :: a1 :: st) V L N I a b :=
  x_callS1 C w d hR rfl hDD (okB_s hok) (okB_c hok) hroom K
theorem x_cN7 (C : OK E own cc nL ret D MC MS) {idx D1 mL : Nat} {host : String} {y : MethodName} {c1 : ByteArray} {r1 : Option FieldType} {a1 a2 a3 a4 a5 a6 a7 : AV} {r : Option AV} {V' : VV} {L' : LL} {N' : NN} {I' : List Nat} (w : CNk own idx 7 host y c1 mL r1) (d : decode cc pc = .ok (.invokestatic idx, 3)) (hR : Runs (eL E) D1 0 0 y (Cond.code y c1 mL r1) ([a1, a2, a3, a4, a5, a6, a7]) V L N I (Is r V' L' N' I'))
    (hDD : D1 + 1 ≤ D) (hok : okB ls st = true) (hroom : a ≤ MC ∧ b ≤ MS) (K : Wx E (pc + 3) ls (r.toList ++ st) V' L' N' I' a b) : Wx E pc ls (a7 :: a6 :: a5 :: a4 :: a3 :: a2 :: a1 :: st) V L N I a b :=
  x_callSN1 C w d hR rfl hDD (okB_s hok) (okB_c hok) hroom K
end
def sumTo (f : Nat → Int32) : Nat → Int32
  | 0 => 0
  | n + 1 => sumTo f n + f n
theorem sumTo_congr {f g : Nat → Int32} : ∀ {n : Nat}, (∀ i, i < n → f i = g i) → sumTo f n = sumTo g n
  | 0, _ => rfl
  | n + 1, h => by rw [sumTo, sumTo, sumTo_congr (fun i hi => h i (by omega)), h n (by omega)]
def b2i (b : Bool) : Int32 := if b = true then 1 else 0
def worthF (sh k m : Int32) : Int32 := if k = 2 then m * sh / 100 else m
def withinB (v lo hi : Int32) : Bool := decide (lo ≤ v) && decide (v ≤ hi)
def maxF (x y : Int32) : Int32 := if x < y then y else x
def minF (x y : Int32) : Int32 := if y < x then y else x
def inHourF (f m h : Int32) : Int32 := maxF 0 (minF (f + m) (60 * (h + 1)) - maxF f (60 * h))
