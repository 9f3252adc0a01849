-- a hash among the values
def ndSH : List AV → Bool
  | [] => true
  | .inr i :: r => (!dyn i || i == 18) && ndSH r
  | .inl _ :: r => ndSH r
def ndLH : zLS → Bool
  | [] => true
  | some (.inr i) :: r => (!dyn i || i == 18) && ndLH r
  | some (.inl _) :: r => ndLH r
  | none :: r => ndLH r
theorem okS_ndH {I : List Nat} (h18 : 18 ∈ I) : ∀ {st : List AV}, ndSH st = true → okS I st
  | [], _ => trivial
  | .inr i :: r, h => by
    simp only [ndSH, Bool.and_eq_true, Bool.or_eq_true, Bool.not_eq_true', beq_iff_eq] at h
    exact ⟨h.1.imp id (fun e => by rw [e]; exact h18), okS_ndH h18 h.2⟩
  | .inl _ :: r, h => okS_ndH h18 (st := r) h
theorem okL_ndH {I : List Nat} (h18 : 18 ∈ I) : ∀ {ls : zLS}, ndLH ls = true → okL I ls
  | [], _ => trivial
  | some (.inr i) :: r, h => by
    simp only [ndLH, Bool.and_eq_true, Bool.or_eq_true, Bool.not_eq_true', beq_iff_eq] at h
    exact ⟨h.1.imp id (fun e => by rw [e]; exact h18), okL_ndH h18 h.2⟩
  | some (.inl _) :: r, h => okL_ndH h18 (ls := r) h
  | none :: r, h => okL_ndH h18 (ls := r) h
def okH (ls : zLS) (st : List AV) : Bool := ndSH st && ndLH ls && Nat.ble (catS st) 8
theorem okH_s {I : List Nat} (h18 : 18 ∈ I) {ls : zLS} {st : List AV} (h : okH ls st = true) : okS I st ∧ okL I ls := by
  simp only [okH, Bool.and_eq_true] at h
  exact ⟨okS_ndH h18 h.1.1, okL_ndH h18 h.1.2⟩
theorem okH_c {ls : zLS} {st : List AV} (h : okH ls st = true) : catS st ≤ 8 := by
  simp only [okH, Bool.and_eq_true] at h
  exact Nat.le_of_ble_eq_true h.2
section
variable {E : EE} {own : String} {cc : ByteArray} {ret : Option FieldType} {nL D MC MS pc : Nat} {ls : zLS} {st : List AV} {V : VV} {L : LL} {N : NN} {I : List Nat} {a b : Nat}
theorem x_hV0 (C : OK E own cc nL ret D MC MS) {idx ci o D1 mL : Nat} {y : MethodName} {c1 : ByteArray} {r1 : Option FieldType} {r : Option AV} {V' : VV} {L' : LL} {N' : NN} {I' : List Nat} (w : CVk own idx ci 0 y c1 mL r1) (d : decode cc pc = .ok (.invokevirtual idx, 3)) (hR : Runs (eL E) D1 0 0 y (Cond.code y c1 mL r1) (aR o :: []) V L N I (Is r V' L' N' I'))
    (hi : o ∈ I) (ho : ocl o = some ci) (hDD : D1 + 1 ≤ D) (h18 : 18 ∈ I) (hok : okH ls st = true) (hroom : a ≤ MC ∧ b ≤ MS) (K : Wx E (pc + 3) ls (r.toList ++ st) V' L' N' I' a b) : Wx E pc ls (aR o :: st) V L N I a b :=
  x_callV1 (As := []) C w d hR hi ho rfl hDD (okH_s h18 hok) (okH_c hok) hroom K
theorem x_hpV0 (C : OK E own cc nL ret D MC MS) {idx ci o D1 mL : Nat} {y : MethodName} {c1 : ByteArray} {r1 : Option FieldType} {r : Option AV} {Q : VV → Prop} {L' : LL} {N' : NN} {I' : List Nat} (w : CVk own idx ci 0 y c1 mL r1) (d : decode cc pc = .ok (.invokevirtual idx, 3)) (hR : Runs (eL E) D1 0 0 y (Cond.code y c1 mL r1) (aR o :: []) V L N I (Pm r Q L' N' I'))
    (hi : o ∈ I) (ho : ocl o = some ci) (hDD : D1 + 1 ≤ D) (h18 : 18 ∈ I) (hok : okH ls st = true) (hroom : a ≤ MC ∧ b ≤ MS) (K : ∀ V', Q V' → Wx E (pc + 3) ls (r.toList ++ st) V' L' N' I' a b) : Wx E pc ls (aR o :: st) V L N I a b :=
  x_callV (As := []) C w d hR hi ho rfl hDD (okH_s h18 hok) (okH_c hok) hroom (fun X V1 L1 N1 I1 h => by cases h.1) (fun r1 V1 L1 N1 I1 h => by obtain ⟨h1, h2, rfl, rfl, rfl⟩ := h; cases h1; exact K V1 h2)
theorem x_hS0 (C : OK E own cc nL ret D MC MS) {idx D1 mL : Nat} {y : MethodName} {c1 : ByteArray} {r1 : Option FieldType} {r : Option AV} {V' : VV} {L' : LL} {N' : NN} {I' : List Nat} (w : CSk own idx 0 y c1 mL r1) (d : decode cc pc = .ok (.invokestatic idx, 3)) (hR : Runs (eL E) D1 0 0 y (Cond.code y c1 mL r1) ([]) V L N I (Is r V' L' N' I'))
    (hDD : D1 + 1 ≤ D) (h18 : 18 ∈ I) (hok : okH ls st = true) (hroom : a ≤ MC ∧ b ≤ MS) (K : Wx E (pc + 3) ls (r.toList ++ st) V' L' N' I' a b) : Wx E pc ls (st) V L N I a b :=
  x_callS1 (As := []) C w d hR rfl hDD (okH_s h18 hok) (okH_c hok) hroom K
theorem x_hV1 (C : OK E own cc nL ret D MC MS) {idx ci o D1 mL : Nat} {y : MethodName} {c1 : ByteArray} {r1 : Option FieldType} {a1 : AV} {r : Option AV} {V' : VV} {L' : LL} {N' : NN} {I' : List Nat} (w : CVk own idx ci 1 y c1 mL r1) (d : decode cc pc = .ok (.invokevirtual idx, 3)) (hR : Runs (eL E) D1 0 0 y (Cond.code y c1 mL r1) (aR o :: [a1]) V L N I (Is r V' L' N' I'))
    (hi : o ∈ I) (ho : ocl o = some ci) (hDD : D1 + 1 ≤ D) (h18 : 18 ∈ I) (hok : okH ls st = true) (hroom : a ≤ MC ∧ b ≤ MS) (K : Wx E (pc + 3) ls (r.toList ++ st) V' L' N' I' a b) : Wx E pc ls (a1 :: aR o :: st) V L N I a b :=
  x_callV1 (As := [a1]) C w d hR hi ho rfl hDD (okH_s h18 hok) (okH_c hok) hroom K
theorem x_hpV1 (C : OK E own cc nL ret D MC MS) {idx ci o D1 mL : Nat} {y : MethodName} {c1 : ByteArray} {r1 : Option FieldType} {a1 : AV} {r : Option AV} {Q : VV → Prop} {L' : LL} {N' : NN} {I' : List Nat} (w : CVk own idx ci 1 y c1 mL r1) (d : decode cc pc = .ok (.invokevirtual idx, 3)) (hR : Runs (eL E) D1 0 0 y (Cond.code y c1 mL r1) (aR o :: [a1]) V L N I (Pm r Q L' N' I'))
    (hi : o ∈ I) (ho : ocl o = some ci) (hDD : D1 + 1 ≤ D) (h18 : 18 ∈ I) (hok : okH ls st = true) (hroom : a ≤ MC ∧ b ≤ MS) (K : ∀ V', Q V' → Wx E (pc + 3) ls (r.toList ++ st) V' L' N' I' a b) : Wx E pc ls (a1 :: aR o :: st) V L N I a b :=
  x_callV (As := [a1]) C w d hR hi ho rfl hDD (okH_s h18 hok) (okH_c hok) hroom (fun X V1 L1 N1 I1 h => by cases h.1) (fun r1 V1 L1 N1 I1 h => by obtain ⟨h1, h2, rfl, rfl, rfl⟩ := h; cases h1; exact K V1 h2)
theorem x_hS1 (C : OK E own cc nL ret D MC MS) {idx D1 mL : Nat} {y : MethodName} {c1 : ByteArray} {r1 : Option FieldType} {a1 : AV} {r : Option AV} {V' : VV} {L' : LL} {N' : NN} {I' : List Nat} (w : CSk own idx 1 y c1 mL r1) (d : decode cc pc = .ok (.invokestatic idx, 3)) (hR : Runs (eL E) D1 0 0 y (Cond.code y c1 mL r1) ([a1]) V L N I (Is r V' L' N' I'))
    (hDD : D1 + 1 ≤ D) (h18 : 18 ∈ I) (hok : okH ls st = true) (hroom : a ≤ MC ∧ b ≤ MS) (K : Wx E (pc + 3) ls (r.toList ++ st) V' L' N' I' a b) : Wx E pc ls (a1 :: st) V L N I a b :=
  x_callS1 (As := [a1]) C w d hR rfl hDD (okH_s h18 hok) (okH_c hok) hroom K
theorem x_hV2 (C : OK E own cc nL ret D MC MS) {idx ci o D1 mL : Nat} {y : MethodName} {c1 : ByteArray} {r1 : Option FieldType} {a1 a2 : AV} {r : Option AV} {V' : VV} {L' : LL} {N' : NN} {I' : List Nat} (w : CVk own idx ci 2 y c1 mL r1) (d : decode cc pc = .ok (.invokevirtual idx, 3)) (hR : Runs (eL E) D1 0 0 y (Cond.code y c1 mL r1) (aR o :: [a1, a2]) V L N I (Is r V' L' N' I'))
    (hi : o ∈ I) (ho : ocl o = some ci) (hDD : D1 + 1 ≤ D) (h18 : 18 ∈ I) (hok : okH ls st = true) (hroom : a ≤ MC ∧ b ≤ MS) (K : Wx E (pc + 3) ls (r.toList ++ st) V' L' N' I' a b) : Wx E pc ls (a2 :: a1 :: aR o :: st) V L N I a b :=
  x_callV1 (As := [a1, a2]) C w d hR hi ho rfl hDD (okH_s h18 hok) (okH_c hok) hroom K
theorem x_hpV2 (C : OK E own cc nL ret D MC MS) {idx ci o D1 mL : Nat} {y : MethodName} {c1 : ByteArray} {r1 : Option FieldType} {a1 a2 : AV} {r : Option AV} {Q : VV → Prop} {L' : LL} {N' : NN} {I' : List Nat} (w : CVk own idx ci 2 y c1 mL r1) (d : decode cc pc = .ok (.invokevirtual idx, 3)) (hR : Runs (eL E) D1 0 0 y (Cond.code y c1 mL r1) (aR o :: [a1, a2]) V L N I (Pm r Q L' N' I'))
    (hi : o ∈ I) (ho : ocl o = some ci) (hDD : D1 + 1 ≤ D) (h18 : 18 ∈ I) (hok : okH ls st = true) (hroom : a ≤ MC ∧ b ≤ MS) (K : ∀ V', Q V' → Wx E (pc + 3) ls (r.toList ++ st) V' L' N' I' a b) : Wx E pc ls (a2 :: a1 :: aR o :: st) V L N I a b :=
  x_callV (As := [a1, a2]) C w d hR hi ho rfl hDD (okH_s h18 hok) (okH_c hok) hroom (fun X V1 L1 N1 I1 h => by cases h.1) (fun r1 V1 L1 N1 I1 h => by obtain ⟨h1, h2, rfl, rfl, rfl⟩ := h; cases h1; exact K V1 h2)
theorem x_hS2 (C : OK E own cc nL ret D MC MS) {idx D1 mL : Nat} {y : MethodName} {c1 : ByteArray} {r1 : Option FieldType} {a1 a2 : AV} {r : Option AV} {V' : VV} {L' : LL} {N' : NN} {I' : List Nat} (w : CSk own idx 2 y c1 mL r1) (d : decode cc pc = .ok (.invokestatic idx, 3)) (hR : Runs (eL E) D1 0 0 y (Cond.code y c1 mL r1) ([a1, a2]) V L N I (Is r V' L' N' I'))
    (hDD : D1 + 1 ≤ D) (h18 : 18 ∈ I) (hok : okH ls st = true) (hroom : a ≤ MC ∧ b ≤ MS) (K : Wx E (pc + 3) ls (r.toList ++ st) V' L' N' I' a b) : Wx E pc ls (a2 :: a1 :: st) V L N I a b :=
  x_callS1 (As := [a1, a2]) C w d hR rfl hDD (okH_s h18 hok) (okH_c hok) hroom K
theorem x_hV3 (C : OK E own cc nL ret D MC MS) {idx ci o D1 mL : Nat} {y : MethodName} {c1 : ByteArray} {r1 : Option FieldType} {a1 a2 a3 : AV} {r : Option AV} {V' : VV} {L' : LL} {N' : NN} {I' : List Nat} (w : CVk own idx ci 3 y c1 mL r1) (d : decode cc pc = .ok (.invokevirtual idx, 3)) (hR : Runs (eL E) D1 0 0 y (Cond.code y c1 mL r1) (aR o :: [a1, a2, a3]) V L N I (Is r V' L' N' I'))
    (hi : o ∈ I) (ho : ocl o = some ci) (hDD : D1 + 1 ≤ D) (h18 : 18 ∈ I) (hok : okH ls st = true) (hroom : a ≤ MC ∧ b ≤ MS) (K : Wx E (pc + 3) ls (r.toList ++ st) V' L' N' I' a b) : Wx E pc ls (a3 :: a2 :: a1 :: aR o :: st) V L N I a b :=
  x_callV1 (As := [a1, a2, a3]) C w d hR hi ho rfl hDD (okH_s h18 hok) (okH_c hok) hroom K
theorem x_hpV3 (C : OK E own cc nL ret D MC MS) {idx ci o D1 mL : Nat} {y : MethodName} {c1 : ByteArray} {r1 : Option FieldType} {a1 a2 a3 : AV} {r : Option AV} {Q : VV → Prop} {L' : LL} {N' : NN} {I' : List Nat} (w : CVk own idx ci 3 y c1 mL r1) (d : decode cc pc = .ok (.invokevirtual idx, 3)) (hR : Runs (eL E) D1 0 0 y (Cond.code y c1 mL r1) (aR o :: [a1, a2, a3]) V L N I (Pm r Q L' N' I'))
    (hi : o ∈ I) (ho : ocl o = some ci) (hDD : D1 + 1 ≤ D) (h18 : 18 ∈ I) (hok : okH ls st = true) (hroom : a ≤ MC ∧ b ≤ MS) (K : ∀ V', Q V' → Wx E (pc + 3) ls (r.toList ++ st) V' L' N' I' a b) : Wx E pc ls (a3 :: a2 :: a1 :: aR o :: st) V L N I a b :=
  x_callV (As := [a1, a2, a3]) C w d hR hi ho rfl hDD (okH_s h18 hok) (okH_c hok) hroom (fun X V1 L1 N1 I1 h => by cases h.1) (fun r1 V1 L1 N1 I1 h => by obtain ⟨h1, h2, rfl, rfl, rfl⟩ := h; cases h1; exact K V1 h2)
theorem x_hS3 (C : OK E own cc nL ret D MC MS) {idx D1 mL : Nat} {y : MethodName} {c1 : ByteArray} {r1 : Option FieldType} {a1 a2 a3 : AV} {r : Option AV} {V' : VV} {L' : LL} {N' : NN} {I' : List Nat} (w : CSk own idx 3 y c1 mL r1) (d : decode cc pc = .ok (.invokestatic idx, 3)) (hR : Runs (eL E) D1 0 0 y (Cond.code y c1 mL r1) ([a1, a2, a3]) V L N I (Is r V' L' N' I'))
    (hDD : D1 + 1 ≤ D) (h18 : 18 ∈ I) (hok : okH ls st = true) (hroom : a ≤ MC ∧ b ≤ MS) (K : Wx E (pc + 3) ls (r.toList ++ st) V' L' N' I' a b) : Wx E pc ls (a3 :: a2 :: a1 :: st) V L N I a b :=
  x_callS1 (As := [a1, a2, a3]) C w d hR rfl hDD (okH_s h18 hok) (okH_c hok) hroom K
theorem x_hV4 (C : OK E own cc nL ret D MC MS) {idx ci o D1 mL : Nat} {y : MethodName} {c1 : ByteArray} {r1 : Option FieldType} {a1 a2 a3 a4 : AV} {r : Option AV} {V' : VV} {L' : LL} {N' : NN} {I' : List Nat} (w : CVk own idx ci 4 y c1 mL r1) (d : decode cc pc = .ok (.invokevirtual idx, 3)) (hR : Runs (eL E) D1 0 0 y (Cond.code y c1 mL r1) (aR o :: [a1, a2, a3, a4]) V L N I (Is r V' L' N' I'))
    (hi : o ∈ I) (ho : ocl o = some ci) (hDD : D1 + 1 ≤ D) (h18 : 18 ∈ I) (hok : okH ls st = true) (hroom : a ≤ MC ∧ b ≤ MS) (K : Wx E (pc + 3) ls (r.toList ++ st) V' L' N' I' a b) : Wx E pc ls (a4 :: a3 :: a2 :: a1 :: aR o :: st) V L N I a b :=
  x_callV1 (As := [a1, a2, a3, a4]) C w d hR hi ho rfl hDD (okH_s h18 hok) (okH_c hok) hroom K
theorem x_hpV4 (C : OK E own cc nL ret D MC MS) {idx ci o D1 mL : Nat} {y : MethodName} {c1 : ByteArray} {r1 : Option FieldType} {a1 a2 a3 a4 : AV} {r : Option AV} {Q : VV → Prop} {L' : LL} {N' : NN} {I' : List Nat} (w : CVk own idx ci 4 y c1 mL r1) (d : decode cc pc = .ok (.invokevirtual idx, 3)) (hR : Runs (eL E) D1 0 0 y (Cond.code y c1 mL r1) (aR o :: [a1, a2, a3, a4]) V L N I (Pm r Q L' N' I'))
    (hi : o ∈ I) (ho : ocl o = some ci) (hDD : D1 + 1 ≤ D) (h18 : 18 ∈ I) (hok : okH ls st = true) (hroom : a ≤ MC ∧ b ≤ MS) (K : ∀ V', Q V' → Wx E (pc + 3) ls (r.toList ++ st) V' L' N' I' a b) : Wx E pc ls (a4 :: a3 :: a2 :: a1 :: aR o :: st) V L N I a b :=
  x_callV (As := [a1, a2, a3, a4]) C w d hR hi ho rfl hDD (okH_s h18 hok) (okH_c hok) hroom (fun X V1 L1 N1 I1 h => by cases h.1) (fun r1 V1 L1 N1 I1 h => by obtain ⟨h1, h2, rfl, rfl, rfl⟩ := h; cases h1; exact K V1 h2)
theorem x_hS4 (C : OK E own cc nL ret D MC MS) {idx D1 mL : Nat} {y : MethodName} {c1 : ByteArray} {r1 : Option FieldType} {a1 a2 a3 a4 : AV} {r : Option AV} {V' : VV} {L' : LL} {N' : NN} {I' : List Nat} (w : CSk own idx 4 y c1 mL r1) (d : decode cc pc = .ok (.invokestatic idx, 3)) (hR : Runs (eL E) D1 0 0 y (Cond.code y c1 mL r1) ([a1, a2, a3, a4]) V L N I (Is r V' L' N' I'))
    (hDD : D1 + 1 ≤ D) (h18 : 18 ∈ I) (hok : okH ls st = true) (hroom : a ≤ MC ∧ b ≤ MS) (K : Wx E (pc + 3) ls (r.toList ++ st) V' L' N' I' a b) : Wx E pc ls (a4 :: a3 :: a2 :: a1 :: st) V L N I a b :=
  x_callS1 (As := [a1, a2, a3, a4]) C w d hR rfl hDD (okH_s h18 hok) (okH_c hok) hroom K
end
def htL (L : LL) (v : Int64) : LL := upL L 18 0 (31 * L 18 0 + v)
def htA (V : VV) (s : Nat) (L : LL) : Nat → LL
  | 0 => L
  | w + 1 => htL (htA V s L w) (spV V s w).toInt64
def rpT (V : VV) (n s : Nat) : Int32 := repT (CF V) (V 21) (V 22 (V 30 s).toNatClampNeg + V 23 (V 30 s).toNatClampNeg) n s
def htR (V : VV) (n s : Nat) (L : LL) : LL := htL (htA V s L 12) (rpT V n s).toInt64
def htS (V : VV) (n s : Nat) (L : LL) : LL := if V 29 s = 0 then htL (htR V n s L) (grtS V n s).toInt64 else htR V n s L
def hdA (V : VV) (n d : Nat) (L : LL) : Nat → LL
  | 0 => L
  | w + 1 => htL (hdA V n d L w) (dayS (CF V) (AF 6 V) (V 21 6) n d w).toInt64
def hdB (V : VV) (n d : Nat) (L : LL) : Nat → LL
  | 0 => L
  | h + 1 => htL (htL (hdB V n d L h) (planS (CF V) n (nI d) (nI h)).toInt64) (spS (CF V) (AF 6 V) n (nI d) (nI h)).toInt64
set_option maxRecDepth 100000 in
set_option maxHeartbeats 4000000 in
theorem c_X6_greatestHarmlessOverrun {l : Launch} {V : VV} {L : LL} {N : NN} {I : List Nat} (hI : PI I) {n : Nat} (hn : V 20 7 = nI n) (hn24 : n ≤ 24) (hdy : ∀ s, s < n → ∃ d, d < 7 ∧ V 31 s = nI d) (s : Nat) (hs : s < n) : Runs l 5 0 0 yX6_greatestHarmlessOverrun (Cond.code yX6_greatestHarmlessOverrun cX6_greatestHarmlessOverrun 6 (some .int)) [aR 0, aI (nI s)] V L N I (Pm (some (aI (grtS V n s))) (fun V1 => SmA 12 V V1) L N I) := by
  refine run_of RX6 (by decide +kernel) rfl (Nat.le_of_ble_eq_true rfl) (fun E hE C hQ hN => ?_)
  subst hE
  refine x_aload_n (pc := 0) C dX6_greatestHarmlessOverrun_0 rfl ?_
  refine x_iload_n (pc := 1) C dX6_greatestHarmlessOverrun_1 rfl ?_
  refine x_bipush (pc := 2) C (-60) dX6_greatestHarmlessOverrun_2 (by decide) ?_
  refine x_pV2 (pc := 4) (o := 0) C v_X6_345 dX6_greatestHarmlessOverrun_4 (c_X6_isHarmless hI hn hn24 hdy s hs (-60)) (hI 0 rfl) rfl (by decide) rfl ⟨Nat.le_refl _, Nat.le_refl _⟩ (fun V1 hV1 => ?_)
  refine x_if_ne (pc := 7) (tgt := 13) C dX6_greatestHarmlessOverrun_7 (by decide) (fun h7 => ?_) (fun h7 => ?_)
  · have hm := b2i_t h7
    refine x_bipush (pc := 13) C (-60) dX6_greatestHarmlessOverrun_13 (by decide) ?_
    refine y_istore_n (pc := 15) C dX6_greatestHarmlessOverrun_15 (by decide) rfl ?_
    refine x_bipush (pc := 16) C (121) dX6_greatestHarmlessOverrun_16 (by decide) ?_
    refine y_istore_n (pc := 18) C dX6_greatestHarmlessOverrun_18 (by decide) rfl ?_
    refine x_iconst (pc := 19) C (0) dX6_greatestHarmlessOverrun_19 (by decide) ?_
    refine y_istore (pc := 20) C dX6_greatestHarmlessOverrun_20 (by decide) rfl ?_
    suffices key : ∀ (k i : Nat) (V1 : VV) (lo hi : Int32) (x : Option AV), k + i = 8 → (SmA 12 V V1 ∧ grtS V n s = bsS (hrmB V n s) k lo hi) → Wx E 22 [some (aR 0), some (aI (nI s)), some (aI lo), some (aI hi), some (aI (nI i)), x] [] V1 L N I 0 0 by
      exact key (8) 0 V1 _ _ none (by omega) (⟨hV1, by unfold grtS; rw [if_pos hm]⟩)
    intro k
    induction k with
    | zero =>
      intro i V1 lo hi x hk hinv
      refine x_iload (pc := 22) C dX6_greatestHarmlessOverrun_22 rfl ?_
      refine x_bipush (pc := 24) C (8) dX6_greatestHarmlessOverrun_24 (by decide) ?_
      refine x_icmp_ge (pc := 26) (tgt := 70) C dX6_greatestHarmlessOverrun_26 (by decide) (fun h26 => ?_) (fun h26 => absurd (by exact nI_le (a := 8) (b := i) (by omega) (by omega)) h26)
      refine x_iload_n (pc := 70) C dX6_greatestHarmlessOverrun_70 rfl ?_
      exact x_iret (pc := 71) C hQ dX6_greatestHarmlessOverrun_71 (pm_i (by rw [hinv.2]; rfl) hinv.1) (Nat.le_of_ble_eq_true rfl) (Nat.le_of_ble_eq_true rfl)
    | succ k ih =>
      intro i V1 lo hi x hk hinv
      refine x_iload (pc := 22) C dX6_greatestHarmlessOverrun_22 rfl ?_
      refine x_bipush (pc := 24) C (8) dX6_greatestHarmlessOverrun_24 (by decide) ?_
      refine x_icmp_ge (pc := 26) (tgt := 70) C dX6_greatestHarmlessOverrun_26 (by decide) (fun h26 => absurd h26 (by exact nI_ge (a := i) (b := 8) (by omega) (by omega))) (fun h26 => ?_)
      refine x_iload_n (pc := 29) C dX6_greatestHarmlessOverrun_29 rfl ?_
      refine x_iload_n (pc := 30) C dX6_greatestHarmlessOverrun_30 rfl ?_
      refine x_isub (pc := 31) C dX6_greatestHarmlessOverrun_31 ?_
      refine x_iconst (pc := 32) C (1) dX6_greatestHarmlessOverrun_32 (by decide) ?_
      refine x_icmp_le (pc := 33) (tgt := 70) C dX6_greatestHarmlessOverrun_33 (by decide) (fun h33 => ?_) (fun h33 => ?_)
      · refine x_iload_n (pc := 70) C dX6_greatestHarmlessOverrun_70 rfl ?_
        exact x_iret (pc := 71) C hQ dX6_greatestHarmlessOverrun_71 (pm_i (by rw [hinv.2, bs_1 h33]) hinv.1) (Nat.le_of_ble_eq_true rfl) (Nat.le_of_ble_eq_true rfl)
      · refine x_iload_n (pc := 36) C dX6_greatestHarmlessOverrun_36 rfl ?_
        refine x_iload_n (pc := 37) C dX6_greatestHarmlessOverrun_37 rfl ?_
        refine x_iload_n (pc := 38) C dX6_greatestHarmlessOverrun_38 rfl ?_
        refine x_isub (pc := 39) C dX6_greatestHarmlessOverrun_39 ?_
        refine x_iconst (pc := 40) C (2) dX6_greatestHarmlessOverrun_40 (by decide) ?_
        refine x_idiv (pc := 41) C dX6_greatestHarmlessOverrun_41 (by decide) ?_
        refine x_iadd (pc := 42) C dX6_greatestHarmlessOverrun_42 ?_
        refine y_istore (pc := 43) C dX6_greatestHarmlessOverrun_43 (by decide) rfl ?_
        refine x_aload_n (pc := 45) C dX6_greatestHarmlessOverrun_45 rfl ?_
        refine x_iload_n (pc := 46) C dX6_greatestHarmlessOverrun_46 rfl ?_
        refine x_iload (pc := 47) C dX6_greatestHarmlessOverrun_47 rfl ?_
        refine x_pV2 (pc := 49) (o := 0) C v_X6_345 dX6_greatestHarmlessOverrun_49 (c_X6_isHarmless (V := V1) hI (by rw [hinv.1 20 (by decide)]; exact hn) hn24 (by rw [hinv.1 31 (by decide)]; exact hdy) s hs _) (hI 0 rfl) rfl (by decide) rfl ⟨Nat.le_refl _, Nat.le_refl _⟩ (fun V2 hV2 => ?_)
        refine x_if_eq (pc := 52) (tgt := 61) C dX6_greatestHarmlessOverrun_52 (by decide) (fun h52 => ?_) (fun h52 => ?_)
        · refine x_iload (pc := 61) C dX6_greatestHarmlessOverrun_61 rfl ?_
          refine y_istore_n (pc := 63) C dX6_greatestHarmlessOverrun_63 (by decide) rfl ?_
          refine y_iinc (pc := 64) C (nI (i + 1)) dX6_greatestHarmlessOverrun_64 rfl (by exact nI_1 i) (by decide) rfl ?_
          refine x_goto (pc := 67) (tgt := 22) C dX6_greatestHarmlessOverrun_67 (by decide) ?_
          exact ih (i + 1) _ _ _ _ (by omega) (⟨sma_t hinv.1 hV2, by rw [hinv.2, bs_3 h33 (by rw [← hrm_sm hinv.1]; exact b2i_f h52)]⟩)
        · refine x_iload (pc := 55) C dX6_greatestHarmlessOverrun_55 rfl ?_
          refine y_istore_n (pc := 57) C dX6_greatestHarmlessOverrun_57 (by decide) rfl ?_
          refine x_goto (pc := 58) (tgt := 64) C dX6_greatestHarmlessOverrun_58 (by decide) ?_
          refine y_iinc (pc := 64) C (nI (i + 1)) dX6_greatestHarmlessOverrun_64 rfl (by exact nI_1 i) (by decide) rfl ?_
          refine x_goto (pc := 67) (tgt := 22) C dX6_greatestHarmlessOverrun_67 (by decide) ?_
          exact ih (i + 1) _ _ _ _ (by omega) (⟨sma_t hinv.1 hV2, by rw [hinv.2, bs_2 h33 (by rw [← hrm_sm hinv.1]; exact b2i_t h52)]⟩)
  · refine x_bipush (pc := 10) C (-101) dX6_greatestHarmlessOverrun_10 (by decide) ?_
    exact x_iret (pc := 12) C hQ dX6_greatestHarmlessOverrun_12 (pm_i (by unfold grtS; rw [if_neg (b2i_n h7)]) hV1) (Nat.le_of_ble_eq_true rfl) (Nat.le_of_ble_eq_true rfl)
set_option maxRecDepth 100000 in
set_option maxHeartbeats 4000000 in
theorem c_X6_greatestOverrun {l : Launch} {V : VV} {L : LL} {N : NN} {I : List Nat} (hI : PI I) {n : Nat} (hn : V 20 7 = nI n) (hn24 : n ≤ 24) (hdy : ∀ s, s < n → ∃ d, d < 7 ∧ V 31 s = nI d) (x : Int32) : Runs l 6 1 6 yX6_greatestOverrun (Cond.code yX6_greatestOverrun cX6_greatestOverrun 2 (some .int)) [aR 0, aI x] V L N I (Ei (decide (¬ x < 0 ∧ x < nI n)) "java/lang/IndexOutOfBoundsException" (Ei (decide (V 29 x.toNatClampNeg = 0)) "java/lang/IllegalStateException" (Pm (some (aI (grtS V n x.toNatClampNeg))) (fun V1 => SmA 12 V V1) L N I) V L N I) V L N I) := by
  refine run_of RX6 (by decide +kernel) rfl (Nat.le_of_ble_eq_true rfl) (fun E hE C hQ hN => ?_)
  subst hE
  refine x_aload_n (pc := 0) C dX6_greatestOverrun_0 rfl ?_
  refine x_getR (pc := 1) (o := 0) (j := 20) C f_X6_10 dX6_greatestOverrun_1 (hI 0 rfl) ⟨rfl, rfl⟩ ?_
  refine x_iload_n (pc := 4) C dX6_greatestOverrun_4 rfl ?_
  refine x_cV1 (pc := 5) (o := 20) C v_X6_114 dX6_greatestOverrun_5 (c_X3_hasShow hI hn hn24 _) (hI 20 rfl) rfl (by decide) rfl ⟨by decide, by decide⟩ ?_
  refine x_if_ne (pc := 8) (tgt := 21) C dX6_greatestOverrun_8 (by decide) (fun h8 => ?_) (fun h8 => ?_)
  · have hw := b2i_t h8
    have hd := of_decide_eq_true hw
    obtain ⟨s, hs, hsl⟩ := nI_in_of hd.1 hd.2 hn24
    subst hs
    have hcl : (nI s).toNatClampNeg = s := nI_clamp (by omega)
    refine x_aload_n (pc := 21) C dX6_greatestOverrun_21 rfl ?_
    refine x_getR (pc := 22) (o := 0) (j := 20) C f_X6_10 dX6_greatestOverrun_22 (hI 0 rfl) ⟨rfl, rfl⟩ ?_
    refine x_getR (pc := 25) (o := 20) (j := 29) C f_X6_124 dX6_greatestOverrun_25 (hI 20 rfl) ⟨rfl, rfl⟩ ?_
    refine x_iload_n (pc := 28) C dX6_greatestOverrun_28 rfl ?_
    refine x_iald (pc := 29) (o := 29) C dX6_greatestOverrun_29 (hI 29 rfl) ⟨rfl, rfl⟩ (show _ < 24 by omega) (by decide) ?_
    refine x_if_eq (pc := 30) (tgt := 43) C dX6_greatestOverrun_30 (by decide) (fun h30 => ?_) (fun h30 => ?_)
    · have hw3 : decide (V 29 (nI s).toNatClampNeg = 0) = true := decide_eq_true (by rw [hcl]; exact h30)
      refine x_aload_n (pc := 43) C dX6_greatestOverrun_43 rfl ?_
      refine x_iload_n (pc := 44) C dX6_greatestOverrun_44 rfl ?_
      refine x_pV1 (pc := 45) (o := 0) C v_X6_243 dX6_greatestOverrun_45 (c_X6_greatestHarmlessOverrun hI hn hn24 hdy s hsl) (hI 0 rfl) rfl (by decide) rfl ⟨by decide, by decide⟩ (fun V1 hV1 => ?_)
      exact x_iret (pc := 48) C hQ dX6_greatestOverrun_48 (ei_t hw (ei_t hw3 (pm_i (by rw [hcl]) hV1))) (Nat.le_of_ble_eq_true rfl) (Nat.le_of_ble_eq_true rfl)
    · exact x_throw (pc := 33) C hQ hN t_X6_127_129_131 dX6_greatestOverrun_33 dX6_greatestOverrun_36 dX6_greatestOverrun_37 dX6_greatestOverrun_39 dX6_greatestOverrun_42 (by decide) rfl ⟨by decide, by decide, by decide, by decide⟩ (ei_t hw (ei_f (decide_eq_false (by rw [hcl]; exact h30))))
  · exact x_throw (pc := 11) C hQ hN t_X6_55_110_59 dX6_greatestOverrun_11 dX6_greatestOverrun_14 dX6_greatestOverrun_15 dX6_greatestOverrun_17 dX6_greatestOverrun_20 (by decide) rfl ⟨by decide, by decide, by decide, by decide⟩ (ei_f (b2i_f h8))
set_option maxRecDepth 100000 in
set_option maxHeartbeats 4000000 in
theorem c_X1_take {l : Launch} {V : VV} {L : LL} {N : NN} {I : List Nat} (h18 : 18 ∈ I) (v : Int64) : Runs l 1 0 0 yX1_take (Cond.code yX1_take cX1_take 3 none) [aR 18, aL v] V L N I (Is none (V) (htL L v) N I) := by
  refine run_of RX1 (by decide +kernel) rfl (Nat.le_of_ble_eq_true rfl) (fun E hE C hQ hN => ?_)
  subst hE
  refine x_aload_n (pc := 0) C dX1_take_0 rfl ?_
  refine x_ldc2 (pc := 1) C dX1_take_1 (show Cond.constantLong RX1 15 31 ∈ U0 from u0_in 452 (by decide +kernel) rfl) ?_
  refine x_aload_n (pc := 4) C dX1_take_4 rfl ?_
  refine x_getL (pc := 5) (o := 18) C f_X1_9 dX1_take_5 h18 ⟨rfl, rfl, rfl⟩ ?_
  refine x_lmul (pc := 8) C dX1_take_8 ?_
  refine x_lload_n (pc := 9) C dX1_take_9 rfl ?_
  refine x_ladd (pc := 10) C dX1_take_10 ?_
  refine x_putL (pc := 11) (o := 18) C p_X1_9 dX1_take_11 h18 ⟨rfl, rfl, rfl⟩ ?_
  exact x_vret (pc := 14) C hQ dX1_take_14 (⟨rfl, rfl, rfl, rfl, rfl⟩) (Nat.le_of_ble_eq_true rfl) (Nat.le_of_ble_eq_true rfl)
