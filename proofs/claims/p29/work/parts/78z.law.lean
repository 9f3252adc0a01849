-- the law's rules: calls with what lies in J among the values, new rows of ints, shifts, constants
def ndSG (J : List Nat) : List AV → Bool
  | [] => true
  | .inr i :: r => (!dyn i || J.contains i) && ndSG J r
  | .inl _ :: r => ndSG J r
def ndLG (J : List Nat) : zLS → Bool
  | [] => true
  | some (.inr i) :: r => (!dyn i || J.contains i) && ndLG J r
  | some (.inl _) :: r => ndLG J r
  | none :: r => ndLG J r
theorem okS_ndG {I J : List Nat} (hJ : ∀ j, j ∈ J → j ∈ I) : ∀ {st : List AV}, ndSG J st = true → okS I st
  | [], _ => trivial
  | .inr i :: r, h => by
    simp only [ndSG, Bool.and_eq_true, Bool.or_eq_true, Bool.not_eq_true'] at h
    exact ⟨h.1.imp id (fun e => hJ i (List.contains_iff_mem.mp e)), okS_ndG hJ h.2⟩
  | .inl _ :: r, h => okS_ndG hJ (st := r) h
theorem okL_ndG {I J : List Nat} (hJ : ∀ j, j ∈ J → j ∈ I) : ∀ {ls : zLS}, ndLG J ls = true → okL I ls
  | [], _ => trivial
  | some (.inr i) :: r, h => by
    simp only [ndLG, Bool.and_eq_true, Bool.or_eq_true, Bool.not_eq_true'] at h
    exact ⟨h.1.imp id (fun e => hJ i (List.contains_iff_mem.mp e)), okL_ndG hJ h.2⟩
  | some (.inl _) :: r, h => okL_ndG hJ (ls := r) h
  | none :: r, h => okL_ndG hJ (ls := r) h
def okG (J : List Nat) (ls : zLS) (st : List AV) : Bool := ndSG J st && ndLG J ls && Nat.ble (catS st) 8
theorem okG_s {I J : List Nat} (hJ : ∀ j, j ∈ J → j ∈ I) {ls : zLS} {st : List AV} (h : okG J ls st = true) : okS I st ∧ okL I ls := by
  simp only [okG, Bool.and_eq_true] at h
  exact ⟨okS_ndG hJ h.1.1, okL_ndG hJ h.1.2⟩
theorem okG_c {J : List Nat} {ls : zLS} {st : List AV} (h : okG J ls st = true) : catS st ≤ 8 := by
  simp only [okG, Bool.and_eq_true] at h
  exact Nat.le_of_ble_eq_true h.2
section
variable {E : EE} {own : String} {cc : ByteArray} {ret : Option FieldType} {nL D MC MS pc : Nat} {ls : zLS} {st : List AV} {V : VV} {L : LL} {N : NN} {I : List Nat} {a b mc ms : Nat}
theorem x_gV0 (C : OK E own cc nL ret D MC MS) (J : List Nat) (hJ : ∀ j, j ∈ J → j ∈ I) {idx ci o D1 mL : Nat} {y : MethodName} {c1 : ByteArray} {r1 : Option FieldType} {r : Option AV} {V' : VV} {L' : LL} {N' : NN} {I' : List Nat} (w : CVk own idx ci 0 y c1 mL r1) (d : decode cc pc = .ok (.invokevirtual idx, 3)) (hR : Runs (eL E) D1 mc ms y (Cond.code y c1 mL r1) (aR o :: []) V L N I (Is r V' L' N' I'))
    (hi : o ∈ I) (ho : ocl o = some ci) (hDD : D1 + 1 ≤ D) (hok : okG J ls st = true) (hroom : a + mc ≤ MC ∧ b + ms ≤ MS) (K : Wx E (pc + 3) ls (r.toList ++ st) V' L' N' I' (a + mc) (b + ms)) : Wx E pc ls (aR o :: st) V L N I a b :=
  x_callV (As := []) C w d hR hi ho rfl hDD (okG_s hJ hok) (okG_c hok) hroom (fun X V1 L1 N1 I1 h => by cases h.1) (fun r1 V1 L1 N1 I1 h => by obtain ⟨h1, rfl, rfl, rfl, rfl⟩ := h; cases h1; exact K)
theorem x_gpV0 (C : OK E own cc nL ret D MC MS) (J : List Nat) (hJ : ∀ j, j ∈ J → j ∈ I) {idx ci o D1 mL : Nat} {y : MethodName} {c1 : ByteArray} {r1 : Option FieldType} {r : Option AV} {Q : VV → Prop} {L' : LL} {N' : NN} {I' : List Nat} (w : CVk own idx ci 0 y c1 mL r1) (d : decode cc pc = .ok (.invokevirtual idx, 3)) (hR : Runs (eL E) D1 mc ms y (Cond.code y c1 mL r1) (aR o :: []) V L N I (Pm r Q L' N' I'))
    (hi : o ∈ I) (ho : ocl o = some ci) (hDD : D1 + 1 ≤ D) (hok : okG J ls st = true) (hroom : a + mc ≤ MC ∧ b + ms ≤ MS) (K : ∀ V', Q V' → Wx E (pc + 3) ls (r.toList ++ st) V' L' N' I' (a + mc) (b + ms)) : Wx E pc ls (aR o :: st) V L N I a b :=
  x_callV (As := []) C w d hR hi ho rfl hDD (okG_s hJ hok) (okG_c hok) hroom (fun X V1 L1 N1 I1 h => by cases h.1) (fun r1 V1 L1 N1 I1 h => by obtain ⟨h1, h2, rfl, rfl, rfl⟩ := h; cases h1; exact K V1 h2)
theorem x_gS0 (C : OK E own cc nL ret D MC MS) (J : List Nat) (hJ : ∀ j, j ∈ J → j ∈ I) {idx D1 mL : Nat} {y : MethodName} {c1 : ByteArray} {r1 : Option FieldType} {r : Option AV} {V' : VV} {L' : LL} {N' : NN} {I' : List Nat} (w : CTk own idx 0 y c1 mL r1) (d : decode cc pc = .ok (.invokestatic idx, 3)) (hR : Runs (eL E) D1 mc ms y (Cond.code y c1 mL r1) [] V L N I (Is r V' L' N' I'))
    (hDD : D1 + 2 ≤ D) (hok : okG J ls st = true) (hroom : a + mc ≤ MC ∧ b + ms ≤ MS) (K : Wx E (pc + 3) ls (r.toList ++ st) V' L' N' I' (a + mc) (b + ms)) : Wx E pc ls (st) V L N I a b :=
  x_callT (As := []) C w d hR rfl hDD (okG_s hJ hok) (okG_c hok) hroom (fun X V1 L1 N1 I1 h => by cases h.1) (fun r1 V1 L1 N1 I1 h => by obtain ⟨h1, rfl, rfl, rfl, rfl⟩ := h; cases h1; exact K)
theorem x_gpS0 (C : OK E own cc nL ret D MC MS) (J : List Nat) (hJ : ∀ j, j ∈ J → j ∈ I) {idx D1 mL : Nat} {y : MethodName} {c1 : ByteArray} {r1 : Option FieldType} {r : Option AV} {Q : VV → Prop} {L' : LL} {N' : NN} {I' : List Nat} (w : CTk own idx 0 y c1 mL r1) (d : decode cc pc = .ok (.invokestatic idx, 3)) (hR : Runs (eL E) D1 mc ms y (Cond.code y c1 mL r1) [] V L N I (Pm r Q L' N' I'))
    (hDD : D1 + 2 ≤ D) (hok : okG J ls st = true) (hroom : a + mc ≤ MC ∧ b + ms ≤ MS) (K : ∀ V', Q V' → Wx E (pc + 3) ls (r.toList ++ st) V' L' N' I' (a + mc) (b + ms)) : Wx E pc ls (st) V L N I a b :=
  x_callT (As := []) C w d hR rfl hDD (okG_s hJ hok) (okG_c hok) hroom (fun X V1 L1 N1 I1 h => by cases h.1) (fun r1 V1 L1 N1 I1 h => by obtain ⟨h1, h2, rfl, rfl, rfl⟩ := h; cases h1; exact K V1 h2)
theorem x_gV1 (C : OK E own cc nL ret D MC MS) (J : List Nat) (hJ : ∀ j, j ∈ J → j ∈ I) {idx ci o D1 mL : Nat} {y : MethodName} {c1 : ByteArray} {r1 : Option FieldType} {a1 : AV} {r : Option AV} {V' : VV} {L' : LL} {N' : NN} {I' : List Nat} (w : CVk own idx ci 1 y c1 mL r1) (d : decode cc pc = .ok (.invokevirtual idx, 3)) (hR : Runs (eL E) D1 mc ms y (Cond.code y c1 mL r1) (aR o :: [a1]) V L N I (Is r V' L' N' I'))
    (hi : o ∈ I) (ho : ocl o = some ci) (hDD : D1 + 1 ≤ D) (hok : okG J ls st = true) (hroom : a + mc ≤ MC ∧ b + ms ≤ MS) (K : Wx E (pc + 3) ls (r.toList ++ st) V' L' N' I' (a + mc) (b + ms)) : Wx E pc ls (a1 :: aR o :: st) V L N I a b :=
  x_callV (As := [a1]) C w d hR hi ho rfl hDD (okG_s hJ hok) (okG_c hok) hroom (fun X V1 L1 N1 I1 h => by cases h.1) (fun r1 V1 L1 N1 I1 h => by obtain ⟨h1, rfl, rfl, rfl, rfl⟩ := h; cases h1; exact K)
theorem x_gpV1 (C : OK E own cc nL ret D MC MS) (J : List Nat) (hJ : ∀ j, j ∈ J → j ∈ I) {idx ci o D1 mL : Nat} {y : MethodName} {c1 : ByteArray} {r1 : Option FieldType} {a1 : AV} {r : Option AV} {Q : VV → Prop} {L' : LL} {N' : NN} {I' : List Nat} (w : CVk own idx ci 1 y c1 mL r1) (d : decode cc pc = .ok (.invokevirtual idx, 3)) (hR : Runs (eL E) D1 mc ms y (Cond.code y c1 mL r1) (aR o :: [a1]) V L N I (Pm r Q L' N' I'))
    (hi : o ∈ I) (ho : ocl o = some ci) (hDD : D1 + 1 ≤ D) (hok : okG J ls st = true) (hroom : a + mc ≤ MC ∧ b + ms ≤ MS) (K : ∀ V', Q V' → Wx E (pc + 3) ls (r.toList ++ st) V' L' N' I' (a + mc) (b + ms)) : Wx E pc ls (a1 :: aR o :: st) V L N I a b :=
  x_callV (As := [a1]) C w d hR hi ho rfl hDD (okG_s hJ hok) (okG_c hok) hroom (fun X V1 L1 N1 I1 h => by cases h.1) (fun r1 V1 L1 N1 I1 h => by obtain ⟨h1, h2, rfl, rfl, rfl⟩ := h; cases h1; exact K V1 h2)
theorem x_gS1 (C : OK E own cc nL ret D MC MS) (J : List Nat) (hJ : ∀ j, j ∈ J → j ∈ I) {idx D1 mL : Nat} {y : MethodName} {c1 : ByteArray} {r1 : Option FieldType} {a1 : AV} {r : Option AV} {V' : VV} {L' : LL} {N' : NN} {I' : List Nat} (w : CTk own idx 1 y c1 mL r1) (d : decode cc pc = .ok (.invokestatic idx, 3)) (hR : Runs (eL E) D1 mc ms y (Cond.code y c1 mL r1) [a1] V L N I (Is r V' L' N' I'))
    (hDD : D1 + 2 ≤ D) (hok : okG J ls st = true) (hroom : a + mc ≤ MC ∧ b + ms ≤ MS) (K : Wx E (pc + 3) ls (r.toList ++ st) V' L' N' I' (a + mc) (b + ms)) : Wx E pc ls (a1 :: st) V L N I a b :=
  x_callT (As := [a1]) C w d hR rfl hDD (okG_s hJ hok) (okG_c hok) hroom (fun X V1 L1 N1 I1 h => by cases h.1) (fun r1 V1 L1 N1 I1 h => by obtain ⟨h1, rfl, rfl, rfl, rfl⟩ := h; cases h1; exact K)
theorem x_gpS1 (C : OK E own cc nL ret D MC MS) (J : List Nat) (hJ : ∀ j, j ∈ J → j ∈ I) {idx D1 mL : Nat} {y : MethodName} {c1 : ByteArray} {r1 : Option FieldType} {a1 : AV} {r : Option AV} {Q : VV → Prop} {L' : LL} {N' : NN} {I' : List Nat} (w : CTk own idx 1 y c1 mL r1) (d : decode cc pc = .ok (.invokestatic idx, 3)) (hR : Runs (eL E) D1 mc ms y (Cond.code y c1 mL r1) [a1] V L N I (Pm r Q L' N' I'))
    (hDD : D1 + 2 ≤ D) (hok : okG J ls st = true) (hroom : a + mc ≤ MC ∧ b + ms ≤ MS) (K : ∀ V', Q V' → Wx E (pc + 3) ls (r.toList ++ st) V' L' N' I' (a + mc) (b + ms)) : Wx E pc ls (a1 :: st) V L N I a b :=
  x_callT (As := [a1]) C w d hR rfl hDD (okG_s hJ hok) (okG_c hok) hroom (fun X V1 L1 N1 I1 h => by cases h.1) (fun r1 V1 L1 N1 I1 h => by obtain ⟨h1, h2, rfl, rfl, rfl⟩ := h; cases h1; exact K V1 h2)
theorem x_gV2 (C : OK E own cc nL ret D MC MS) (J : List Nat) (hJ : ∀ j, j ∈ J → j ∈ I) {idx ci o D1 mL : Nat} {y : MethodName} {c1 : ByteArray} {r1 : Option FieldType} {a1 a2 : AV} {r : Option AV} {V' : VV} {L' : LL} {N' : NN} {I' : List Nat} (w : CVk own idx ci 2 y c1 mL r1) (d : decode cc pc = .ok (.invokevirtual idx, 3)) (hR : Runs (eL E) D1 mc ms y (Cond.code y c1 mL r1) (aR o :: [a1, a2]) V L N I (Is r V' L' N' I'))
    (hi : o ∈ I) (ho : ocl o = some ci) (hDD : D1 + 1 ≤ D) (hok : okG J ls st = true) (hroom : a + mc ≤ MC ∧ b + ms ≤ MS) (K : Wx E (pc + 3) ls (r.toList ++ st) V' L' N' I' (a + mc) (b + ms)) : Wx E pc ls (a2 :: a1 :: aR o :: st) V L N I a b :=
  x_callV (As := [a1, a2]) C w d hR hi ho rfl hDD (okG_s hJ hok) (okG_c hok) hroom (fun X V1 L1 N1 I1 h => by cases h.1) (fun r1 V1 L1 N1 I1 h => by obtain ⟨h1, rfl, rfl, rfl, rfl⟩ := h; cases h1; exact K)
theorem x_gpV2 (C : OK E own cc nL ret D MC MS) (J : List Nat) (hJ : ∀ j, j ∈ J → j ∈ I) {idx ci o D1 mL : Nat} {y : MethodName} {c1 : ByteArray} {r1 : Option FieldType} {a1 a2 : AV} {r : Option AV} {Q : VV → Prop} {L' : LL} {N' : NN} {I' : List Nat} (w : CVk own idx ci 2 y c1 mL r1) (d : decode cc pc = .ok (.invokevirtual idx, 3)) (hR : Runs (eL E) D1 mc ms y (Cond.code y c1 mL r1) (aR o :: [a1, a2]) V L N I (Pm r Q L' N' I'))
    (hi : o ∈ I) (ho : ocl o = some ci) (hDD : D1 + 1 ≤ D) (hok : okG J ls st = true) (hroom : a + mc ≤ MC ∧ b + ms ≤ MS) (K : ∀ V', Q V' → Wx E (pc + 3) ls (r.toList ++ st) V' L' N' I' (a + mc) (b + ms)) : Wx E pc ls (a2 :: a1 :: aR o :: st) V L N I a b :=
  x_callV (As := [a1, a2]) C w d hR hi ho rfl hDD (okG_s hJ hok) (okG_c hok) hroom (fun X V1 L1 N1 I1 h => by cases h.1) (fun r1 V1 L1 N1 I1 h => by obtain ⟨h1, h2, rfl, rfl, rfl⟩ := h; cases h1; exact K V1 h2)
theorem x_gS2 (C : OK E own cc nL ret D MC MS) (J : List Nat) (hJ : ∀ j, j ∈ J → j ∈ I) {idx D1 mL : Nat} {y : MethodName} {c1 : ByteArray} {r1 : Option FieldType} {a1 a2 : AV} {r : Option AV} {V' : VV} {L' : LL} {N' : NN} {I' : List Nat} (w : CTk own idx 2 y c1 mL r1) (d : decode cc pc = .ok (.invokestatic idx, 3)) (hR : Runs (eL E) D1 mc ms y (Cond.code y c1 mL r1) [a1, a2] V L N I (Is r V' L' N' I'))
    (hDD : D1 + 2 ≤ D) (hok : okG J ls st = true) (hroom : a + mc ≤ MC ∧ b + ms ≤ MS) (K : Wx E (pc + 3) ls (r.toList ++ st) V' L' N' I' (a + mc) (b + ms)) : Wx E pc ls (a2 :: a1 :: st) V L N I a b :=
  x_callT (As := [a1, a2]) C w d hR rfl hDD (okG_s hJ hok) (okG_c hok) hroom (fun X V1 L1 N1 I1 h => by cases h.1) (fun r1 V1 L1 N1 I1 h => by obtain ⟨h1, rfl, rfl, rfl, rfl⟩ := h; cases h1; exact K)
theorem x_gpS2 (C : OK E own cc nL ret D MC MS) (J : List Nat) (hJ : ∀ j, j ∈ J → j ∈ I) {idx D1 mL : Nat} {y : MethodName} {c1 : ByteArray} {r1 : Option FieldType} {a1 a2 : AV} {r : Option AV} {Q : VV → Prop} {L' : LL} {N' : NN} {I' : List Nat} (w : CTk own idx 2 y c1 mL r1) (d : decode cc pc = .ok (.invokestatic idx, 3)) (hR : Runs (eL E) D1 mc ms y (Cond.code y c1 mL r1) [a1, a2] V L N I (Pm r Q L' N' I'))
    (hDD : D1 + 2 ≤ D) (hok : okG J ls st = true) (hroom : a + mc ≤ MC ∧ b + ms ≤ MS) (K : ∀ V', Q V' → Wx E (pc + 3) ls (r.toList ++ st) V' L' N' I' (a + mc) (b + ms)) : Wx E pc ls (a2 :: a1 :: st) V L N I a b :=
  x_callT (As := [a1, a2]) C w d hR rfl hDD (okG_s hJ hok) (okG_c hok) hroom (fun X V1 L1 N1 I1 h => by cases h.1) (fun r1 V1 L1 N1 I1 h => by obtain ⟨h1, h2, rfl, rfl, rfl⟩ := h; cases h1; exact K V1 h2)
theorem x_gV3 (C : OK E own cc nL ret D MC MS) (J : List Nat) (hJ : ∀ j, j ∈ J → j ∈ I) {idx ci o D1 mL : Nat} {y : MethodName} {c1 : ByteArray} {r1 : Option FieldType} {a1 a2 a3 : AV} {r : Option AV} {V' : VV} {L' : LL} {N' : NN} {I' : List Nat} (w : CVk own idx ci 3 y c1 mL r1) (d : decode cc pc = .ok (.invokevirtual idx, 3)) (hR : Runs (eL E) D1 mc ms y (Cond.code y c1 mL r1) (aR o :: [a1, a2, a3]) V L N I (Is r V' L' N' I'))
    (hi : o ∈ I) (ho : ocl o = some ci) (hDD : D1 + 1 ≤ D) (hok : okG J ls st = true) (hroom : a + mc ≤ MC ∧ b + ms ≤ MS) (K : Wx E (pc + 3) ls (r.toList ++ st) V' L' N' I' (a + mc) (b + ms)) : Wx E pc ls (a3 :: a2 :: a1 :: aR o :: st) V L N I a b :=
  x_callV (As := [a1, a2, a3]) C w d hR hi ho rfl hDD (okG_s hJ hok) (okG_c hok) hroom (fun X V1 L1 N1 I1 h => by cases h.1) (fun r1 V1 L1 N1 I1 h => by obtain ⟨h1, rfl, rfl, rfl, rfl⟩ := h; cases h1; exact K)
theorem x_gpV3 (C : OK E own cc nL ret D MC MS) (J : List Nat) (hJ : ∀ j, j ∈ J → j ∈ I) {idx ci o D1 mL : Nat} {y : MethodName} {c1 : ByteArray} {r1 : Option FieldType} {a1 a2 a3 : AV} {r : Option AV} {Q : VV → Prop} {L' : LL} {N' : NN} {I' : List Nat} (w : CVk own idx ci 3 y c1 mL r1) (d : decode cc pc = .ok (.invokevirtual idx, 3)) (hR : Runs (eL E) D1 mc ms y (Cond.code y c1 mL r1) (aR o :: [a1, a2, a3]) V L N I (Pm r Q L' N' I'))
    (hi : o ∈ I) (ho : ocl o = some ci) (hDD : D1 + 1 ≤ D) (hok : okG J ls st = true) (hroom : a + mc ≤ MC ∧ b + ms ≤ MS) (K : ∀ V', Q V' → Wx E (pc + 3) ls (r.toList ++ st) V' L' N' I' (a + mc) (b + ms)) : Wx E pc ls (a3 :: a2 :: a1 :: aR o :: st) V L N I a b :=
  x_callV (As := [a1, a2, a3]) C w d hR hi ho rfl hDD (okG_s hJ hok) (okG_c hok) hroom (fun X V1 L1 N1 I1 h => by cases h.1) (fun r1 V1 L1 N1 I1 h => by obtain ⟨h1, h2, rfl, rfl, rfl⟩ := h; cases h1; exact K V1 h2)
theorem x_gS3 (C : OK E own cc nL ret D MC MS) (J : List Nat) (hJ : ∀ j, j ∈ J → j ∈ I) {idx D1 mL : Nat} {y : MethodName} {c1 : ByteArray} {r1 : Option FieldType} {a1 a2 a3 : AV} {r : Option AV} {V' : VV} {L' : LL} {N' : NN} {I' : List Nat} (w : CTk own idx 3 y c1 mL r1) (d : decode cc pc = .ok (.invokestatic idx, 3)) (hR : Runs (eL E) D1 mc ms y (Cond.code y c1 mL r1) [a1, a2, a3] V L N I (Is r V' L' N' I'))
    (hDD : D1 + 2 ≤ D) (hok : okG J ls st = true) (hroom : a + mc ≤ MC ∧ b + ms ≤ MS) (K : Wx E (pc + 3) ls (r.toList ++ st) V' L' N' I' (a + mc) (b + ms)) : Wx E pc ls (a3 :: a2 :: a1 :: st) V L N I a b :=
  x_callT (As := [a1, a2, a3]) C w d hR rfl hDD (okG_s hJ hok) (okG_c hok) hroom (fun X V1 L1 N1 I1 h => by cases h.1) (fun r1 V1 L1 N1 I1 h => by obtain ⟨h1, rfl, rfl, rfl, rfl⟩ := h; cases h1; exact K)
theorem x_gpS3 (C : OK E own cc nL ret D MC MS) (J : List Nat) (hJ : ∀ j, j ∈ J → j ∈ I) {idx D1 mL : Nat} {y : MethodName} {c1 : ByteArray} {r1 : Option FieldType} {a1 a2 a3 : AV} {r : Option AV} {Q : VV → Prop} {L' : LL} {N' : NN} {I' : List Nat} (w : CTk own idx 3 y c1 mL r1) (d : decode cc pc = .ok (.invokestatic idx, 3)) (hR : Runs (eL E) D1 mc ms y (Cond.code y c1 mL r1) [a1, a2, a3] V L N I (Pm r Q L' N' I'))
    (hDD : D1 + 2 ≤ D) (hok : okG J ls st = true) (hroom : a + mc ≤ MC ∧ b + ms ≤ MS) (K : ∀ V', Q V' → Wx E (pc + 3) ls (r.toList ++ st) V' L' N' I' (a + mc) (b + ms)) : Wx E pc ls (a3 :: a2 :: a1 :: st) V L N I a b :=
  x_callT (As := [a1, a2, a3]) C w d hR rfl hDD (okG_s hJ hok) (okG_c hok) hroom (fun X V1 L1 N1 I1 h => by cases h.1) (fun r1 V1 L1 N1 I1 h => by obtain ⟨h1, h2, rfl, rfl, rfl⟩ := h; cases h1; exact K V1 h2)
theorem x_gV4 (C : OK E own cc nL ret D MC MS) (J : List Nat) (hJ : ∀ j, j ∈ J → j ∈ I) {idx ci o D1 mL : Nat} {y : MethodName} {c1 : ByteArray} {r1 : Option FieldType} {a1 a2 a3 a4 : AV} {r : Option AV} {V' : VV} {L' : LL} {N' : NN} {I' : List Nat} (w : CVk own idx ci 4 y c1 mL r1) (d : decode cc pc = .ok (.invokevirtual idx, 3)) (hR : Runs (eL E) D1 mc ms y (Cond.code y c1 mL r1) (aR o :: [a1, a2, a3, a4]) V L N I (Is r V' L' N' I'))
    (hi : o ∈ I) (ho : ocl o = some ci) (hDD : D1 + 1 ≤ D) (hok : okG J ls st = true) (hroom : a + mc ≤ MC ∧ b + ms ≤ MS) (K : Wx E (pc + 3) ls (r.toList ++ st) V' L' N' I' (a + mc) (b + ms)) : Wx E pc ls (a4 :: a3 :: a2 :: a1 :: aR o :: st) V L N I a b :=
  x_callV (As := [a1, a2, a3, a4]) C w d hR hi ho rfl hDD (okG_s hJ hok) (okG_c hok) hroom (fun X V1 L1 N1 I1 h => by cases h.1) (fun r1 V1 L1 N1 I1 h => by obtain ⟨h1, rfl, rfl, rfl, rfl⟩ := h; cases h1; exact K)
theorem x_gpV4 (C : OK E own cc nL ret D MC MS) (J : List Nat) (hJ : ∀ j, j ∈ J → j ∈ I) {idx ci o D1 mL : Nat} {y : MethodName} {c1 : ByteArray} {r1 : Option FieldType} {a1 a2 a3 a4 : AV} {r : Option AV} {Q : VV → Prop} {L' : LL} {N' : NN} {I' : List Nat} (w : CVk own idx ci 4 y c1 mL r1) (d : decode cc pc = .ok (.invokevirtual idx, 3)) (hR : Runs (eL E) D1 mc ms y (Cond.code y c1 mL r1) (aR o :: [a1, a2, a3, a4]) V L N I (Pm r Q L' N' I'))
    (hi : o ∈ I) (ho : ocl o = some ci) (hDD : D1 + 1 ≤ D) (hok : okG J ls st = true) (hroom : a + mc ≤ MC ∧ b + ms ≤ MS) (K : ∀ V', Q V' → Wx E (pc + 3) ls (r.toList ++ st) V' L' N' I' (a + mc) (b + ms)) : Wx E pc ls (a4 :: a3 :: a2 :: a1 :: aR o :: st) V L N I a b :=
  x_callV (As := [a1, a2, a3, a4]) C w d hR hi ho rfl hDD (okG_s hJ hok) (okG_c hok) hroom (fun X V1 L1 N1 I1 h => by cases h.1) (fun r1 V1 L1 N1 I1 h => by obtain ⟨h1, h2, rfl, rfl, rfl⟩ := h; cases h1; exact K V1 h2)
theorem x_gS4 (C : OK E own cc nL ret D MC MS) (J : List Nat) (hJ : ∀ j, j ∈ J → j ∈ I) {idx D1 mL : Nat} {y : MethodName} {c1 : ByteArray} {r1 : Option FieldType} {a1 a2 a3 a4 : AV} {r : Option AV} {V' : VV} {L' : LL} {N' : NN} {I' : List Nat} (w : CTk own idx 4 y c1 mL r1) (d : decode cc pc = .ok (.invokestatic idx, 3)) (hR : Runs (eL E) D1 mc ms y (Cond.code y c1 mL r1) [a1, a2, a3, a4] V L N I (Is r V' L' N' I'))
    (hDD : D1 + 2 ≤ D) (hok : okG J ls st = true) (hroom : a + mc ≤ MC ∧ b + ms ≤ MS) (K : Wx E (pc + 3) ls (r.toList ++ st) V' L' N' I' (a + mc) (b + ms)) : Wx E pc ls (a4 :: a3 :: a2 :: a1 :: st) V L N I a b :=
  x_callT (As := [a1, a2, a3, a4]) C w d hR rfl hDD (okG_s hJ hok) (okG_c hok) hroom (fun X V1 L1 N1 I1 h => by cases h.1) (fun r1 V1 L1 N1 I1 h => by obtain ⟨h1, rfl, rfl, rfl, rfl⟩ := h; cases h1; exact K)
theorem x_gpS4 (C : OK E own cc nL ret D MC MS) (J : List Nat) (hJ : ∀ j, j ∈ J → j ∈ I) {idx D1 mL : Nat} {y : MethodName} {c1 : ByteArray} {r1 : Option FieldType} {a1 a2 a3 a4 : AV} {r : Option AV} {Q : VV → Prop} {L' : LL} {N' : NN} {I' : List Nat} (w : CTk own idx 4 y c1 mL r1) (d : decode cc pc = .ok (.invokestatic idx, 3)) (hR : Runs (eL E) D1 mc ms y (Cond.code y c1 mL r1) [a1, a2, a3, a4] V L N I (Pm r Q L' N' I'))
    (hDD : D1 + 2 ≤ D) (hok : okG J ls st = true) (hroom : a + mc ≤ MC ∧ b + ms ≤ MS) (K : ∀ V', Q V' → Wx E (pc + 3) ls (r.toList ++ st) V' L' N' I' (a + mc) (b + ms)) : Wx E pc ls (a4 :: a3 :: a2 :: a1 :: st) V L N I a b :=
  x_callT (As := [a1, a2, a3, a4]) C w d hR rfl hDD (okG_s hJ hok) (okG_c hok) hroom (fun X V1 L1 N1 I1 h => by cases h.1) (fun r1 V1 L1 N1 I1 h => by obtain ⟨h1, h2, rfl, rfl, rfl⟩ := h; cases h1; exact K V1 h2)
theorem x_gV5 (C : OK E own cc nL ret D MC MS) (J : List Nat) (hJ : ∀ j, j ∈ J → j ∈ I) {idx ci o D1 mL : Nat} {y : MethodName} {c1 : ByteArray} {r1 : Option FieldType} {a1 a2 a3 a4 a5 : AV} {r : Option AV} {V' : VV} {L' : LL} {N' : NN} {I' : List Nat} (w : CVk own idx ci 5 y c1 mL r1) (d : decode cc pc = .ok (.invokevirtual idx, 3)) (hR : Runs (eL E) D1 mc ms y (Cond.code y c1 mL r1) (aR o :: [a1, a2, a3, a4, a5]) V L N I (Is r V' L' N' I'))
    (hi : o ∈ I) (ho : ocl o = some ci) (hDD : D1 + 1 ≤ D) (hok : okG J ls st = true) (hroom : a + mc ≤ MC ∧ b + ms ≤ MS) (K : Wx E (pc + 3) ls (r.toList ++ st) V' L' N' I' (a + mc) (b + ms)) : Wx E pc ls (a5 :: a4 :: a3 :: a2 :: a1 :: aR o :: st) V L N I a b :=
  x_callV (As := [a1, a2, a3, a4, a5]) C w d hR hi ho rfl hDD (okG_s hJ hok) (okG_c hok) hroom (fun X V1 L1 N1 I1 h => by cases h.1) (fun r1 V1 L1 N1 I1 h => by obtain ⟨h1, rfl, rfl, rfl, rfl⟩ := h; cases h1; exact K)
theorem x_gpV5 (C : OK E own cc nL ret D MC MS) (J : List Nat) (hJ : ∀ j, j ∈ J → j ∈ I) {idx ci o D1 mL : Nat} {y : MethodName} {c1 : ByteArray} {r1 : Option FieldType} {a1 a2 a3 a4 a5 : AV} {r : Option AV} {Q : VV → Prop} {L' : LL} {N' : NN} {I' : List Nat} (w : CVk own idx ci 5 y c1 mL r1) (d : decode cc pc = .ok (.invokevirtual idx, 3)) (hR : Runs (eL E) D1 mc ms y (Cond.code y c1 mL r1) (aR o :: [a1, a2, a3, a4, a5]) V L N I (Pm r Q L' N' I'))
    (hi : o ∈ I) (ho : ocl o = some ci) (hDD : D1 + 1 ≤ D) (hok : okG J ls st = true) (hroom : a + mc ≤ MC ∧ b + ms ≤ MS) (K : ∀ V', Q V' → Wx E (pc + 3) ls (r.toList ++ st) V' L' N' I' (a + mc) (b + ms)) : Wx E pc ls (a5 :: a4 :: a3 :: a2 :: a1 :: aR o :: st) V L N I a b :=
  x_callV (As := [a1, a2, a3, a4, a5]) C w d hR hi ho rfl hDD (okG_s hJ hok) (okG_c hok) hroom (fun X V1 L1 N1 I1 h => by cases h.1) (fun r1 V1 L1 N1 I1 h => by obtain ⟨h1, h2, rfl, rfl, rfl⟩ := h; cases h1; exact K V1 h2)
theorem x_gS5 (C : OK E own cc nL ret D MC MS) (J : List Nat) (hJ : ∀ j, j ∈ J → j ∈ I) {idx D1 mL : Nat} {y : MethodName} {c1 : ByteArray} {r1 : Option FieldType} {a1 a2 a3 a4 a5 : AV} {r : Option AV} {V' : VV} {L' : LL} {N' : NN} {I' : List Nat} (w : CTk own idx 5 y c1 mL r1) (d : decode cc pc = .ok (.invokestatic idx, 3)) (hR : Runs (eL E) D1 mc ms y (Cond.code y c1 mL r1) [a1, a2, a3, a4, a5] V L N I (Is r V' L' N' I'))
    (hDD : D1 + 2 ≤ D) (hok : okG J ls st = true) (hroom : a + mc ≤ MC ∧ b + ms ≤ MS) (K : Wx E (pc + 3) ls (r.toList ++ st) V' L' N' I' (a + mc) (b + ms)) : Wx E pc ls (a5 :: a4 :: a3 :: a2 :: a1 :: st) V L N I a b :=
  x_callT (As := [a1, a2, a3, a4, a5]) C w d hR rfl hDD (okG_s hJ hok) (okG_c hok) hroom (fun X V1 L1 N1 I1 h => by cases h.1) (fun r1 V1 L1 N1 I1 h => by obtain ⟨h1, rfl, rfl, rfl, rfl⟩ := h; cases h1; exact K)
theorem x_gpS5 (C : OK E own cc nL ret D MC MS) (J : List Nat) (hJ : ∀ j, j ∈ J → j ∈ I) {idx D1 mL : Nat} {y : MethodName} {c1 : ByteArray} {r1 : Option FieldType} {a1 a2 a3 a4 a5 : AV} {r : Option AV} {Q : VV → Prop} {L' : LL} {N' : NN} {I' : List Nat} (w : CTk own idx 5 y c1 mL r1) (d : decode cc pc = .ok (.invokestatic idx, 3)) (hR : Runs (eL E) D1 mc ms y (Cond.code y c1 mL r1) [a1, a2, a3, a4, a5] V L N I (Pm r Q L' N' I'))
    (hDD : D1 + 2 ≤ D) (hok : okG J ls st = true) (hroom : a + mc ≤ MC ∧ b + ms ≤ MS) (K : ∀ V', Q V' → Wx E (pc + 3) ls (r.toList ++ st) V' L' N' I' (a + mc) (b + ms)) : Wx E pc ls (a5 :: a4 :: a3 :: a2 :: a1 :: st) V L N I a b :=
  x_callT (As := [a1, a2, a3, a4, a5]) C w d hR rfl hDD (okG_s hJ hok) (okG_c hok) hroom (fun X V1 L1 N1 I1 h => by cases h.1) (fun r1 V1 L1 N1 I1 h => by obtain ⟨h1, h2, rfl, rfl, rfl⟩ := h; cases h1; exact K V1 h2)
theorem x_gV6 (C : OK E own cc nL ret D MC MS) (J : List Nat) (hJ : ∀ j, j ∈ J → j ∈ I) {idx ci o D1 mL : Nat} {y : MethodName} {c1 : ByteArray} {r1 : Option FieldType} {a1 a2 a3 a4 a5 a6 : AV} {r : Option AV} {V' : VV} {L' : LL} {N' : NN} {I' : List Nat} (w : CVk own idx ci 6 y c1 mL r1) (d : decode cc pc = .ok (.invokevirtual idx, 3)) (hR : Runs (eL E) D1 mc ms y (Cond.code y c1 mL r1) (aR o :: [a1, a2, a3, a4, a5, a6]) V L N I (Is r V' L' N' I'))
    (hi : o ∈ I) (ho : ocl o = some ci) (hDD : D1 + 1 ≤ D) (hok : okG J ls st = true) (hroom : a + mc ≤ MC ∧ b + ms ≤ MS) (K : Wx E (pc + 3) ls (r.toList ++ st) V' L' N' I' (a + mc) (b + ms)) : Wx E pc ls (a6 :: a5 :: a4 :: a3 :: a2 :: a1 :: aR o :: st) V L N I a b :=
  x_callV (As := [a1, a2, a3, a4, a5, a6]) C w d hR hi ho rfl hDD (okG_s hJ hok) (okG_c hok) hroom (fun X V1 L1 N1 I1 h => by cases h.1) (fun r1 V1 L1 N1 I1 h => by obtain ⟨h1, rfl, rfl, rfl, rfl⟩ := h; cases h1; exact K)
theorem x_gpV6 (C : OK E own cc nL ret D MC MS) (J : List Nat) (hJ : ∀ j, j ∈ J → j ∈ I) {idx ci o D1 mL : Nat} {y : MethodName} {c1 : ByteArray} {r1 : Option FieldType} {a1 a2 a3 a4 a5 a6 : AV} {r : Option AV} {Q : VV → Prop} {L' : LL} {N' : NN} {I' : List Nat} (w : CVk own idx ci 6 y c1 mL r1) (d : decode cc pc = .ok (.invokevirtual idx, 3)) (hR : Runs (eL E) D1 mc ms y (Cond.code y c1 mL r1) (aR o :: [a1, a2, a3, a4, a5, a6]) V L N I (Pm r Q L' N' I'))
    (hi : o ∈ I) (ho : ocl o = some ci) (hDD : D1 + 1 ≤ D) (hok : okG J ls st = true) (hroom : a + mc ≤ MC ∧ b + ms ≤ MS) (K : ∀ V', Q V' → Wx E (pc + 3) ls (r.toList ++ st) V' L' N' I' (a + mc) (b + ms)) : Wx E pc ls (a6 :: a5 :: a4 :: a3 :: a2 :: a1 :: aR o :: st) V L N I a b :=
  x_callV (As := [a1, a2, a3, a4, a5, a6]) C w d hR hi ho rfl hDD (okG_s hJ hok) (okG_c hok) hroom (fun X V1 L1 N1 I1 h => by cases h.1) (fun r1 V1 L1 N1 I1 h => by obtain ⟨h1, h2, rfl, rfl, rfl⟩ := h; cases h1; exact K V1 h2)
theorem x_gS6 (C : OK E own cc nL ret D MC MS) (J : List Nat) (hJ : ∀ j, j ∈ J → j ∈ I) {idx D1 mL : Nat} {y : MethodName} {c1 : ByteArray} {r1 : Option FieldType} {a1 a2 a3 a4 a5 a6 : AV} {r : Option AV} {V' : VV} {L' : LL} {N' : NN} {I' : List Nat} (w : CTk own idx 6 y c1 mL r1) (d : decode cc pc = .ok (.invokestatic idx, 3)) (hR : Runs (eL E) D1 mc ms y (Cond.code y c1 mL r1) [a1, a2, a3, a4, a5, a6] V L N I (Is r V' L' N' I'))
    (hDD : D1 + 2 ≤ D) (hok : okG J ls st = true) (hroom : a + mc ≤ MC ∧ b + ms ≤ MS) (K : Wx E (pc + 3) ls (r.toList ++ st) V' L' N' I' (a + mc) (b + ms)) : Wx E pc ls (a6 :: a5 :: a4 :: a3 :: a2 :: a1 :: st) V L N I a b :=
  x_callT (As := [a1, a2, a3, a4, a5, a6]) C w d hR rfl hDD (okG_s hJ hok) (okG_c hok) hroom (fun X V1 L1 N1 I1 h => by cases h.1) (fun r1 V1 L1 N1 I1 h => by obtain ⟨h1, rfl, rfl, rfl, rfl⟩ := h; cases h1; exact K)
theorem x_gpS6 (C : OK E own cc nL ret D MC MS) (J : List Nat) (hJ : ∀ j, j ∈ J → j ∈ I) {idx D1 mL : Nat} {y : MethodName} {c1 : ByteArray} {r1 : Option FieldType} {a1 a2 a3 a4 a5 a6 : AV} {r : Option AV} {Q : VV → Prop} {L' : LL} {N' : NN} {I' : List Nat} (w : CTk own idx 6 y c1 mL r1) (d : decode cc pc = .ok (.invokestatic idx, 3)) (hR : Runs (eL E) D1 mc ms y (Cond.code y c1 mL r1) [a1, a2, a3, a4, a5, a6] V L N I (Pm r Q L' N' I'))
    (hDD : D1 + 2 ≤ D) (hok : okG J ls st = true) (hroom : a + mc ≤ MC ∧ b + ms ≤ MS) (K : ∀ V', Q V' → Wx E (pc + 3) ls (r.toList ++ st) V' L' N' I' (a + mc) (b + ms)) : Wx E pc ls (a6 :: a5 :: a4 :: a3 :: a2 :: a1 :: st) V L N I a b :=
  x_callT (As := [a1, a2, a3, a4, a5, a6]) C w d hR rfl hDD (okG_s hJ hok) (okG_c hok) hroom (fun X V1 L1 N1 I1 h => by cases h.1) (fun r1 V1 L1 N1 I1 h => by obtain ⟨h1, h2, rfl, rfl, rfl⟩ := h; cases h1; exact K V1 h2)
theorem x_gS7 (C : OK E own cc nL ret D MC MS) (J : List Nat) (hJ : ∀ j, j ∈ J → j ∈ I) {idx D1 mL : Nat} {y : MethodName} {c1 : ByteArray} {r1 : Option FieldType} {a1 a2 a3 a4 a5 a6 a7 : AV} {r : Option AV} {V' : VV} {L' : LL} {N' : NN} {I' : List Nat} (w : CTk own idx 7 y c1 mL r1) (d : decode cc pc = .ok (.invokestatic idx, 3)) (hR : Runs (eL E) D1 mc ms y (Cond.code y c1 mL r1) [a1, a2, a3, a4, a5, a6, a7] V L N I (Is r V' L' N' I'))
    (hDD : D1 + 2 ≤ D) (hok : okG J ls st = true) (hroom : a + mc ≤ MC ∧ b + ms ≤ MS) (K : Wx E (pc + 3) ls (r.toList ++ st) V' L' N' I' (a + mc) (b + ms)) : Wx E pc ls (a7 :: a6 :: a5 :: a4 :: a3 :: a2 :: a1 :: st) V L N I a b :=
  x_callT (As := [a1, a2, a3, a4, a5, a6, a7]) C w d hR rfl hDD (okG_s hJ hok) (okG_c hok) hroom (fun X V1 L1 N1 I1 h => by cases h.1) (fun r1 V1 L1 N1 I1 h => by obtain ⟨h1, rfl, rfl, rfl, rfl⟩ := h; cases h1; exact K)
theorem x_gpS7 (C : OK E own cc nL ret D MC MS) (J : List Nat) (hJ : ∀ j, j ∈ J → j ∈ I) {idx D1 mL : Nat} {y : MethodName} {c1 : ByteArray} {r1 : Option FieldType} {a1 a2 a3 a4 a5 a6 a7 : AV} {r : Option AV} {Q : VV → Prop} {L' : LL} {N' : NN} {I' : List Nat} (w : CTk own idx 7 y c1 mL r1) (d : decode cc pc = .ok (.invokestatic idx, 3)) (hR : Runs (eL E) D1 mc ms y (Cond.code y c1 mL r1) [a1, a2, a3, a4, a5, a6, a7] V L N I (Pm r Q L' N' I'))
    (hDD : D1 + 2 ≤ D) (hok : okG J ls st = true) (hroom : a + mc ≤ MC ∧ b + ms ≤ MS) (K : ∀ V', Q V' → Wx E (pc + 3) ls (r.toList ++ st) V' L' N' I' (a + mc) (b + ms)) : Wx E pc ls (a7 :: a6 :: a5 :: a4 :: a3 :: a2 :: a1 :: st) V L N I a b :=
  x_callT (As := [a1, a2, a3, a4, a5, a6, a7]) C w d hR rfl hDD (okG_s hJ hok) (okG_c hok) hroom (fun X V1 L1 N1 I1 h => by cases h.1) (fun r1 V1 L1 N1 I1 h => by obtain ⟨h1, h2, rfl, rfl, rfl⟩ := h; cases h1; exact K V1 h2)
theorem x_gS8 (C : OK E own cc nL ret D MC MS) (J : List Nat) (hJ : ∀ j, j ∈ J → j ∈ I) {idx D1 mL : Nat} {y : MethodName} {c1 : ByteArray} {r1 : Option FieldType} {a1 a2 a3 a4 a5 a6 a7 a8 : AV} {r : Option AV} {V' : VV} {L' : LL} {N' : NN} {I' : List Nat} (w : CTk own idx 8 y c1 mL r1) (d : decode cc pc = .ok (.invokestatic idx, 3)) (hR : Runs (eL E) D1 mc ms y (Cond.code y c1 mL r1) [a1, a2, a3, a4, a5, a6, a7, a8] V L N I (Is r V' L' N' I'))
    (hDD : D1 + 2 ≤ D) (hok : okG J ls st = true) (hroom : a + mc ≤ MC ∧ b + ms ≤ MS) (K : Wx E (pc + 3) ls (r.toList ++ st) V' L' N' I' (a + mc) (b + ms)) : Wx E pc ls (a8 :: a7 :: a6 :: a5 :: a4 :: a3 :: a2 :: a1 :: st) V L N I a b :=
  x_callT (As := [a1, a2, a3, a4, a5, a6, a7, a8]) C w d hR rfl hDD (okG_s hJ hok) (okG_c hok) hroom (fun X V1 L1 N1 I1 h => by cases h.1) (fun r1 V1 L1 N1 I1 h => by obtain ⟨h1, rfl, rfl, rfl, rfl⟩ := h; cases h1; exact K)
theorem x_gpS8 (C : OK E own cc nL ret D MC MS) (J : List Nat) (hJ : ∀ j, j ∈ J → j ∈ I) {idx D1 mL : Nat} {y : MethodName} {c1 : ByteArray} {r1 : Option FieldType} {a1 a2 a3 a4 a5 a6 a7 a8 : AV} {r : Option AV} {Q : VV → Prop} {L' : LL} {N' : NN} {I' : List Nat} (w : CTk own idx 8 y c1 mL r1) (d : decode cc pc = .ok (.invokestatic idx, 3)) (hR : Runs (eL E) D1 mc ms y (Cond.code y c1 mL r1) [a1, a2, a3, a4, a5, a6, a7, a8] V L N I (Pm r Q L' N' I'))
    (hDD : D1 + 2 ≤ D) (hok : okG J ls st = true) (hroom : a + mc ≤ MC ∧ b + ms ≤ MS) (K : ∀ V', Q V' → Wx E (pc + 3) ls (r.toList ++ st) V' L' N' I' (a + mc) (b + ms)) : Wx E pc ls (a8 :: a7 :: a6 :: a5 :: a4 :: a3 :: a2 :: a1 :: st) V L N I a b :=
  x_callT (As := [a1, a2, a3, a4, a5, a6, a7, a8]) C w d hR rfl hDD (okG_s hJ hok) (okG_c hok) hroom (fun X V1 L1 N1 I1 h => by cases h.1) (fun r1 V1 L1 N1 I1 h => by obtain ⟨h1, h2, rfl, rfl, rfl⟩ := h; cases h1; exact K V1 h2)
theorem x_gS9 (C : OK E own cc nL ret D MC MS) (J : List Nat) (hJ : ∀ j, j ∈ J → j ∈ I) {idx D1 mL : Nat} {y : MethodName} {c1 : ByteArray} {r1 : Option FieldType} {a1 a2 a3 a4 a5 a6 a7 a8 a9 : AV} {r : Option AV} {V' : VV} {L' : LL} {N' : NN} {I' : List Nat} (w : CTk own idx 9 y c1 mL r1) (d : decode cc pc = .ok (.invokestatic idx, 3)) (hR : Runs (eL E) D1 mc ms y (Cond.code y c1 mL r1) [a1, a2, a3, a4, a5, a6, a7, a8, a9] V L N I (Is r V' L' N' I'))
    (hDD : D1 + 2 ≤ D) (hok : okG J ls st = true) (hroom : a + mc ≤ MC ∧ b + ms ≤ MS) (K : Wx E (pc + 3) ls (r.toList ++ st) V' L' N' I' (a + mc) (b + ms)) : Wx E pc ls (a9 :: a8 :: a7 :: a6 :: a5 :: a4 :: a3 :: a2 :: a1 :: st) V L N I a b :=
  x_callT (As := [a1, a2, a3, a4, a5, a6, a7, a8, a9]) C w d hR rfl hDD (okG_s hJ hok) (okG_c hok) hroom (fun X V1 L1 N1 I1 h => by cases h.1) (fun r1 V1 L1 N1 I1 h => by obtain ⟨h1, rfl, rfl, rfl, rfl⟩ := h; cases h1; exact K)
theorem x_gpS9 (C : OK E own cc nL ret D MC MS) (J : List Nat) (hJ : ∀ j, j ∈ J → j ∈ I) {idx D1 mL : Nat} {y : MethodName} {c1 : ByteArray} {r1 : Option FieldType} {a1 a2 a3 a4 a5 a6 a7 a8 a9 : AV} {r : Option AV} {Q : VV → Prop} {L' : LL} {N' : NN} {I' : List Nat} (w : CTk own idx 9 y c1 mL r1) (d : decode cc pc = .ok (.invokestatic idx, 3)) (hR : Runs (eL E) D1 mc ms y (Cond.code y c1 mL r1) [a1, a2, a3, a4, a5, a6, a7, a8, a9] V L N I (Pm r Q L' N' I'))
    (hDD : D1 + 2 ≤ D) (hok : okG J ls st = true) (hroom : a + mc ≤ MC ∧ b + ms ≤ MS) (K : ∀ V', Q V' → Wx E (pc + 3) ls (r.toList ++ st) V' L' N' I' (a + mc) (b + ms)) : Wx E pc ls (a9 :: a8 :: a7 :: a6 :: a5 :: a4 :: a3 :: a2 :: a1 :: st) V L N I a b :=
  x_callT (As := [a1, a2, a3, a4, a5, a6, a7, a8, a9]) C w d hR rfl hDD (okG_s hJ hok) (okG_c hok) hroom (fun X V1 L1 N1 I1 h => by cases h.1) (fun r1 V1 L1 N1 I1 h => by obtain ⟨h1, h2, rfl, rfl, rfl⟩ := h; cases h1; exact K V1 h2)
theorem x_gS10 (C : OK E own cc nL ret D MC MS) (J : List Nat) (hJ : ∀ j, j ∈ J → j ∈ I) {idx D1 mL : Nat} {y : MethodName} {c1 : ByteArray} {r1 : Option FieldType} {a1 a2 a3 a4 a5 a6 a7 a8 a9 a10 : AV} {r : Option AV} {V' : VV} {L' : LL} {N' : NN} {I' : List Nat} (w : CTk own idx 10 y c1 mL r1) (d : decode cc pc = .ok (.invokestatic idx, 3)) (hR : Runs (eL E) D1 mc ms y (Cond.code y c1 mL r1) [a1, a2, a3, a4, a5, a6, a7, a8, a9, a10] V L N I (Is r V' L' N' I'))
    (hDD : D1 + 2 ≤ D) (hok : okG J ls st = true) (hroom : a + mc ≤ MC ∧ b + ms ≤ MS) (K : Wx E (pc + 3) ls (r.toList ++ st) V' L' N' I' (a + mc) (b + ms)) : Wx E pc ls (a10 :: a9 :: a8 :: a7 :: a6 :: a5 :: a4 :: a3 :: a2 :: a1 :: st) V L N I a b :=
  x_callT (As := [a1, a2, a3, a4, a5, a6, a7, a8, a9, a10]) C w d hR rfl hDD (okG_s hJ hok) (okG_c hok) hroom (fun X V1 L1 N1 I1 h => by cases h.1) (fun r1 V1 L1 N1 I1 h => by obtain ⟨h1, rfl, rfl, rfl, rfl⟩ := h; cases h1; exact K)
theorem x_gpS10 (C : OK E own cc nL ret D MC MS) (J : List Nat) (hJ : ∀ j, j ∈ J → j ∈ I) {idx D1 mL : Nat} {y : MethodName} {c1 : ByteArray} {r1 : Option FieldType} {a1 a2 a3 a4 a5 a6 a7 a8 a9 a10 : AV} {r : Option AV} {Q : VV → Prop} {L' : LL} {N' : NN} {I' : List Nat} (w : CTk own idx 10 y c1 mL r1) (d : decode cc pc = .ok (.invokestatic idx, 3)) (hR : Runs (eL E) D1 mc ms y (Cond.code y c1 mL r1) [a1, a2, a3, a4, a5, a6, a7, a8, a9, a10] V L N I (Pm r Q L' N' I'))
    (hDD : D1 + 2 ≤ D) (hok : okG J ls st = true) (hroom : a + mc ≤ MC ∧ b + ms ≤ MS) (K : ∀ V', Q V' → Wx E (pc + 3) ls (r.toList ++ st) V' L' N' I' (a + mc) (b + ms)) : Wx E pc ls (a10 :: a9 :: a8 :: a7 :: a6 :: a5 :: a4 :: a3 :: a2 :: a1 :: st) V L N I a b :=
  x_callT (As := [a1, a2, a3, a4, a5, a6, a7, a8, a9, a10]) C w d hR rfl hDD (okG_s hJ hok) (okG_c hok) hroom (fun X V1 L1 N1 I1 h => by cases h.1) (fun r1 V1 L1 N1 I1 h => by obtain ⟨h1, h2, rfl, rfl, rfl⟩ := h; cases h1; exact K V1 h2)
/-- what isn't there may hold what it likes -/
theorem x_vcg {V' : VV} (h : ∀ i, i ∈ I → V i = V' i) (K : Wx E pc ls st V' L N I a b) : Wx E pc ls st V L N I a b := by
  intro ad H locs lsa hP hD hS hA hl
  have e : wsM (eK E) ad V L N I = wsM (eK E) ad V' L N I := List.map_congr_left fun i hi => congrArg (Prod.mk (ad i)) (cell_same (h i hi) rfl)
  rw [e] at hP hD
  exact K ad H locs lsa hP hD hS hA hl
theorem x_iushr (C : OK E own cc nL ret D MC MS) {x y : Int32} (d : decode cc pc = .ok (.iushr, 1)) (K : Wx E (pc + 1) ls (aI ((x.toUInt32 >>> (y.toUInt32 &&& Int32.toUInt32 31)).toInt32) :: st) V L N I a b) : Wx E pc ls (aI y :: aI x :: st) V L N I a b := by
  intro ad H locs lsa hP hD hS ha hl
  refine lv_iushr C.1 C.2.1 d rfl ?_
  exact K ad H locs lsa hP hD hS ha hl
theorem x_ishr (C : OK E own cc nL ret D MC MS) {x y : Int32} (d : decode cc pc = .ok (.ishr, 1)) (K : Wx E (pc + 1) ls (aI (x >>> (y &&& 31)) :: st) V L N I a b) : Wx E pc ls (aI y :: aI x :: st) V L N I a b := by
  intro ad H locs lsa hP hD hS ha hl
  refine lv_ishr C.1 C.2.1 d ?_
  exact K ad H locs lsa hP hD hS ha hl
theorem x_ldc (C : OK E own cc nL ret D MC MS) {idx : Nat} {v : Int32} (w : Cond.constant own idx v ∈ U0) (d : decode cc pc = .ok (.ldc idx, 2)) (K : Wx E (pc + 2) ls (aI v :: st) V L N I a b) : Wx E pc ls st V L N I a b := by
  intro ad H locs lsa hP hD hS ha hl
  refine lv_ldc C.1 C.2.1 C.2.2.2.1 (C.2.2.2.2.1 _ w) d ?_
  exact K ad H locs lsa hP hD hS ha hl
def upR (V : VV) (j : Nat) : VV := fun i => if i = j then (fun _ => 0) else V i
theorem x_newA (C : OK E own cc nL ret D MC MS) (j : Nat) {n : Nat} (hj : j = 218 ∨ j = 219 ∨ j = 221) (hn : aln j = n) (hI : j ∉ I) (hJ : List Nat) (hJ2 : ∀ i, i ∈ hJ → i ∈ I) (d : decode cc pc = .ok (.newarray .int, 2)) (hok : okG hJ ls st = true) (hroom : a + 1 ≤ MC ∧ b + n ≤ MS)
    (K : Wx E (pc + 2) ls (aR j :: st) (upR V j) L N (I ++ [j]) (a + 1) (b + n)) : Wx E pc ls (aI (nI n) :: st) V L N I a b := by
  intro ad H locs lsa hP hD hS hA hl
  have hoks := okG_s hJ2 hok
  have hn1 : n < 100000 := by
    rw [← hn]
    rcases hj with rfl | rfl | rfl <;> decide
  have hcl : ocl j = none ∧ akd j = 0 := by
    rcases hj with rfl | rfl | rfl <;> decide
  refine k_newI C hn1 d hroom hP hD hS (fun q H1 hP1 hD1 hS1 => ?_)
  have hkeep : ∀ i, dyn i = false ∨ i ∈ I → (fun i => if i = j then q else ad i) i = ad i := fun i hi => if_neg fun e => by
    subst e
    rcases hi with hi | hi
    · have : dyn i = true := decide_eq_true (by omega)
      rw [this] at hi; cases hi
    · exact hI hi
  have e : wsM (eK E) (fun i => if i = j then q else ad i) (upR V j) L N (I ++ [j]) = wsM (eK E) ad V L N I ++ [(q, .inl (eK E 0, n, .inl (fun _ => 0)))] := by
    unfold wsM
    rw [List.map_append]
    congr 1
    · refine List.map_congr_left fun i hi => ?_
      have hne : i ≠ j := fun z => hI (z ▸ hi)
      dsimp only
      rw [if_neg hne]
      refine congrArg (Prod.mk (ad i)) (cell_cg (if_neg hne) rfl (fun ci t k h1 h2 h3 => if_neg fun z => ?_) (fun _ t ht => if_neg (by omega)))
      have hd : dyn k = true := decide_eq_true (by omega)
      obtain ⟨h4, h5, h6, h7⟩ := fref_nd h1 h2 h3 hd
      have h8 := of_decide_eq_true h4
      omega
    · simp only [List.map_cons, List.map_nil, if_true]
      rw [cell_int hcl, hn]
      simp [upR]
  have K1 := K (fun i => if i = j then q else ad i) H1 locs lsa (by rw [e]; exact hP1) (by rw [e]; exact hD1) hS1 ⟨fun i hi => (hkeep i (hA.2 i hi)).trans (hA.1 i hi), fun i hi => (hA.2 i hi).imp id (fun h => List.mem_append_left _ h)⟩ (okL_en hkeep hoks.2 hl)
  rw [List.map_cons, okS_en hkeep hoks.1] at K1
  have hq : en (fun i => if i = j then q else ad i) (aR j) = .ref q := by
    show Value.ref (if j = j then q else ad j) = _
    rw [if_pos rfl]
  rw [hq] at K1
  exact K1
end
