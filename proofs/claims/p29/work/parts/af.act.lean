section
variable {E : EE} {own : String} {cc : ByteArray} {ret : Option FieldType} {nL D MC MS pc : Nat} {ls : zLS} {st : List AV} {V : VV} {L : LL} {N : NN} {I : List Nat} {a b mc ms : Nat}
theorem x_mV0 (C : OK E own cc nL ret D MC MS) (J : List Nat) (hJ : ∀ j, j ∈ J → j ∈ I) {idx ci o D1 mL m : Nat} {y : MethodName} {c1 : ByteArray} {r1 : Option FieldType} {r lr : Int32} {Z : (Nat → Int32) → Prop} (w : CVk own idx ci 0 y c1 mL r1) (d : decode cc pc = .ok (.invokevirtual idx, 3)) (hR : MutR (eL E) D1 mc ms y (Cond.code y c1 mL r1) (aR o :: []) V L N I m r Z lr)
    (hi : o ∈ I) (ho : ocl o = some ci) (hDD : D1 + 1 ≤ D) (hok : okG J ls st = true) (hroom : a + mc ≤ MC ∧ b + ms ≤ MS) (K : ∀ V' N' I', Mt2 V V' N' I' m Z lr → Wx E (pc + 3) ls (aI r :: st) V' L N' I' (a + mc) (b + ms)) : Wx E pc ls (aR o :: st) V L N I a b := by
  obtain ⟨P, hR, hP⟩ := hR
  exact x_callV (As := []) C w d hR hi ho rfl hDD (okG_s hJ hok) (okG_c hok) hroom (fun X V1 L1 N1 I1 h => by cases (hP _ _ _ _ _ h).1) (fun r1 V1 L1 N1 I1 h => by obtain ⟨h1, rfl, h2⟩ := hP _ _ _ _ _ h; cases h1; exact K V1 N1 I1 h2)
theorem x_mV1 (C : OK E own cc nL ret D MC MS) (J : List Nat) (hJ : ∀ j, j ∈ J → j ∈ I) {idx ci o D1 mL m : Nat} {y : MethodName} {c1 : ByteArray} {r1 : Option FieldType} {a1 : AV} {r lr : Int32} {Z : (Nat → Int32) → Prop} (w : CVk own idx ci 1 y c1 mL r1) (d : decode cc pc = .ok (.invokevirtual idx, 3)) (hR : MutR (eL E) D1 mc ms y (Cond.code y c1 mL r1) (aR o :: [a1]) V L N I m r Z lr)
    (hi : o ∈ I) (ho : ocl o = some ci) (hDD : D1 + 1 ≤ D) (hok : okG J ls st = true) (hroom : a + mc ≤ MC ∧ b + ms ≤ MS) (K : ∀ V' N' I', Mt2 V V' N' I' m Z lr → Wx E (pc + 3) ls (aI r :: st) V' L N' I' (a + mc) (b + ms)) : Wx E pc ls (a1 :: aR o :: st) V L N I a b := by
  obtain ⟨P, hR, hP⟩ := hR
  exact x_callV (As := [a1]) C w d hR hi ho rfl hDD (okG_s hJ hok) (okG_c hok) hroom (fun X V1 L1 N1 I1 h => by cases (hP _ _ _ _ _ h).1) (fun r1 V1 L1 N1 I1 h => by obtain ⟨h1, rfl, h2⟩ := hP _ _ _ _ _ h; cases h1; exact K V1 N1 I1 h2)
theorem x_mV2 (C : OK E own cc nL ret D MC MS) (J : List Nat) (hJ : ∀ j, j ∈ J → j ∈ I) {idx ci o D1 mL m : Nat} {y : MethodName} {c1 : ByteArray} {r1 : Option FieldType} {a1 a2 : AV} {r lr : Int32} {Z : (Nat → Int32) → Prop} (w : CVk own idx ci 2 y c1 mL r1) (d : decode cc pc = .ok (.invokevirtual idx, 3)) (hR : MutR (eL E) D1 mc ms y (Cond.code y c1 mL r1) (aR o :: [a1, a2]) V L N I m r Z lr)
    (hi : o ∈ I) (ho : ocl o = some ci) (hDD : D1 + 1 ≤ D) (hok : okG J ls st = true) (hroom : a + mc ≤ MC ∧ b + ms ≤ MS) (K : ∀ V' N' I', Mt2 V V' N' I' m Z lr → Wx E (pc + 3) ls (aI r :: st) V' L N' I' (a + mc) (b + ms)) : Wx E pc ls (a2 :: a1 :: aR o :: st) V L N I a b := by
  obtain ⟨P, hR, hP⟩ := hR
  exact x_callV (As := [a1, a2]) C w d hR hi ho rfl hDD (okG_s hJ hok) (okG_c hok) hroom (fun X V1 L1 N1 I1 h => by cases (hP _ _ _ _ _ h).1) (fun r1 V1 L1 N1 I1 h => by obtain ⟨h1, rfl, h2⟩ := hP _ _ _ _ _ h; cases h1; exact K V1 N1 I1 h2)
theorem x_mV3 (C : OK E own cc nL ret D MC MS) (J : List Nat) (hJ : ∀ j, j ∈ J → j ∈ I) {idx ci o D1 mL m : Nat} {y : MethodName} {c1 : ByteArray} {r1 : Option FieldType} {a1 a2 a3 : AV} {r lr : Int32} {Z : (Nat → Int32) → Prop} (w : CVk own idx ci 3 y c1 mL r1) (d : decode cc pc = .ok (.invokevirtual idx, 3)) (hR : MutR (eL E) D1 mc ms y (Cond.code y c1 mL r1) (aR o :: [a1, a2, a3]) V L N I m r Z lr)
    (hi : o ∈ I) (ho : ocl o = some ci) (hDD : D1 + 1 ≤ D) (hok : okG J ls st = true) (hroom : a + mc ≤ MC ∧ b + ms ≤ MS) (K : ∀ V' N' I', Mt2 V V' N' I' m Z lr → Wx E (pc + 3) ls (aI r :: st) V' L N' I' (a + mc) (b + ms)) : Wx E pc ls (a3 :: a2 :: a1 :: aR o :: st) V L N I a b := by
  obtain ⟨P, hR, hP⟩ := hR
  exact x_callV (As := [a1, a2, a3]) C w d hR hi ho rfl hDD (okG_s hJ hok) (okG_c hok) hroom (fun X V1 L1 N1 I1 h => by cases (hP _ _ _ _ _ h).1) (fun r1 V1 L1 N1 I1 h => by obtain ⟨h1, rfl, h2⟩ := hP _ _ _ _ _ h; cases h1; exact K V1 N1 I1 h2)
theorem x_mV4 (C : OK E own cc nL ret D MC MS) (J : List Nat) (hJ : ∀ j, j ∈ J → j ∈ I) {idx ci o D1 mL m : Nat} {y : MethodName} {c1 : ByteArray} {r1 : Option FieldType} {a1 a2 a3 a4 : AV} {r lr : Int32} {Z : (Nat → Int32) → Prop} (w : CVk own idx ci 4 y c1 mL r1) (d : decode cc pc = .ok (.invokevirtual idx, 3)) (hR : MutR (eL E) D1 mc ms y (Cond.code y c1 mL r1) (aR o :: [a1, a2, a3, a4]) V L N I m r Z lr)
    (hi : o ∈ I) (ho : ocl o = some ci) (hDD : D1 + 1 ≤ D) (hok : okG J ls st = true) (hroom : a + mc ≤ MC ∧ b + ms ≤ MS) (K : ∀ V' N' I', Mt2 V V' N' I' m Z lr → Wx E (pc + 3) ls (aI r :: st) V' L N' I' (a + mc) (b + ms)) : Wx E pc ls (a4 :: a3 :: a2 :: a1 :: aR o :: st) V L N I a b := by
  obtain ⟨P, hR, hP⟩ := hR
  exact x_callV (As := [a1, a2, a3, a4]) C w d hR hi ho rfl hDD (okG_s hJ hok) (okG_c hok) hroom (fun X V1 L1 N1 I1 h => by cases (hP _ _ _ _ _ h).1) (fun r1 V1 L1 N1 I1 h => by obtain ⟨h1, rfl, h2⟩ := hP _ _ _ _ _ h; cases h1; exact K V1 N1 I1 h2)
theorem x_mV5 (C : OK E own cc nL ret D MC MS) (J : List Nat) (hJ : ∀ j, j ∈ J → j ∈ I) {idx ci o D1 mL m : Nat} {y : MethodName} {c1 : ByteArray} {r1 : Option FieldType} {a1 a2 a3 a4 a5 : AV} {r lr : Int32} {Z : (Nat → Int32) → Prop} (w : CVk own idx ci 5 y c1 mL r1) (d : decode cc pc = .ok (.invokevirtual idx, 3)) (hR : MutR (eL E) D1 mc ms y (Cond.code y c1 mL r1) (aR o :: [a1, a2, a3, a4, a5]) V L N I m r Z lr)
    (hi : o ∈ I) (ho : ocl o = some ci) (hDD : D1 + 1 ≤ D) (hok : okG J ls st = true) (hroom : a + mc ≤ MC ∧ b + ms ≤ MS) (K : ∀ V' N' I', Mt2 V V' N' I' m Z lr → Wx E (pc + 3) ls (aI r :: st) V' L N' I' (a + mc) (b + ms)) : Wx E pc ls (a5 :: a4 :: a3 :: a2 :: a1 :: aR o :: st) V L N I a b := by
  obtain ⟨P, hR, hP⟩ := hR
  exact x_callV (As := [a1, a2, a3, a4, a5]) C w d hR hi ho rfl hDD (okG_s hJ hok) (okG_c hok) hroom (fun X V1 L1 N1 I1 h => by cases (hP _ _ _ _ _ h).1) (fun r1 V1 L1 N1 I1 h => by obtain ⟨h1, rfl, h2⟩ := hP _ _ _ _ _ h; cases h1; exact K V1 N1 I1 h2)
theorem x_mV6 (C : OK E own cc nL ret D MC MS) (J : List Nat) (hJ : ∀ j, j ∈ J → j ∈ I) {idx ci o D1 mL m : Nat} {y : MethodName} {c1 : ByteArray} {r1 : Option FieldType} {a1 a2 a3 a4 a5 a6 : AV} {r lr : Int32} {Z : (Nat → Int32) → Prop} (w : CVk own idx ci 6 y c1 mL r1) (d : decode cc pc = .ok (.invokevirtual idx, 3)) (hR : MutR (eL E) D1 mc ms y (Cond.code y c1 mL r1) (aR o :: [a1, a2, a3, a4, a5, a6]) V L N I m r Z lr)
    (hi : o ∈ I) (ho : ocl o = some ci) (hDD : D1 + 1 ≤ D) (hok : okG J ls st = true) (hroom : a + mc ≤ MC ∧ b + ms ≤ MS) (K : ∀ V' N' I', Mt2 V V' N' I' m Z lr → Wx E (pc + 3) ls (aI r :: st) V' L N' I' (a + mc) (b + ms)) : Wx E pc ls (a6 :: a5 :: a4 :: a3 :: a2 :: a1 :: aR o :: st) V L N I a b := by
  obtain ⟨P, hR, hP⟩ := hR
  exact x_callV (As := [a1, a2, a3, a4, a5, a6]) C w d hR hi ho rfl hDD (okG_s hJ hok) (okG_c hok) hroom (fun X V1 L1 N1 I1 h => by cases (hP _ _ _ _ _ h).1) (fun r1 V1 L1 N1 I1 h => by obtain ⟨h1, rfl, h2⟩ := hP _ _ _ _ _ h; cases h1; exact K V1 N1 I1 h2)
end
theorem Mt2.pi {V V2 : VV} {N2 : NN} {I2 : List Nat} {m : Nat} {Z : (Nat → Int32) → Prop} {lr : Int32} (h : Mt2 V V2 N2 I2 m Z lr) : PI I2 := by
  obtain ⟨_, V3, _, ⟨n, o, m, l0, hI⟩, _⟩ := h
  exact hI.2.2.1.1.1
theorem val_ok {s w lo hi : Nat} (h1 : stVal 0 s = nI lo) (h2 : stVal 1 s = nI hi) (h3 : lo ≤ w ∧ w ≤ hi) (h4 : hi < 2 ^ 31) : isValB s (nI w) = true := by
  unfold isValB
  rw [h1, h2, win_t, t_nat (by omega), t_nat (by omega), t_nat (by omega)]
  omega
theorem pred_add (k : Nat) : nI k + Int32.ofInt (-1) = nI k - 1 := by rw [Int32.sub_eq_add_neg]; rfl
