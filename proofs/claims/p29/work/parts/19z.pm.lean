/-- a contract that says of the memory afterwards what Q says -/
def Pm (r : Option AV) (Q : VV → Prop) (L : LL) (N : NN) (I : List Nat) : PP := fun r1 V1 L1 N1 I1 => r1 = .inl r ∧ Q V1 ∧ L1 = L ∧ N1 = N ∧ I1 = I
theorem pm_v {Q : VV → Prop} {V1 : VV} {L : LL} {N : NN} {I : List Nat} (h : Q V1) : Pm none Q L N I (.inl none) V1 L N I := ⟨rfl, h, rfl, rfl, rfl⟩
theorem pm_i {Q : VV → Prop} {x y : Int32} {V1 : VV} {L : LL} {N : NN} {I : List Nat} (e : y = x) (h : Q V1) : Pm (some (aI x)) Q L N I (.inl (some (aI y))) V1 L N I := ⟨by rw [e], h, rfl, rfl, rfl⟩
theorem pm_d {Q : VV → Prop} {x y : UInt64} {V1 : VV} {L : LL} {N : NN} {I : List Nat} (e : y = x) (h : Q V1) : Pm (some (aD x)) Q L N I (.inl (some (aD y))) V1 L N I := ⟨by rw [e], h, rfl, rfl, rfl⟩
section
variable {E : EE} {own : String} {cc : ByteArray} {ret : Option FieldType} {nL D MC MS pc : Nat} {ls : zLS} {st : List AV} {V : VV} {L : LL} {N : NN} {I I0 : List Nat} {a b mc ms : Nat} {Post : PP}
theorem x_pV0 (C : OK E own cc nL ret D MC MS) {idx ci o D1 mL : Nat} {y : MethodName} {c1 : ByteArray} {r1 : Option FieldType} {r : Option AV} {Q : VV → Prop} {L' : LL} {N' : NN} {I' : List Nat} (w : CVk own idx ci 0 y c1 mL r1) (d : decode cc pc = .ok (.invokevirtual idx, 3)) (hR : Runs (eL E) D1 0 0 y (Cond.code y c1 mL r1) (aR o :: []) V L N I (Pm r Q L' N' I'))
    (hi : o ∈ I) (ho : ocl o = some ci) (hDD : D1 + 1 ≤ D) (hok : okB ls st = true) (hroom : a ≤ MC ∧ b ≤ MS) (K : ∀ V', Q V' → Wx E (pc + 3) ls (r.toList ++ st) V' L' N' I' a b) : Wx E pc ls (aR o :: st) V L N I a b :=
  x_callV C w d hR hi ho rfl hDD (okB_s hok) (okB_c hok) hroom (fun X V1 L1 N1 I1 h => by cases h.1) (fun r1 V1 L1 N1 I1 h => by obtain ⟨h1, h2, rfl, rfl, rfl⟩ := h; cases h1; exact K V1 h2)
theorem x_pV1 (C : OK E own cc nL ret D MC MS) {idx ci o D1 mL : Nat} {y : MethodName} {c1 : ByteArray} {r1 : Option FieldType} {a1 : AV} {r : Option AV} {Q : VV → Prop} {L' : LL} {N' : NN} {I' : List Nat} (w : CVk own idx ci 1 y c1 mL r1) (d : decode cc pc = .ok (.invokevirtual idx, 3)) (hR : Runs (eL E) D1 0 0 y (Cond.code y c1 mL r1) (aR o :: [a1]) V L N I (Pm r Q L' N' I'))
    (hi : o ∈ I) (ho : ocl o = some ci) (hDD : D1 + 1 ≤ D) (hok : okB ls st = true) (hroom : a ≤ MC ∧ b ≤ MS) (K : ∀ V', Q V' → Wx E (pc + 3) ls (r.toList ++ st) V' L' N' I' a b) : Wx E pc ls (a1 :: aR o :: st) V L N I a b :=
  x_callV C w d hR hi ho rfl hDD (okB_s hok) (okB_c hok) hroom (fun X V1 L1 N1 I1 h => by cases h.1) (fun r1 V1 L1 N1 I1 h => by obtain ⟨h1, h2, rfl, rfl, rfl⟩ := h; cases h1; exact K V1 h2)
theorem x_pV2 (C : OK E own cc nL ret D MC MS) {idx ci o D1 mL : Nat} {y : MethodName} {c1 : ByteArray} {r1 : Option FieldType} {a1 a2 : AV} {r : Option AV} {Q : VV → Prop} {L' : LL} {N' : NN} {I' : List Nat} (w : CVk own idx ci 2 y c1 mL r1) (d : decode cc pc = .ok (.invokevirtual idx, 3)) (hR : Runs (eL E) D1 0 0 y (Cond.code y c1 mL r1) (aR o :: [a1, a2]) V L N I (Pm r Q L' N' I'))
    (hi : o ∈ I) (ho : ocl o = some ci) (hDD : D1 + 1 ≤ D) (hok : okB ls st = true) (hroom : a ≤ MC ∧ b ≤ MS) (K : ∀ V', Q V' → Wx E (pc + 3) ls (r.toList ++ st) V' L' N' I' a b) : Wx E pc ls (a2 :: a1 :: aR o :: st) V L N I a b :=
  x_callV C w d hR hi ho rfl hDD (okB_s hok) (okB_c hok) hroom (fun X V1 L1 N1 I1 h => by cases h.1) (fun r1 V1 L1 N1 I1 h => by obtain ⟨h1, h2, rfl, rfl, rfl⟩ := h; cases h1; exact K V1 h2)
theorem x_pV3 (C : OK E own cc nL ret D MC MS) {idx ci o D1 mL : Nat} {y : MethodName} {c1 : ByteArray} {r1 : Option FieldType} {a1 a2 a3 : AV} {r : Option AV} {Q : VV → Prop} {L' : LL} {N' : NN} {I' : List Nat} (w : CVk own idx ci 3 y c1 mL r1) (d : decode cc pc = .ok (.invokevirtual idx, 3)) (hR : Runs (eL E) D1 0 0 y (Cond.code y c1 mL r1) (aR o :: [a1, a2, a3]) V L N I (Pm r Q L' N' I'))
    (hi : o ∈ I) (ho : ocl o = some ci) (hDD : D1 + 1 ≤ D) (hok : okB ls st = true) (hroom : a ≤ MC ∧ b ≤ MS) (K : ∀ V', Q V' → Wx E (pc + 3) ls (r.toList ++ st) V' L' N' I' a b) : Wx E pc ls (a3 :: a2 :: a1 :: aR o :: st) V L N I a b :=
  x_callV C w d hR hi ho rfl hDD (okB_s hok) (okB_c hok) hroom (fun X V1 L1 N1 I1 h => by cases h.1) (fun r1 V1 L1 N1 I1 h => by obtain ⟨h1, h2, rfl, rfl, rfl⟩ := h; cases h1; exact K V1 h2)
theorem x_pV4 (C : OK E own cc nL ret D MC MS) {idx ci o D1 mL : Nat} {y : MethodName} {c1 : ByteArray} {r1 : Option FieldType} {a1 a2 a3 a4 : AV} {r : Option AV} {Q : VV → Prop} {L' : LL} {N' : NN} {I' : List Nat} (w : CVk own idx ci 4 y c1 mL r1) (d : decode cc pc = .ok (.invokevirtual idx, 3)) (hR : Runs (eL E) D1 0 0 y (Cond.code y c1 mL r1) (aR o :: [a1, a2, a3, a4]) V L N I (Pm r Q L' N' I'))
    (hi : o ∈ I) (ho : ocl o = some ci) (hDD : D1 + 1 ≤ D) (hok : okB ls st = true) (hroom : a ≤ MC ∧ b ≤ MS) (K : ∀ V', Q V' → Wx E (pc + 3) ls (r.toList ++ st) V' L' N' I' a b) : Wx E pc ls (a4 :: a3 :: a2 :: a1 :: aR o :: st) V L N I a b :=
  x_callV C w d hR hi ho rfl hDD (okB_s hok) (okB_c hok) hroom (fun X V1 L1 N1 I1 h => by cases h.1) (fun r1 V1 L1 N1 I1 h => by obtain ⟨h1, h2, rfl, rfl, rfl⟩ := h; cases h1; exact K V1 h2)
theorem x_pV5 (C : OK E own cc nL ret D MC MS) {idx ci o D1 mL : Nat} {y : MethodName} {c1 : ByteArray} {r1 : Option FieldType} {a1 a2 a3 a4 a5 : AV} {r : Option AV} {Q : VV → Prop} {L' : LL} {N' : NN} {I' : List Nat} (w : CVk own idx ci 5 y c1 mL r1) (d : decode cc pc = .ok (.invokevirtual idx, 3)) (hR : Runs (eL E) D1 0 0 y (Cond.code y c1 mL r1) (aR o :: [a1, a2, a3, a4, a5]) V L N I (Pm r Q L' N' I'))
    (hi : o ∈ I) (ho : ocl o = some ci) (hDD : D1 + 1 ≤ D) (hok : okB ls st = true) (hroom : a ≤ MC ∧ b ≤ MS) (K : ∀ V', Q V' → Wx E (pc + 3) ls (r.toList ++ st) V' L' N' I' a b) : Wx E pc ls (a5 :: a4 :: a3 :: a2 :: a1 :: aR o :: st) V L N I a b :=
  x_callV C w d hR hi ho rfl hDD (okB_s hok) (okB_c hok) hroom (fun X V1 L1 N1 I1 h => by cases h.1) (fun r1 V1 L1 N1 I1 h => by obtain ⟨h1, h2, rfl, rfl, rfl⟩ := h; cases h1; exact K V1 h2)
theorem x_pV6 (C : OK E own cc nL ret D MC MS) {idx ci o D1 mL : Nat} {y : MethodName} {c1 : ByteArray} {r1 : Option FieldType} {a1 a2 a3 a4 a5 a6 : AV} {r : Option AV} {Q : VV → Prop} {L' : LL} {N' : NN} {I' : List Nat} (w : CVk own idx ci 6 y c1 mL r1) (d : decode cc pc = .ok (.invokevirtual idx, 3)) (hR : Runs (eL E) D1 0 0 y (Cond.code y c1 mL r1) (aR o :: [a1, a2, a3, a4, a5, a6]) V L N I (Pm r Q L' N' I'))
    (hi : o ∈ I) (ho : ocl o = some ci) (hDD : D1 + 1 ≤ D) (hok : okB ls st = true) (hroom : a ≤ MC ∧ b ≤ MS) (K : ∀ V', Q V' → Wx E (pc + 3) ls (r.toList ++ st) V' L' N' I' a b) : Wx E pc ls (a6 :: a5 :: a4 :: a3 :: a2 :: a1 :: aR o :: st) V L N I a b :=
  x_callV C w d hR hi ho rfl hDD (okB_s hok) (okB_c hok) hroom (fun X V1 L1 N1 I1 h => by cases h.1) (fun r1 V1 L1 N1 I1 h => by obtain ⟨h1, h2, rfl, rfl, rfl⟩ := h; cases h1; exact K V1 h2)
theorem x_pV7 (C : OK E own cc nL ret D MC MS) {idx ci o D1 mL : Nat} {y : MethodName} {c1 : ByteArray} {r1 : Option FieldType} {a1 a2 a3 a4 a5 a6 a7 : AV} {r : Option AV} {Q : VV → Prop} {L' : LL} {N' : NN} {I' : List Nat} (w : CVk own idx ci 7 y c1 mL r1) (d : decode cc pc = .ok (.invokevirtual idx, 3)) (hR : Runs (eL E) D1 0 0 y (Cond.code y c1 mL r1) (aR o :: [a1, a2, a3, a4, a5, a6, a7]) V L N I (Pm r Q L' N' I'))
    (hi : o ∈ I) (ho : ocl o = some ci) (hDD : D1 + 1 ≤ D) (hok : okB ls st = true) (hroom : a ≤ MC ∧ b ≤ MS) (K : ∀ V', Q V' → Wx E (pc + 3) ls (r.toList ++ st) V' L' N' I' a b) : Wx E pc ls (a7 :: a6 :: a5 :: a4 :: a3 :: a2 :: a1 :: aR o :: st) V L N I a b :=
  x_callV C w d hR hi ho rfl hDD (okB_s hok) (okB_c hok) hroom (fun X V1 L1 N1 I1 h => by cases h.1) (fun r1 V1 L1 N1 I1 h => by obtain ⟨h1, h2, rfl, rfl, rfl⟩ := h; cases h1; exact K V1 h2)
end
theorem eq_nI {s : Nat} {ch by0 x : Int32} (h : nI s = ch) : by0 = if nI s = ch then by0 else x := by rw [if_pos h]
theorem ne_nI {s : Nat} {ch by0 x : Int32} (h : ¬ nI s = ch) : x = if nI s = ch then by0 else x := by rw [if_neg h]
theorem clkS_ov {F : Nat → Nat → Int32} {G : Nat → Int32} {o1 o2 : Nat → Int32} {d : Int32} : ∀ {n : Nat}, (∀ s, s < n → o1 s = o2 s) → clkS F G o1 d n = clkS F G o2 d n
  | 0, _ => rfl
  | n + 1, h => by
    rw [clkS, clkS, clkS_ov (fun s hs => h s (by omega)), h n (by omega)]
theorem airS_ov {F : Nat → Nat → Int32} {G : Nat → Int32} {o1 o2 : Nat → Int32} {n k s : Nat} (hs : s < n) (hk : k < 4) (h : ∀ s, s < n → o1 s = o2 s) : airS F G o1 n k s = airS F G o2 n k s := by
  unfold airS
  rw [clkS_ov (n := s) (fun x hx => h x (by omega)), h s hs]
  rcases (show k = 0 ∨ k = 1 ∨ k = 2 ∨ k = 3 by omega) with rfl | rfl | rfl | rfl <;> simp
theorem airI_ov {b : Nat} {V V1 : VV} {n : Nat} (hb : b + 5 < 20) (hn : n ≤ 24) (h : AirI b V V1 (fun s => if nI s = -1 then 0 else V 35 s) n) : AirI b V V1 (V 35) n := by
  have e : ∀ s, s < n → (if nI s = -1 then 0 else V 35 s) = V 35 s := fun s hs => if_neg (nI_m1 (by omega))
  refine ⟨h.1, fun s hs k hk => (h.2.1 s hs k hk).trans (airS_ov hs hk e), fun d hd => (h.2.2 d hd).trans (clkS_ov e)⟩
