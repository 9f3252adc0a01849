section
variable {E : EE} {own : String} {cc : ByteArray} {ret : Option FieldType} {nL D MC MS pc : Nat} {ls : zLS} {st : List AV} {V : VV} {L : LL} {N : NN} {I : List Nat} {a b mc ms : Nat}
theorem x_mV0 (C : OK E own cc nL ret D MC MS) (J : List Nat) (hJ : ∀ j, j ∈ J → j ∈ I) {idx ci o D1 mL m : Nat} {y : MethodName} {c1 : ByteArray} {r1 : Option FieldType} {r lr : Int32} {Z : (Nat → Int32) → Prop} (w : CVk own idx ci 0 y c1 mL r1) (d : decode cc pc = .ok (.invokevirtual idx, 3)) (hR : MutR (eL E) D1 mc ms y (Cond.code y c1 mL r1) (aR o :: []) V L N I m r Z lr)
    (hi : o ∈ I) (ho : ocl o = some ci) (hDD : D1 + 1 ≤ D) (hok : okG J ls st = true) (hroom : a + mc ≤ MC ∧ b + ms ≤ MS) (K : ∀ V' N' I', Mt2 V V' N' I' m Z lr → Wx E (pc + 3) ls (aI r :: st) V' L N' I' (a + mc) (b + ms)) : Wx E pc ls (aR o :: st) V L N I a b := by
  obtain ⟨P, hR, hP⟩ := hR
  exact x_callV (As := []) C w d hR hi ho rfl hDD (okG_s hJ hok) (okG_c hok) hroom (fun X V1 L1 N1 I1 h => by cases (hP _ _ _ _ _ h).1) (fun r1 V1 L1 N1 I1 h => by obtain ⟨h1, rfl, h2⟩ := hP _ _ _ _ _ h; cases h1; exact K V1 N1 I1 h2)
theorem x_mV1 (C : OK E own cc nL ret D MC MS) (J : List Nat) (hJ : ∀ j, j ∈ J → j ∈ I) {idx ci o D1 mL m : Nat} {y : MethodName} {c1 : ByteArray} {r1 : Option FieldType} {a1 : AV} {r lr : Int32} {Z : (Nat → Int32) → Prop} (w : CVk own idx ci 1 y c1 mL r1) (d : decode cc pc = .ok (.invokevirtual idx, 3)) (hR : MutR (eL E) D1 mc ms y (Cond.code y c1 mL r1) (aR o :: [a1]) V L N I m r Z lr)
    (hi : o ∈ I) (ho : ocl o = some ci) (hDD : D1 + 1 ≤ D) (hok : okG J ls st = true) (hroom : a + mc ≤ MC ∧ b + ms ≤ MS) (K : ∀ V' N' I', Mt2 V V' N' I' m Z lr → Wx E (pc + 3) ls (aI r :: st) V' L N' I' (a + mc) (b + ms)) : Wx E pc ls (a1 :: aR o :: st) V L N I a b := by
  obtain ⟨P, hR, hP⟩ := hR
  exact x_callV (As := [a1]) C w d hR hi ho rfl hDD (okG_s hJ hok) (okG_c hok) hroom (fun X V1 L1 N1 I1 h => by cases (hP _ _ _ _ _ h).1) (fun r1 V1 L1 N1 I1 h => by obtain ⟨h1, rfl, h2⟩ := hP _ _ _ _ _ h; cases h1; exact K V1 N1 I1 h2)
theorem x_mV2 (C : OK E own cc nL ret D MC MS) (J : List Nat) (hJ : ∀ j, j ∈ J → j ∈ I) {idx ci o D1 mL m : Nat} {y : MethodName} {c1 : ByteArray} {r1 : Option FieldType} {a1 a2 : AV} {r lr : Int32} {Z : (Nat → Int32) → Prop} (w : CVk own idx ci 2 y c1 mL r1) (d : decode cc pc = .ok (.invokevirtual idx, 3)) (hR : MutR (eL E) D1 mc ms y (Cond.code y c1 mL r1) (aR o :: [a1, a2]) V L N I m r Z lr)
    (hi : o ∈ I) (ho : ocl o = some ci) (hDD : D1 + 1 ≤ D) (hok : okG J ls st = true) (hroom : a + mc ≤ MC ∧ b + ms ≤ MS) (K : ∀ V' N' I', Mt2 V V' N' I' m Z lr → Wx E (pc + 3) ls (aI r :: st) V' L N' I' (a + mc) (b + ms)) : Wx E pc ls (a2 :: a1 :: aR o :: st) V L N I a b := by
  obtain ⟨P, hR, hP⟩ := hR
  exact x_callV (As := [a1, a2]) C w d hR hi ho rfl hDD (okG_s hJ hok) (okG_c hok) hroom (fun X V1 L1 N1 I1 h => by cases (hP _ _ _ _ _ h).1) (fun r1 V1 L1 N1 I1 h => by obtain ⟨h1, rfl, h2⟩ := hP _ _ _ _ _ h; cases h1; exact K V1 N1 I1 h2)
theorem x_mV3 (C : OK E own cc nL ret D MC MS) (J : List Nat) (hJ : ∀ j, j ∈ J → j ∈ I) {idx ci o D1 mL m : Nat} {y : MethodName} {c1 : ByteArray} {r1 : Option FieldType} {a1 a2 a3 : AV} {r lr : Int32} {Z : (Nat → Int32) → Prop} (w : CVk own idx ci 3 y c1 mL r1) (d : decode cc pc = .ok (.invokevirtual idx, 3)) (hR : MutR (eL E) D1 mc ms y (Cond.code y c1 mL r1) (aR o :: [a1, a2, a3]) V L N I m r Z lr)
    (hi : o ∈ I) (ho : ocl o = some ci) (hDD : D1 + 1 ≤ D) (hok : okG J ls st = true) (hroom : a + mc ≤ MC ∧ b + ms ≤ MS) (K : ∀ V' N' I', Mt2 V V' N' I' m Z lr → Wx E (pc + 3) ls (aI r :: st) V' L N' I' (a + mc) (b + ms)) : Wx E pc ls (a3 :: a2 :: a1 :: aR o :: st) V L N I a b := by
  obtain ⟨P, hR, hP⟩ := hR
  exact x_callV (As := [a1, a2, a3]) C w d hR hi ho rfl hDD (okG_s hJ hok) (okG_c hok) hroom (fun X V1 L1 N1 I1 h => by cases (hP _ _ _ _ _ h).1) (fun r1 V1 L1 N1 I1 h => by obtain ⟨h1, rfl, h2⟩ := hP _ _ _ _ _ h; cases h1; exact K V1 N1 I1 h2)
theorem x_mV4 (C : OK E own cc nL ret D MC MS) (J : List Nat) (hJ : ∀ j, j ∈ J → j ∈ I) {idx ci o D1 mL m : Nat} {y : MethodName} {c1 : ByteArray} {r1 : Option FieldType} {a1 a2 a3 a4 : AV} {r lr : Int32} {Z : (Nat → Int32) → Prop} (w : CVk own idx ci 4 y c1 mL r1) (d : decode cc pc = .ok (.invokevirtual idx, 3)) (hR : MutR (eL E) D1 mc ms y (Cond.code y c1 mL r1) (aR o :: [a1, a2, a3, a4]) V L N I m r Z lr)
    (hi : o ∈ I) (ho : ocl o = some ci) (hDD : D1 + 1 ≤ D) (hok : okG J ls st = true) (hroom : a + mc ≤ MC ∧ b + ms ≤ MS) (K : ∀ V' N' I', Mt2 V V' N' I' m Z lr → Wx E (pc + 3) ls (aI r :: st) V' L N' I' (a + mc) (b + ms)) : Wx E pc ls (a4 :: a3 :: a2 :: a1 :: aR o :: st) V L N I a b := by
  obtain ⟨P, hR, hP⟩ := hR
  exact x_callV (As := [a1, a2, a3, a4]) C w d hR hi ho rfl hDD (okG_s hJ hok) (okG_c hok) hroom (fun X V1 L1 N1 I1 h => by cases (hP _ _ _ _ _ h).1) (fun r1 V1 L1 N1 I1 h => by obtain ⟨h1, rfl, h2⟩ := hP _ _ _ _ _ h; cases h1; exact K V1 N1 I1 h2)
theorem x_mV5 (C : OK E own cc nL ret D MC MS) (J : List Nat) (hJ : ∀ j, j ∈ J → j ∈ I) {idx ci o D1 mL m : Nat} {y : MethodName} {c1 : ByteArray} {r1 : Option FieldType} {a1 a2 a3 a4 a5 : AV} {r lr : Int32} {Z : (Nat → Int32) → Prop} (w : CVk own idx ci 5 y c1 mL r1) (d : decode cc pc = .ok (.invokevirtual idx, 3)) (hR : MutR (eL E) D1 mc ms y (Cond.code y c1 mL r1) (aR o :: [a1, a2, a3, a4, a5]) V L N I m r Z lr)
    (hi : o ∈ I) (ho : ocl o = some ci) (hDD : D1 + 1 ≤ D) (hok : okG J ls st = true) (hroom : a + mc ≤ MC ∧ b + ms ≤ MS) (K : ∀ V' N' I', Mt2 V V' N' I' m Z lr → Wx E (pc + 3) ls (aI r :: st) V' L N' I' (a + mc) (b + ms)) : Wx E pc ls (a5 :: a4 :: a3 :: a2 :: a1 :: aR o :: st) V L N I a b := by
  obtain ⟨P, hR, hP⟩ := hR
  exact x_callV (As := [a1, a2, a3, a4, a5]) C w d hR hi ho rfl hDD (okG_s hJ hok) (okG_c hok) hroom (fun X V1 L1 N1 I1 h => by cases (hP _ _ _ _ _ h).1) (fun r1 V1 L1 N1 I1 h => by obtain ⟨h1, rfl, h2⟩ := hP _ _ _ _ _ h; cases h1; exact K V1 N1 I1 h2)
theorem x_mV6 (C : OK E own cc nL ret D MC MS) (J : List Nat) (hJ : ∀ j, j ∈ J → j ∈ I) {idx ci o D1 mL m : Nat} {y : MethodName} {c1 : ByteArray} {r1 : Option FieldType} {a1 a2 a3 a4 a5 a6 : AV} {r lr : Int32} {Z : (Nat → Int32) → Prop} (w : CVk own idx ci 6 y c1 mL r1) (d : decode cc pc = .ok (.invokevirtual idx, 3)) (hR : MutR (eL E) D1 mc ms y (Cond.code y c1 mL r1) (aR o :: [a1, a2, a3, a4, a5, a6]) V L N I m r Z lr)
    (hi : o ∈ I) (ho : ocl o = some ci) (hDD : D1 + 1 ≤ D) (hok : okG J ls st = true) (hroom : a + mc ≤ MC ∧ b + ms ≤ MS) (K : ∀ V' N' I', Mt2 V V' N' I' m Z lr → Wx E (pc + 3) ls (aI r :: st) V' L N' I' (a + mc) (b + ms)) : Wx E pc ls (a6 :: a5 :: a4 :: a3 :: a2 :: a1 :: aR o :: st) V L N I a b := by
  obtain ⟨P, hR, hP⟩ := hR
  exact x_callV (As := [a1, a2, a3, a4, a5, a6]) C w d hR hi ho rfl hDD (okG_s hJ hok) (okG_c hok) hroom (fun X V1 L1 N1 I1 h => by cases (hP _ _ _ _ _ h).1) (fun r1 V1 L1 N1 I1 h => by obtain ⟨h1, rfl, h2⟩ := hP _ _ _ _ _ h; cases h1; exact K V1 N1 I1 h2)
end
theorem Mt2.pi {V V2 : VV} {N2 : NN} {I2 : List Nat} {m : Nat} {Z : (Nat → Int32) → Prop} {lr : Int32} (h : Mt2 V V2 N2 I2 m Z lr) : PI I2 := by
  obtain ⟨_, V3, _, ⟨n, o, m, l0, hI⟩, _⟩ := h
  exact hI.2.2.1.1.1
theorem val_ok {s w lo hi : Nat} (h1 : stVal 0 s = nI lo) (h2 : stVal 1 s = nI hi) (h3 : lo ≤ w ∧ w ≤ hi) (h4 : hi < 2 ^ 31) : isValB s (nI w) = true := by
  unfold isValB
  rw [h1, h2, win_t, t_nat (by omega), t_nat (by omega), t_nat (by omega)]
  omega
theorem pred_add (k : Nat) : nI k + Int32.ofInt (-1) = nI k - 1 := by rw [Int32.sub_eq_add_neg]; rfl
theorem NewZ.cg {V W : VV} {n : Nat} {fr : Nat → Int32} {x : Int32} {z : Nat → Int32} (h : NewZ W n fr x z) (e : W 201 = V 201) : NewZ V n fr x z := by
  unfold NewZ at h ⊢
  rw [RF_z e, e] at h
  exact h
theorem MutR.z {l : Launch} {D mc ms : Nat} {y : MethodName} {w0 : Cond} {args : List AV} {V : VV} {L : LL} {N : NN} {I : List Nat} {m : Nat} {r r2 : Int32} {Z Z2 : (Nat → Int32) → Prop} {lr : Int32} (h : MutR l D mc ms y w0 args V L N I m r Z lr) (hr : r = r2) (hz : ∀ z, Z z → Z2 z) : MutR l D mc ms y w0 args V L N I m r2 Z2 lr := by
  obtain ⟨P, h1, h2⟩ := h
  refine ⟨P, h1, fun r1 V2 L2 N2 I2 hp => ?_⟩
  obtain ⟨a, b, c, V3, d, e, f, g, k⟩ := h2 r1 V2 L2 N2 I2 hp
  exact ⟨by rw [← hr]; exact a, b, c, V3, d, e, hz _ f, g, k⟩
theorem right_i {g d st ln sp : Int32} (h1 : 0 ≤ g.toInt ∧ g.toInt ≤ 5) (h2 : 0 ≤ d.toInt ∧ d.toInt ≤ 6) (h3 : 0 ≤ st.toInt ∧ st.toInt ≤ 1439) (h4 : 5 ≤ ln.toInt ∧ ln.toInt ≤ 240) (h5 : 0 ≤ sp.toInt ∧ sp.toInt ≤ 30) (h6 : sp.toInt ≤ ln.toInt) : rightB g d st ln sp = true := by
  unfold rightB
  simp only [Bool.and_eq_true, win_t, and_assoc]
  exact ⟨h1.1, h1.2, h2.1, h2.2, h3.1, h3.2, h4.1, h4.2, h5.1, h5.2, decide_eq_true (t_le.mpr h6)⟩
theorem right_0 {g d st ln sp : Int32} (h : rightB g d st ln sp = true) : rightB g d st ln 0 = true := by
  obtain ⟨r1, r2, r3, r4, r5⟩ := right_t h
  exact right_i r1 r2 r3 r4 (by rw [t_0]; omega) (by rw [t_0]; omega)
theorem rb_ok {gN dd ln sp : Nat} {st : Int32} (hg : gN < 6) (hd : dd < 7) (hst : 0 ≤ st.toInt ∧ st.toInt ≤ 1439) (h5 : 5 ≤ ln ∧ ln ≤ 240) (h8 : sp ≤ 8) (hs : sp ≤ ln) : rightB (nI gN) (nI dd) st (nI ln) (nI sp) = true :=
  right_i (by rw [t_nat (by omega)]; omega) (by rw [t_nat (by omega)]; omega) hst (by rw [t_nat (by omega)]; omega) (by rw [t_nat (by omega)]; omega) (by rw [t_nat (by omega), t_nat (by omega)]; omega)
theorem rb_ok2 {gN dd : Nat} {st ln : Int32} (hg : gN < 6) (hd : dd < 7) (hst : 0 ≤ st.toInt ∧ st.toInt ≤ 1439) (h5 : 5 ≤ ln.toInt ∧ ln.toInt ≤ 240) : rightB (nI gN) (nI dd) st ln 0 = true :=
  right_i (by rw [t_nat (by omega)]; omega) (by rw [t_nat (by omega)]; omega) hst h5 (by rw [t_0]; omega) (by rw [t_0]; omega)
theorem plc_cg {k1 k2 : Nat → Int32} {x : Int32} : ∀ {n : Nat}, (∀ s, s < n → k1 s = k2 s) → plcR k1 x n = plcR k2 x n
  | 0, _ => rfl
  | n + 1, h => by rw [plcR, plcR, h n (by omega), plc_cg (fun s hs => h s (by omega))]
section
variable {l : Launch} {V V3 W : VV} {L : LL} {N : NN} {I : List Nat} {n o m l0 T : Nat}
theorem new_add (h : InvX V N I n o m l0) (hlw : ∀ i, i < 210 → W i = V i) {x kd d st ln sp : Int32} {g q : Nat} (hx : x = 0 ∨ x = 1) (hkd : 1 - x = kd) (hg : g < 6) (hr : rightB (nI g) d st ln sp = true) (h0 : refR (RF V) (V 201) (alN V g) n kd (nI g) d st ln sp q = 0) :
    MutR l 7 15 246 yX6_add (Cond.code yX6_add cX6_add 7 (some .int)) [aR 0, aI x, aI (nI g), aI d, aI st, aI ln, aI sp] W L N I m (nI (plcR (keyS (RF V)) (1440 * d + st) n)) (NewZ V n (fun k => if k = 0 then kd else if k = 1 then nI g else if k = 2 then d else if k = 3 then st else if k = 4 then ln else if k = 5 then sp else if k = 6 then 0 else -1) (1440 * d + st)) 0 := by
  have e := hlw 201 (by decide)
  have hk2 : ¬ kd = 2 := by rw [← hkd]; rcases hx with rfl | rfl <;> decide
  have hh : refR (RF W) (W 201) (alN W g) n (1 - x) (nI g) d st ln sp 0 = 0 := by
    have ea : alN W g = alN V g := by unfold alN; rw [e]
    rw [RF_z e, e, ea, hkd, refR_o (o2 := q) hk2]; exact h0
  have := m_add (l := l) (L := L) (h.law hlw) hx hg hr hh
  rw [hkd] at this
  exact this.z (by rw [RF_z e]) (fun z hz => hz.cg e)
theorem new_rep (h : InvX V N I n o m l0) (hlw : ∀ i, i < 210 → W i = V i) {d st : Int32} {g q : Nat} (hq : q < n) (hg : g < 6) (hgq : RF V 1 q = nI g) (hr : rightB (nI g) d st (RF V 4 q) 0 = true) (h0 : refR (RF V) (V 201) (alN V g) n 2 (nI g) d st (RF V 4 q) 0 q = 0) :
    MutR l 7 15 246 yX6_repeat (Cond.code yX6_repeat cX6_repeat 4 (some .int)) [aR 0, aI (nI q), aI d, aI st] W L N I m (nI (plcR (keyS (RF V)) (1440 * d + st) n)) (NewZ V n (fun k => if k = 0 then 2 else if k = 1 then nI g else if k = 2 then d else if k = 3 then st else if k = 4 then RF V 4 q else if k = 5 then 0 else if k = 6 then 0 else nI q) (1440 * d + st)) 0 := by
  have e := hlw 201 (by decide)
  have er : RF W = RF V := RF_z e
  have hh : refR (RF W) (W 201) (alN W g) n 2 (nI g) d st (RF W 4 q) 0 q = 0 := by
    have ea : alN W g = alN V g := by unfold alN; rw [e]
    rw [er, e, ea]; exact h0
  have := m_repeat (l := l) (L := L) (h.law hlw) hq hg (by rw [er]; exact hgq) (by rw [er]; exact hr) hh
  rw [er] at this
  exact this.z rfl (fun z hz => hz.cg e)
/-- a repeat lies behind its original -/
theorem rep_lt (hR : Rw (V 201) n) {g d st ln sp al : Int32} {q : Nat} (hq : q < n) (hd : 0 ≤ d.toInt ∧ d.toInt ≤ 6) (hst : 0 ≤ st.toInt ∧ st.toInt ≤ 1439) (h0 : refR (RF V) (V 201) al n 2 g d st ln sp q = 0) : q < plcR (keyS (RF V)) (1440 * d + st) n := by
  refine Nat.lt_of_not_le fun hle => ?_
  have hk := (plc_at (key := keyS (RF V)) (x := 1440 * d + st) (n := n)).1 q hle hq
  have hb := hR.2.2.2.1 q hq
  have hgb := rw_gb hR
  have hsb : ShB (RF V) q := hb
  have hearl : ¬ (1440 * d + st < earlS (RF V) (V 201 4) q) := fun z => by
    unfold refR at h0
    by_cases c1 : n = 24
    · rw [if_pos c1] at h0; exact absurd h0 (by decide)
    · rw [if_neg c1] at h0
      by_cases c2 : ((2 : Int32) = 2 ∧ RF V 0 q = 2)
      · rw [if_pos c2] at h0; exact absurd h0 (by decide)
      · rw [if_neg c2] at h0
        by_cases c3 : st < V 201 0 ∨ V 201 1 < st + ln
        · rw [if_pos c3] at h0; exact absurd h0 (by decide)
        · rw [if_neg c3] at h0
          by_cases c4 : orTo (hitS (RF V) d st ln) n = true
          · rw [if_pos c4] at h0; exact absurd h0 (by decide)
          · rw [if_neg c4, if_pos ⟨rfl, z⟩] at h0; exact absurd h0 (by decide)
  have hx : (1440 * d + st).toInt = 1440 * d.toInt + st.toInt := by
    have c1 : (1440 : Int32).toInt = 1440 := rfl
    have e1 : (1440 * d).toInt = 1440 * d.toInt := by rw [t_mul (by rw [c1]; omega) (by rw [c1]; omega), c1]
    rw [t_add (by omega) (by omega), e1]
  have he : (earlS (RF V) (V 201 4) q).toInt = 1440 * (RF V 2 q).toInt + (RF V 3 q).toInt + (RF V 4 q).toInt + 60 * (V 201 4).toInt := earl_t hsb hgb
  rw [t_lt, key_t hsb, hx] at hk
  rw [t_lt, hx, he] at hearl
  have := hsb.2.2.2.2.1
  have g4 := hgb.2.2.2.2.1
  unfold keyT at hk
  omega
theorem new_tie (h : InvX V N I n o m l0) (ht : Tie V n T) (hn6 : n + 1 ≤ 6) (hT : T + 1 ≤ 900) (hw : 0 ≤ (V 201 38).toInt ∧ (V 201 38).toInt ≤ T) {kd g d st ln sp og x7 : Int32} (h7 : (kd ≠ 2 ∧ x7 = -1 ∧ og = -1) ∨ (kd = 2 ∧ ∃ q, q < n ∧ q < plcR (keyS (RF V)) (1440 * d + st) n ∧ x7 = nI q ∧ og = GF V 8 q))
    (e : ∀ i, 210 ≤ i → V3 i = snkV (up (layV V n kd g d st ln sp og (nI T)) 212 2 0) n (plcR (keyS (RF V)) (1440 * d + st) n) i) (hz : NewZ V n (fun k => if k = 0 then kd else if k = 1 then g else if k = 2 then d else if k = 3 then st else if k = 4 then ln else if k = 5 then sp else if k = 6 then 0 else x7) (1440 * d + st) (V3 201)) (h6 : V3 0 6 = 0) :
    ∃ n2, V3 212 1 = nI n2 ∧ V3 201 39 = nI n2 ∧ Tie V3 n2 (T + 1) ∧ (0 ≤ (V3 201 38).toInt ∧ (V3 201 38).toInt ≤ ((T + 1 : Nat) : Int)) := by
  have hO : OrB (RF V) n := h.2.1.2.2.2.2.1
  have h39 := hz.2.2.2
  have h38 := hz.1 38 (by decide)
  have hple := plcR_le (key := keyS (RF V)) (x := 1440 * d + st) n
  refine ⟨n + 1, by rw [e 212 (by decide), sn_1], h39, tie_new (og := og) (fr := (fun k => if k = 0 then kd else if k = 1 then g else if k = 2 then d else if k = 3 then st else if k = 4 then ln else if k = 5 then sp else if k = 6 then 0 else x7)) (x := 1440 * d + st) ht hn6 hT hw hO hple rfl ⟨rfl, rfl, rfl, rfl, rfl, rfl, rfl⟩ h7 e hz h6 h39, by rw [h38]; omega⟩
end
