-- what holds between two calls; a call that only asks
def InvX (V : VV) (N : NN) (I : List Nat) (n o m l0 : Nat) : Prop := P2 V 20 (V 201) n ∧ Rw (V 201) n ∧ HH V N I o m ∧ SvI V N o m ∧ V 200 2 = nI m ∧ V 0 6 = V 200 4 ∧ V 3 1 = nI l0 ∧ V 200 5 = nI l0 ∧ l0 ≤ 60 ∧ (∀ i, i < l0 → V 4 i = V 203 i) ∧ ∃ a, V 3 2 = nI a
def Inv (V : VV) (N : NN) (I : List Nat) : Prop := ∃ n o m l0, InvX V N I n o m l0
/-- places that are written anew before they are read -/
def Scr (i j : Nat) : Prop := i = 2 ∨ (5 ≤ i ∧ i ≤ 19) ∨ (37 ≤ i ∧ i ≤ 39) ∨ (157 ≤ i ∧ i < 200) ∨ (i = 200 ∧ j ≠ 2 ∧ j ≠ 4 ∧ j ≠ 5) ∨ 204 ≤ i ∨ (i = 0 ∧ j ≠ 6) ∨ (i = 3 ∧ j ≠ 1 ∧ j ≠ 2)
def Sx (V V1 : VV) : Prop := ∀ i j, ¬ Scr i j → V1 i j = V i j
theorem sx_r {V : VV} : Sx V V := fun _ _ _ => rfl
theorem sx_t {V V1 V2 : VV} (h : Sx V V1) (h2 : Sx V1 V2) : Sx V V2 := fun i j z => (h2 i j z).trans (h i j z)
theorem sx_z {V V1 : VV} (h : Sx V V1) : V1 201 = V 201 := funext fun j => h 201 j (by unfold Scr; omega)
theorem sx_f {V V1 : VV} (h : Sx V V1) {i : Nat} (hi : i = 1 ∨ i = 4 ∨ (20 ≤ i ∧ i ≤ 36) ∨ (40 ≤ i ∧ i ≤ 156) ∨ (201 ≤ i ∧ i ≤ 203)) : V1 i = V i := funext fun j => h i j (by unfold Scr; omega)
theorem sx_air {V V1 : VV} {ov : Nat → Int32} {n : Nat} (h : AirI 6 V V1 ov n) : Sx V V1 := fun i j z => congrFun (h.1 i (fun q => z (by unfold Scr; omega))) j
theorem sx_air2 {V V1 : VV} {ov : Nat → Int32} {n : Nat} (h : AirI 12 V V1 ov n) : Sx V V1 := fun i j z => congrFun (h.1 i (fun q => z (by unfold Scr; omega))) j
theorem sx_sma {V V1 : VV} (h : SmA 12 V V1) : Sx V V1 := fun i j z => congrFun (h i (fun q => z (by unfold Scr; omega))) j
theorem sx_bec {V : VV} {k g d s l sp o : Int32} : Sx V (becomeV V k g d s l sp o) := fun i j z => sm5_b i j (fun q => z (by unfold Scr; omega))
theorem sx_smr {V V1 : VV} {th : Int32} (h : SmR V V1 th) : Sx V V1 := fun i j z => h.1 i j (fun q => z (by unfold Scr; omega)) (fun q => z (by unfold Scr; omega))
theorem sx_sml {V V1 : VV} (h : SmL V V1) : Sx V V1 := fun i j z => h i j (fun q => z (by unfold Scr; omega)) (fun q => z (by unfold Scr; omega))
theorem sx_smf {V V1 : VV} (h : SmF V V1) : Sx V V1 := fun i j z => h i j (fun q => z (by unfold Scr; omega)) (fun q => z (by unfold Scr; omega))
theorem sx_th {V : VV} {x : Int32} : Sx V (up V 200 0 x) := fun i j z => by
  dsimp only [up]
  by_cases q : i = 200
  · rw [if_pos q, if_neg (fun w => z (by unfold Scr; omega))]
  · rw [if_neg q]
theorem sx_sau {V V1 : VV} (h : Sau V V1) : Sx V V1 := fun i j z => by
  by_cases q : i = 200
  · subst q
    exact h.1 j (fun w => z (by unfold Scr; omega)) (fun w => z (by unfold Scr; omega)) (fun w => z (by unfold Scr; omega))
  · exact congrFun (h.2 i q (fun w => z (by unfold Scr; omega))) j
theorem InvX.sx {V V1 : VV} {N : NN} {I : List Nat} {n o m l0 : Nat} (h : InvX V N I n o m l0) (hs : Sx V V1) : InvX V1 N I n o m l0 := by
  obtain ⟨h1, h2, h3, h4, h5, h6, h7, h8, h9, h10, a, h11⟩ := h
  have ez := sx_z hs
  have e1 : V1 1 = V 1 := sx_f hs (by omega)
  obtain ⟨k1, k2, k3, k4, k5⟩ := h3
  refine ⟨P2.cg h2.1 (fun i a b => sx_f hs (by omega)) (fun j _ => congrFun ez j) h1, Rw.cg (fun j _ => congrFun ez j) h2, ⟨k1, by rw [e1]; exact k2, k3, by rw [e1]; exact k4, k5⟩, SvI.cg (fun i a b => sx_f hs (by omega)) (sx_f hs (by omega)) h4, ?_, ?_, ?_, ?_, h9, fun i hi => ?_, a, ?_⟩
  · rw [hs 200 2 (by unfold Scr; omega)]; exact h5
  · rw [hs 200 4 (by unfold Scr; omega), hs 0 6 (by unfold Scr; omega)]; exact h6
  · rw [hs 3 1 (by unfold Scr; omega)]; exact h7
  · rw [hs 200 5 (by unfold Scr; omega)]; exact h8
  · rw [sx_f hs (i := 4) (by omega), sx_f hs (i := 203) (by omega)]; exact h10 i hi
  · rw [hs 3 2 (by unfold Scr; omega)]; exact h11
/-- an answer, or which exception -/
def Mt (cs : List String) (r : RR) (k : Nat) (w : Int32) : Prop := (∃ v, r = .inl (some (aI v)) ∧ k = 0 ∧ w = v) ∨ ∃ X, r = .inr X ∧ X ∈ cs ∧ ∀ j, cs[j]? = some X → k = j + 1
theorem mt_x {cs : List String} {X : String} {k : Nat} {w : Int32} (h : cs[k]? = some X) (hn : cs.Nodup) : Mt cs (.inr X) (k + 1) w := by
  refine Or.inr ⟨X, rfl, List.mem_of_getElem? h, fun j hj => ?_⟩
  have hk := (List.getElem?_eq_some_iff.mp h).1
  have := (List.getElem?_inj hk hn).mp (h.trans hj.symm)
  omega
abbrev RMT : Type := VV → LL → NN → List Nat → PP → Prop
/-- the class's call and the reference's behind it -/
def SP (P : PP) (RM : RMT) (cs : List String) : Prop := ∀ r V2 L2 N2 I2, P r V2 L2 N2 I2 → IN N2 I2 ∧ ∃ (k : Nat) (w : Int32), k ≤ 3 ∧ Mt cs r k w ∧ ∀ L', ∃ Q : VV → Prop, RM V2 L' N2 I2 (Pm (some (aI w)) Q L' N2 I2) ∧ ∀ V3, Q V3 → V3 200 0 = nI k ∧ Inv V3 N2 I2
theorem sp_q {V : VV} {N : NN} {I : List Nat} {n o m l0 : Nat} (h : InvX V N I n o m l0) {P : PP} {RM : RMT} {cs : List String} (K : ∀ r V2 L2 N2 I2, P r V2 L2 N2 I2 → N2 = N ∧ I2 = I ∧ Sx V V2 ∧ ∃ (k : Nat) (w : Int32), k ≤ 3 ∧ Mt cs r k w ∧ ∀ L', ∃ Q : VV → Prop, RM V2 L' N2 I2 (Pm (some (aI w)) Q L' N2 I2) ∧ ∀ V3, Q V3 → V3 200 0 = nI k ∧ Sx V2 V3) : SP P RM cs := by
  intro r V2 L2 N2 I2 hp
  obtain ⟨rfl, rfl, h1, k, w, hk, h2, h3⟩ := K r V2 L2 N2 I2 hp
  refine ⟨h.2.2.1.1, k, w, hk, h2, fun L' => ?_⟩
  obtain ⟨Q, q1, q2⟩ := h3 L'
  exact ⟨Q, q1, fun V3 hq => ⟨(q2 V3 hq).1, n, o, m, l0, h.sx (sx_t h1 (q2 V3 hq).2)⟩⟩
theorem ei_c {B : Bool} {X : String} {P : PP} {V : VV} {L : LL} {N : NN} {I : List Nat} {r : RR} {V2 : VV} {L2 : LL} {N2 : NN} {I2 : List Nat} (h : Ei B X P V L N I r V2 L2 N2 I2) : (B = true ∧ P r V2 L2 N2 I2) ∨ (B = false ∧ r = .inr X ∧ V2 = V ∧ L2 = L ∧ N2 = N ∧ I2 = I) := by
  unfold Ei at h
  cases B with
  | true => rw [if_pos rfl] at h; exact Or.inl ⟨rfl, h⟩
  | false => rw [if_neg (by decide)] at h; exact Or.inr ⟨rfl, h⟩
abbrev xO : String := "java/lang/IndexOutOfBoundsException"
abbrev xA : String := "java/lang/IllegalArgumentException"
abbrev xS : String := "java/lang/IllegalStateException"
theorem nd_2a : [xO, xA].Nodup := by decide
theorem nd_2b : [xA, xS].Nodup := by decide
theorem nd_2c : [xO, xS].Nodup := by decide
theorem nd_3 : [xO, xA, xS].Nodup := by decide
theorem nd_1 {x : String} : [x].Nodup := by simp
section
variable {l : Launch} {V : VV} {L : LL} {N : NN} {I : List Nat} {n o m l0 : Nat}
theorem InvX.d {V : VV} (h : InvX V N I n o m l0) : ∀ s, s < n → ∃ d, d < 7 ∧ V 31 s = nI d := fun s hs => by
  obtain ⟨d, a, b⟩ := rw_d h.2.1 hs
  exact ⟨d, a, (h.1.2.2.2.2 2 (by decide) s hs).trans b⟩
theorem InvX.g {V : VV} (h : InvX V N I n o m l0) : ∀ s, s < n → ∃ d, d < 6 ∧ V 30 s = nI d := fun s hs => by
  obtain ⟨d, a, b⟩ := rw_g h.2.1 hs
  exact ⟨d, a, (h.1.2.2.2.2 1 (by decide) s hs).trans b⟩
theorem s_show (h : InvX V N I n o m l0) (x y : Int32) : ∃ P, Runs l 6 1 6 yX6_show (Cond.code yX6_show cX6_show 3 (some .int)) [aR 0, aI x, aI y] V L N I P ∧ SP P (fun V2 L' N2 I2 PM => Runs l 5 0 0 yX7_show (Cond.code yX7_show cX7_show 3 (some .int)) [aR 200, aI x, aI y] V2 L' N2 I2 PM) [xO, xA] := by
  have hI := h.2.2.1.1.1
  have hn24 := h.2.1.1
  refine ⟨_, c_X6_show hI h.1.2.2.2.1 hn24 h.d x y, sp_q h fun r V2 L2 N2 I2 hp => ?_⟩
  rcases ei_c hp with ⟨b1, hp⟩ | ⟨b1, rfl, rfl, rfl, rfl, rfl⟩
  · rw [num_eq hn24] at b1
    rcases ei_c hp with ⟨b2, hp⟩ | ⟨b2, rfl, rfl, rfl, rfl, rfl⟩
    · obtain ⟨rfl, hA, rfl, rfl, rfl⟩ := hp
      have hq := pq_of h.1 h.2.1 hA
      obtain ⟨s, hs, rfl⟩ := shNat hn24 b1
      obtain ⟨w, hw, rfl⟩ := win_of (k := 11) (by decide) b2
      refine ⟨rfl, rfl, sx_air hA, 0, _, by decide, Or.inl ⟨_, rfl, rfl, ?_⟩, fun L' => ⟨_, c_X7_show hI hq.2.1.2.1 hn24 _ _, fun V3 z => ⟨z.2.trans (th2_0 b1 b2), sx_smr z⟩⟩⟩
      rw [if_pos (th2_0 b1 b2), nI_clamp (by omega), nI_clamp (by omega)]
      exact (q_show hq hs (by omega)).symm
    · exact ⟨rfl, rfl, sx_r, 2, _, by decide, mt_x (k := 1) rfl nd_2a, fun L' => ⟨_, c_X7_show hI h.2.1.2.1 hn24 _ _, fun V3 z => ⟨z.2.trans (th2_2 b1 b2), sx_smr z⟩⟩⟩
  · rw [num_eq hn24] at b1
    exact ⟨rfl, rfl, sx_r, 1, _, by decide, mt_x (k := 0) rfl nd_2a, fun L' => ⟨_, c_X7_show hI h.2.1.2.1 hn24 _ _, fun V3 z => ⟨z.2.trans (th2_1 b1), sx_smr z⟩⟩⟩
end
