/-- which ids are there, by which of the saved plans are -/
def IN (N : NN) (I : List Nat) : Prop := PI I ∧ (∀ k, k < 6 → N k = false → PB I (40 + 20 * k)) ∧ (∀ k, k < 6 → N k = true → ∀ i, 40 + 20 * k ≤ i → i ≤ 40 + 20 * k + 16 → i ∉ I) ∧ ∀ i, i = 18 ∨ (200 ≤ i ∧ i ≤ 209) ∨ 218 ≤ i → i ∉ I
theorem bk_mem {b i : Nat} : i ∈ bkI b → b ≤ i ∧ i ≤ b + 16 := by
  intro h
  simp only [bkI, List.mem_cons, List.not_mem_nil, or_false] at h
  omega
theorem bk_PB {I : List Nat} {b : Nat} (h : ∀ i, i ∈ bkI b → i ∈ I) : PB I b := by
  intro j hj
  have hj := of_decide_eq_true hj
  refine h _ ?_
  simp only [bkI, List.mem_cons, List.not_mem_nil, or_false]
  omega
theorem IN.new {N : NN} {I : List Nat} {p : Nat} (hp : p < 6) (h : IN N I) : IN (fun k => if k = p then false else N k) (I ++ bkI (40 + 20 * p)) := by
  obtain ⟨h1, h2, h3, h4⟩ := h
  refine ⟨fun i hi => List.mem_append_left _ (h1 i hi), fun k hk hN => ?_, fun k hk hN i hi1 hi2 hm => ?_, fun i hi hm => ?_⟩
  · by_cases hkp : k = p
    · subst hkp
      exact bk_PB fun i hi => List.mem_append_right _ hi
    · dsimp only at hN
      rw [if_neg hkp] at hN
      exact fun j hj => List.mem_append_left _ (h2 k hk hN j hj)
  · dsimp only at hN
    by_cases hkp : k = p
    · rw [if_pos hkp] at hN; cases hN
    · rw [if_neg hkp] at hN
      rcases List.mem_append.mp hm with hm | hm
      · exact h3 k hk hN i hi1 hi2 hm
      · have := bk_mem hm
        omega
  · rcases List.mem_append.mp hm with hm | hm
    · exact h4 i hi hm
    · have := bk_mem hm
      omega
theorem N_same {N : NN} {p : Nat} (h : N p = false) : (fun k => if k = p then false else N k) = N := by
  funext k
  by_cases hk : k = p
  · rw [if_pos hk, hk, h]
  · rw [if_neg hk]
theorem ocl_p (p : Nat) (hp : p < 6) : ocl (40 + 20 * p) = some 3 := by unfold ocl; rw [if_pos (by omega)]
theorem s_copy {l : Launch} {V : VV} {L : LL} {N : NN} {I : List Nat} (hI : PI I) {p : Nat} (hp : p < 6) (hb : PB I (40 + 20 * p)) : Runs l 2 0 0 yX3_copyFrom (Cond.code yX3_copyFrom cX3_copyFrom 2 none) [aR (40 + 20 * p), aR 20] V L N I (Is none (cfV V 20 (40 + 20 * p)) L N I) := by
  rcases (show p = 0 ∨ p = 1 ∨ p = 2 ∨ p = 3 ∨ p = 4 ∨ p = 5 by omega) with rfl | rfl | rfl | rfl | rfl | rfl
  · exact s0_X3_copyFrom hI hb
  · exact s1_X3_copyFrom hI hb
  · exact s2_X3_copyFrom hI hb
  · exact s3_X3_copyFrom hI hb
  · exact s4_X3_copyFrom hI hb
  · exact s5_X3_copyFrom hI hb
theorem r_copy {l : Launch} {V : VV} {L : LL} {N : NN} {I : List Nat} (hI : PI I) {p : Nat} (hp : p < 6) (hb : PB I (40 + 20 * p)) : Runs l 2 0 0 yX3_copyFrom (Cond.code yX3_copyFrom cX3_copyFrom 2 none) [aR 20, aR (40 + 20 * p)] V L N I (Is none (cfV V (40 + 20 * p) 20) L N I) := by
  rcases (show p = 0 ∨ p = 1 ∨ p = 2 ∨ p = 3 ∨ p = 4 ∨ p = 5 by omega) with rfl | rfl | rfl | rfl | rfl | rfl
  · exact r0_X3_copyFrom hI hb
  · exact r1_X3_copyFrom hI hb
  · exact r2_X3_copyFrom hI hb
  · exact r3_X3_copyFrom hI hb
  · exact r4_X3_copyFrom hI hb
  · exact r5_X3_copyFrom hI hb
theorem cpy_no {V : VV} {o0 o1 m i : Nat} (h : i ≠ o1) : cpy V o0 o1 m i = V i := by
  funext j; unfold cpy; rw [if_neg (fun q => h q.1)]
theorem cpy_s {V : VV} {o0 o1 m j : Nat} (h : j < m) : cpy V o0 o1 m o1 j = V o0 j := by unfold cpy; rw [if_pos ⟨rfl, h⟩]
theorem cf_no {V : VV} {s d i : Nat} (h : ¬ (d ≤ i ∧ i ≤ d + 16)) : cfV V s d i = V i := by
  unfold cfV
  rw [cpy_no (by omega), cpy_no (by omega), cpy_no (by omega), cpy_no (by omega), cpy_no (by omega), cpy_no (by omega), cpy_no (by omega), cpy_no (by omega), up_nf (by omega), up_nf (by omega), cpy_no (by omega), cpy_no (by omega), cpy_no (by omega), cpy_no (by omega), cpy_no (by omega), cpy_no (by omega)]
/-- the six rows of the groups and the settings -/
abbrev cf6 (V : VV) (s d : Nat) : VV := cpy (cpy (cpy (cpy (cpy (cpy V (s + 1) (d + 1) 8) (s + 2) (d + 2) 6) (s + 3) (d + 3) 6) (s + 4) (d + 4) 6) (s + 5) (d + 5) 6) (s + 6) (d + 6) 6
theorem cf6_no {V : VV} {s d i : Nat} (h : ¬ (d + 1 ≤ i ∧ i ≤ d + 6)) : cf6 V s d i = V i := by
  unfold cf6
  rw [cpy_no (by omega), cpy_no (by omega), cpy_no (by omega), cpy_no (by omega), cpy_no (by omega), cpy_no (by omega)]
theorem cf_eq {V : VV} {s d : Nat} : cfV V s d = cpy (cpy (cpy (cpy (cpy (cpy (cpy (cpy (up (up (cf6 V s d) d 6 (cf6 V s d s 6)) d 7 ((up (cf6 V s d) d 6 (cf6 V s d s 6)) s 7)) (s + 9) (d + 9) 24) (s + 10) (d + 10) 24) (s + 11) (d + 11) 24) (s + 12) (d + 12) 24) (s + 13) (d + 13) 24) (s + 14) (d + 14) 24) (s + 15) (d + 15) 24) (s + 16) (d + 16) 24 := rfl
theorem cf_6 {V : VV} {s d : Nat} (h : d + 16 < s ∨ s + 16 < d) : cfV V s d d 6 = V s 6 := by
  rw [cf_eq, cpy_no (by omega), cpy_no (by omega), cpy_no (by omega), cpy_no (by omega), cpy_no (by omega), cpy_no (by omega), cpy_no (by omega), cpy_no (by omega), up_nk (by omega), up_ss, cf6_no (by omega)]
theorem cf_7 {V : VV} {s d : Nat} (h : d + 16 < s ∨ s + 16 < d) : cfV V s d d 7 = V s 7 := by
  rw [cf_eq, cpy_no (by omega), cpy_no (by omega), cpy_no (by omega), cpy_no (by omega), cpy_no (by omega), cpy_no (by omega), cpy_no (by omega), cpy_no (by omega), up_ss, up_no (by omega), cf6_no (by omega)]
theorem cf_set {V : VV} {s d j : Nat} (h : d + 16 < s ∨ s + 16 < d) (hj : j < 8) : cfV V s d (d + 1) j = V (s + 1) j := by
  rw [cf_eq, cpy_no (by omega), cpy_no (by omega), cpy_no (by omega), cpy_no (by omega), cpy_no (by omega), cpy_no (by omega), cpy_no (by omega), cpy_no (by omega), up_no (by omega), up_no (by omega)]
  unfold cf6
  rw [cpy_no (by omega), cpy_no (by omega), cpy_no (by omega), cpy_no (by omega), cpy_no (by omega), cpy_s hj]
theorem cf_grp {V : VV} {s d k j : Nat} (h : d + 16 < s ∨ s + 16 < d) (hk : k < 5) (hj : j < 6) : cfV V s d (d + 2 + k) j = V (s + 2 + k) j := by
  rw [cf_eq, cpy_no (by omega), cpy_no (by omega), cpy_no (by omega), cpy_no (by omega), cpy_no (by omega), cpy_no (by omega), cpy_no (by omega), cpy_no (by omega), up_no (by omega), up_no (by omega)]
  unfold cf6
  rcases (show k = 0 ∨ k = 1 ∨ k = 2 ∨ k = 3 ∨ k = 4 by omega) with rfl | rfl | rfl | rfl | rfl
  · show cpy _ _ _ _ (d + 2) j = V (s + 2) j
    rw [cpy_no (by omega), cpy_no (by omega), cpy_no (by omega), cpy_no (by omega), cpy_s hj, cpy_no (by omega)]
  · show cpy _ _ _ _ (d + 3) j = V (s + 3) j
    rw [cpy_no (by omega), cpy_no (by omega), cpy_no (by omega), cpy_s hj, cpy_no (by omega), cpy_no (by omega)]
  · show cpy _ _ _ _ (d + 4) j = V (s + 4) j
    rw [cpy_no (by omega), cpy_no (by omega), cpy_s hj, cpy_no (by omega), cpy_no (by omega), cpy_no (by omega)]
  · show cpy _ _ _ _ (d + 5) j = V (s + 5) j
    rw [cpy_no (by omega), cpy_s hj, cpy_no (by omega), cpy_no (by omega), cpy_no (by omega), cpy_no (by omega)]
  · show cpy _ _ _ _ (d + 6) j = V (s + 6) j
    rw [cpy_s hj, cpy_no (by omega), cpy_no (by omega), cpy_no (by omega), cpy_no (by omega), cpy_no (by omega)]
theorem cf_sh {V : VV} {s d k j : Nat} (h : d + 16 < s ∨ s + 16 < d) (hk : k < 8) (hj : j < 24) : cfV V s d (d + 9 + k) j = V (s + 9 + k) j := by
  have e : ∀ i, ¬ (d ≤ i ∧ i ≤ d + 8) → (up (up (cf6 V s d) d 6 (cf6 V s d s 6)) d 7 ((up (cf6 V s d) d 6 (cf6 V s d s 6)) s 7)) i = V i := fun i hi => by
    rw [up_nf (by omega), up_nf (by omega), cf6_no (by omega)]
  rw [cf_eq]
  generalize (up (up (cf6 V s d) d 6 (cf6 V s d s 6)) d 7 ((up (cf6 V s d) d 6 (cf6 V s d s 6)) s 7)) = W at e
  rcases (show k = 0 ∨ k = 1 ∨ k = 2 ∨ k = 3 ∨ k = 4 ∨ k = 5 ∨ k = 6 ∨ k = 7 by omega) with rfl | rfl | rfl | rfl | rfl | rfl | rfl | rfl
  · show cpy _ _ _ _ (d + 9) j = V (s + 9) j
    rw [cpy_no (by omega), cpy_no (by omega), cpy_no (by omega), cpy_no (by omega), cpy_no (by omega), cpy_no (by omega), cpy_no (by omega), cpy_s hj, e _ (by omega)]
  · show cpy _ _ _ _ (d + 10) j = V (s + 10) j
    rw [cpy_no (by omega), cpy_no (by omega), cpy_no (by omega), cpy_no (by omega), cpy_no (by omega), cpy_no (by omega), cpy_s hj, cpy_no (by omega), e _ (by omega)]
  · show cpy _ _ _ _ (d + 11) j = V (s + 11) j
    rw [cpy_no (by omega), cpy_no (by omega), cpy_no (by omega), cpy_no (by omega), cpy_no (by omega), cpy_s hj, cpy_no (by omega), cpy_no (by omega), e _ (by omega)]
  · show cpy _ _ _ _ (d + 12) j = V (s + 12) j
    rw [cpy_no (by omega), cpy_no (by omega), cpy_no (by omega), cpy_no (by omega), cpy_s hj, cpy_no (by omega), cpy_no (by omega), cpy_no (by omega), e _ (by omega)]
  · show cpy _ _ _ _ (d + 13) j = V (s + 13) j
    rw [cpy_no (by omega), cpy_no (by omega), cpy_no (by omega), cpy_s hj, cpy_no (by omega), cpy_no (by omega), cpy_no (by omega), cpy_no (by omega), e _ (by omega)]
  · show cpy _ _ _ _ (d + 14) j = V (s + 14) j
    rw [cpy_no (by omega), cpy_no (by omega), cpy_s hj, cpy_no (by omega), cpy_no (by omega), cpy_no (by omega), cpy_no (by omega), cpy_no (by omega), e _ (by omega)]
  · show cpy _ _ _ _ (d + 15) j = V (s + 15) j
    rw [cpy_no (by omega), cpy_s hj, cpy_no (by omega), cpy_no (by omega), cpy_no (by omega), cpy_no (by omega), cpy_no (by omega), cpy_no (by omega), e _ (by omega)]
  · show cpy _ _ _ _ (d + 16) j = V (s + 16) j
    rw [cpy_s hj, cpy_no (by omega), cpy_no (by omega), cpy_no (by omega), cpy_no (by omega), cpy_no (by omega), cpy_no (by omega), cpy_no (by omega), e _ (by omega)]
/-- the plan at d is that at s of another memory -/
def PlEq (V : VV) (s : Nat) (V1 : VV) (d : Nat) : Prop := (∀ j, j < 8 → V1 (d + 1) j = V (s + 1) j) ∧ (∀ k, k < 5 → ∀ j, j < 6 → V1 (d + 2 + k) j = V (s + 2 + k) j) ∧ V1 d 6 = V s 6 ∧ V1 d 7 = V s 7 ∧ ∀ k, k < 8 → ∀ j, j < 24 → V1 (d + 9 + k) j = V (s + 9 + k) j
theorem plEq_cf {V : VV} {s d : Nat} (h : d + 16 < s ∨ s + 16 < d) : PlEq V s (cfV V s d) d := ⟨fun _ hj => cf_set h hj, fun _ hk _ hj => cf_grp h hk hj, cf_6 h, cf_7 h, fun _ hk _ hj => cf_sh h hk hj⟩
def svO (o m : Nat) : Nat := if m = 6 then (o + 1) % 6 else o
def svM (m : Nat) : Nat := if m = 6 then 5 else m
def svP (o m : Nat) : Nat := (svO o m + svM m) % 6
/-- behind a saving: nothing but a saved plan and the history's two numbers has changed; the saved plan is the plan now -/
def SavP (V : VV) (N : NN) (o m : Nat) (V1 : VV) (N1 : NN) : Prop :=
  (∀ i j, ¬ (40 + 20 * svP o m ≤ i ∧ i ≤ 40 + 20 * svP o m + 16) → ¬ (i = 1 ∧ (j = 1 ∨ j = 2)) → V1 i j = V i j) ∧ V1 1 1 = nI (svO o m) ∧ V1 1 2 = nI (svM m + 1) ∧ PlEq V 20 V1 (40 + 20 * svP o m) ∧ N1 = fun k => if k = svP o m then false else N k
def SvC (V : VV) (L : LL) (N : NN) (o m : Nat) : PP := fun r V1 L1 N1 I1 => r = .inl none ∧ SavP V N o m V1 N1 ∧ L1 = L ∧ IN N1 I1
theorem x_wid {E : EE} {pc a b a' b' : Nat} {ls : zLS} {st : List AV} {V : VV} {L : LL} {N : NN} {I : List Nat} (h1 : a ≤ a') (h2 : b ≤ b') (K : Wx E pc ls st V L N I a' b') : Wx E pc ls st V L N I a b := by
  intro ad H locs lsa hP hD hS hA hl
  exact W.widen h1 h2 (K ad H locs lsa hP hD hS hA hl)
set_option maxRecDepth 100000 in
set_option maxHeartbeats 4000000 in
theorem c_X2_save {l : Launch} {V : VV} {L : LL} {N : NN} {I : List Nat} (hIN : IN N I) {o m : Nat} (ho : V 1 1 = nI o) (ho6 : o < 6) (hm : V 1 2 = nI m) (hm6 : m ≤ 6) : Runs l 3 15 246 yX2_save (Cond.code yX2_save cX2_save 3 none) [aR 1, aR 20] V L N I (SvC V L N o m) := by
  refine run_of RX2 (by decide +kernel) rfl (Nat.le_of_ble_eq_true rfl) (fun E hE C hQ hNt => ?_)
  subst hE
  have hI : PI I := hIN.1
  have hsO : svO o m < 6 := by unfold svO; split <;> omega
  have hsM : svM m < 6 := by unfold svM; split <;> omega
  have hp6 : svP o m < 6 := by unfold svP; omega
  have J67 : ∀ (V2 : VV) (N2 : NN) (I2 : List Nat), N2 (svP o m) = false → IN N2 I2 → N2 = (fun k => if k = svP o m then false else N k) → V2 1 1 = nI (svO o m) → V2 1 2 = nI (svM m) → (∀ i j, ¬ (40 + 20 * svP o m ≤ i ∧ i ≤ 40 + 20 * svP o m + 16) → ¬ (i = 1 ∧ (j = 1 ∨ j = 2)) → V2 i j = V i j) → Wx E 67 [some (aR 1), some (aR 20), some (aI (nI (svP o m)))] [] V2 L N2 I2 15 246 := by
    intro V2 N2 I2 h1 h2 h3 h4 h5 h6
    have hI2 := h2.1
    have hPB := h2.2.1 _ hp6 h1
    refine x_aload_n (pc := 67) C dX2_save_67 rfl ?_
    refine x_getR (pc := 68) (o := 1) (j := 2) C f_X2_11 dX2_save_68 (hI2 1 rfl) ⟨rfl, rfl⟩ ?_
    refine x_iload_n (pc := 71) C dX2_save_71 rfl ?_
    refine x_aald (pc := 72) C dX2_save_72 (hI2 2 rfl) hp6 (fun h => by rw [h1] at h; cases h) (fun _ => ?_)
    refine x_aload_n (pc := 73) C dX2_save_73 rfl ?_
    refine x_cV1 (pc := 74) (o := 40 + 20 * svP o m) C v_X2_25 dX2_save_74 (s_copy hI2 hp6 hPB) (hPB 0 rfl) (ocl_p _ hp6) (by decide) rfl ⟨by decide, by decide⟩ ?_
    have hd : 40 + 20 * svP o m + 16 < 20 ∨ 20 + 16 < 40 + 20 * svP o m := by omega
    refine x_aload_n (pc := 77) C dX2_save_77 rfl ?_
    refine x_dup (pc := 78) C dX2_save_78 rfl ?_
    refine x_getI (pc := 79) (o := 1) C f_X2_17 dX2_save_79 (hI2 1 rfl) ⟨rfl, rfl, rfl⟩ ?_
    refine x_topi (nI (svM m)) (by rw [cf_no (by omega)]; exact h5) ?_
    refine x_iconst (pc := 82) C (1) dX2_save_82 (by decide) ?_
    refine x_iadd (pc := 83) C dX2_save_83 ?_
    refine x_topi (nI (svM m + 1)) (nI_1 _) ?_
    refine x_putI (pc := 84) (o := 1) C p_X2_17 dX2_save_84 (hI2 1 rfl) ⟨rfl, rfl, rfl⟩ ?_
    refine x_vret (pc := 87) C hQ dX2_save_87 ⟨rfl, ⟨fun i j hi hj => ?_, ?_, up_ss, ?_, h3⟩, rfl, h2⟩ (Nat.le_of_ble_eq_true rfl) (Nat.le_of_ble_eq_true rfl)
    · rw [← h6 i j hi hj]
      by_cases h1i : i = 1
      · subst h1i; rw [up_nk (by omega), cf_no (by omega)]
      · rw [up_no h1i, cf_no hi]
    · rw [up_nk (by decide), cf_no (by omega)]; exact h4
    · obtain ⟨e1, e2, e3, e4, e5⟩ := plEq_cf (V := V2) hd
      have hv : ∀ i, 20 ≤ i → i ≤ 36 → V2 i = V i := fun i hi1 hi2 => funext fun j => h6 i j (by omega) (by omega)
      have hw : ∀ i, i ≠ 1 → (up (cfV V2 20 (40 + 20 * svP o m)) 1 2 (nI (svM m + 1))) i = cfV V2 20 (40 + 20 * svP o m) i := fun i hi => up_nf hi
      refine ⟨fun j hj => ?_, fun k hk j hj => ?_, ?_, ?_, fun k hk j hj => ?_⟩
      · rw [hw _ (by omega), e1 j hj, hv _ (by omega) (by omega)]
      · rw [hw _ (by omega), e2 k hk j hj, hv _ (by omega) (by omega)]
      · rw [hw _ (by omega), e3, hv _ (by omega) (by omega)]
      · rw [hw _ (by omega), e4, hv _ (by omega) (by omega)]
      · rw [hw _ (by omega), e5 k hk j hj, hv _ (by omega) (by omega)]
  have J32 : ∀ (V1 : VV), V1 1 1 = nI (svO o m) → V1 1 2 = nI (svM m) → (∀ i j, ¬ (i = 1 ∧ (j = 1 ∨ j = 2)) → V1 i j = V i j) → Wx E 32 [some (aR 1), some (aR 20), none] [] V1 L N I 0 0 := by
    intro V1 h1 h2 h3
    refine x_aload_n (pc := 32) C dX2_save_32 rfl ?_
    refine x_getI (pc := 33) (o := 1) C f_X2_21 dX2_save_33 (hI 1 rfl) ⟨rfl, rfl, rfl⟩ ?_
    refine x_topi (nI (svO o m)) h1 ?_
    refine x_aload_n (pc := 36) C dX2_save_36 rfl ?_
    refine x_getI (pc := 37) (o := 1) C f_X2_17 dX2_save_37 (hI 1 rfl) ⟨rfl, rfl, rfl⟩ ?_
    refine x_topi (nI (svM m)) h2 ?_
    refine x_iadd (pc := 40) C dX2_save_40 ?_
    refine x_topi (nI (svO o m + svM m)) (nI_add _ _) ?_
    refine x_bipush (pc := 41) C (nI 6) dX2_save_41 (by decide) ?_
    refine x_irem (pc := 43) C dX2_save_43 (by decide) ?_
    refine x_topi (nI (svP o m)) (pk_rem (by omega) (by decide) (by decide)) ?_
    refine y_istore_n (pc := 44) C dX2_save_44 (by decide) rfl ?_
    refine x_aload_n (pc := 45) C dX2_save_45 rfl ?_
    refine x_getR (pc := 46) (o := 1) (j := 2) C f_X2_11 dX2_save_46 (hI 1 rfl) ⟨rfl, rfl⟩ ?_
    refine x_iload_n (pc := 49) C dX2_save_49 rfl ?_
    refine x_aald (pc := 50) C dX2_save_50 (hI 2 rfl) hp6 (fun hN => ?_) (fun hN => ?_)
    · refine x_ifnonnullN (pc := 51) C dX2_save_51 ?_
      refine x_aload_n (pc := 54) C dX2_save_54 rfl ?_
      refine x_getR (pc := 55) (o := 1) (j := 2) C f_X2_11 dX2_save_55 (hI 1 rfl) ⟨rfl, rfl⟩ ?_
      refine x_iload_n (pc := 58) C dX2_save_58 rfl ?_
      refine x_newP (pc := 59) (ik := 9) (ic := 24) C hp6 hN (hIN.2.2.1 _ hp6 hN) (u0_in 132 (by decide +kernel) rfl) ⟨⟨u0_in 677 (by decide +kernel) rfl, u0_in 46 (by decide +kernel) rfl, u0_in 22 (by decide +kernel) rfl, u0_in 47 (by decide +kernel) rfl⟩, rfl, by decide, by decide +kernel⟩ dX2_save_59 dX2_save_62 dX2_save_63 (by decide) rfl (Nat.le_of_ble_eq_true rfl) ⟨by decide, by decide⟩ ?_
      refine x_aast (pc := 66) C dX2_save_66 (List.mem_append_left _ (hI 2 rfl)) (List.mem_append_right _ List.mem_cons_self) hp6 ?_
      refine J67 _ _ _ (if_pos rfl) (hIN.new hp6) rfl ?_ ?_ (fun i j hi hj => ?_)
      · rw [bkV_no (by omega)]; exact h1
      · rw [bkV_no (by omega)]; exact h2
      · rw [bkV_no hi]; exact h3 i j hj
    · refine x_ifnonnull (pc := 51) (tgt := 67) C dX2_save_51 (by decide) ?_
      refine x_wid (a' := 15) (b' := 246) (by decide) (by decide) ?_
      exact J67 V1 N I hN hIN (N_same hN).symm h1 h2 (fun i j _ hj => h3 i j hj)
  refine x_aload_n (pc := 0) C dX2_save_0 rfl ?_
  refine x_getI (pc := 1) (o := 1) C f_X2_17 dX2_save_1 (hI 1 rfl) ⟨rfl, rfl, rfl⟩ ?_
  refine x_topi (nI m) hm ?_
  refine x_bipush (pc := 4) C (nI 6) dX2_save_4 (by decide) ?_
  refine x_icmp_ne (pc := 6) (tgt := 32) C dX2_save_6 (by decide) (fun h6 => ?_) (fun h6 => ?_)
  · have hne : ¬ m = 6 := fun q => h6 (by rw [q])
    refine J32 V ?_ ?_ (fun _ _ _ => rfl)
    · unfold svO; rw [if_neg hne]; exact ho
    · unfold svM; rw [if_neg hne]; exact hm
  · have he : m = 6 := (nI_eq (by omega) (by decide)).mp (by first | exact h6 | exact Decidable.not_not.mp h6)
    refine x_aload_n (pc := 9) C dX2_save_9 rfl ?_
    refine x_aload_n (pc := 10) C dX2_save_10 rfl ?_
    refine x_getI (pc := 11) (o := 1) C f_X2_21 dX2_save_11 (hI 1 rfl) ⟨rfl, rfl, rfl⟩ ?_
    refine x_topi (nI o) ho ?_
    refine x_iconst (pc := 14) C (1) dX2_save_14 (by decide) ?_
    refine x_iadd (pc := 15) C dX2_save_15 ?_
    refine x_topi (nI (o + 1)) (nI_1 _) ?_
    refine x_bipush (pc := 16) C (nI 6) dX2_save_16 (by decide) ?_
    refine x_irem (pc := 18) C dX2_save_18 (by decide) ?_
    refine x_topi (nI (svO o m)) (by unfold svO; rw [if_pos he]; exact pk_rem (by omega) (by decide) (by decide)) ?_
    refine x_putI (pc := 19) (o := 1) C p_X2_21 dX2_save_19 (hI 1 rfl) ⟨rfl, rfl, rfl⟩ ?_
    refine x_aload_n (pc := 22) C dX2_save_22 rfl ?_
    refine x_dup (pc := 23) C dX2_save_23 rfl ?_
    refine x_getI (pc := 24) (o := 1) C f_X2_17 dX2_save_24 (hI 1 rfl) ⟨rfl, rfl, rfl⟩ ?_
    refine x_topi (nI m) (by rw [up_nk (by decide)]; exact hm) ?_
    refine x_iconst (pc := 27) C (1) dX2_save_27 (by decide) ?_
    refine x_isub (pc := 28) C dX2_save_28 ?_
    refine x_topi (nI (svM m)) (by rw [nI_predn (by omega)]; unfold svM; rw [if_pos he, he]) ?_
    refine x_putI (pc := 29) (o := 1) C p_X2_17 dX2_save_29 (hI 1 rfl) ⟨rfl, rfl, rfl⟩ ?_
    refine J32 _ ?_ up_ss (fun i j hj => ?_)
    · rw [up_nk (by decide)]; exact up_ss
    · by_cases h1i : i = 1
      · subst h1i; rw [up_nk (by omega), up_nk (by omega)]
      · rw [up_no h1i, up_no h1i]
def rsP (o m : Nat) : Nat := (o + (m - 1)) % 6
set_option maxRecDepth 100000 in
set_option maxHeartbeats 4000000 in
theorem c_X2_restore {l : Launch} {V : VV} {L : LL} {N : NN} {I : List Nat} (hIN : IN N I) {o m : Nat} (ho : V 1 1 = nI o) (ho6 : o < 6) (hm : V 1 2 = nI m) (hm0 : 0 < m) (hm6 : m ≤ 6) (hN : N (rsP o m) = false) : Runs l 3 0 0 yX2_restore (Cond.code yX2_restore cX2_restore 3 none) [aR 1, aR 20] V L N I (Is none (cfV (up V 1 2 (nI (m - 1))) (40 + 20 * rsP o m) 20) L N I) := by
  refine run_of RX2 (by decide +kernel) rfl (Nat.le_of_ble_eq_true rfl) (fun E hE C hQ hNt => ?_)
  subst hE
  have hI : PI I := hIN.1
  have hp6 : rsP o m < 6 := by unfold rsP; omega
  have hPB := hIN.2.1 _ hp6 hN
  refine x_aload_n (pc := 0) C dX2_restore_0 rfl ?_
  refine x_getI (pc := 1) (o := 1) C f_X2_17 dX2_restore_1 (hI 1 rfl) ⟨rfl, rfl, rfl⟩ ?_
  refine x_topi (nI m) hm ?_
  refine x_if_ne (pc := 4) (tgt := 8) C dX2_restore_4 (by decide) (fun h4 => ?_) (fun h4 => ?_)
  · refine x_aload_n (pc := 8) C dX2_restore_8 rfl ?_
    refine x_dup (pc := 9) C dX2_restore_9 rfl ?_
    refine x_getI (pc := 10) (o := 1) C f_X2_17 dX2_restore_10 (hI 1 rfl) ⟨rfl, rfl, rfl⟩ ?_
    refine x_topi (nI m) hm ?_
    refine x_iconst (pc := 13) C (1) dX2_restore_13 (by decide) ?_
    refine x_isub (pc := 14) C dX2_restore_14 ?_
    refine x_topi (nI (m - 1)) (nI_predn (by omega)) ?_
    refine x_putI (pc := 15) (o := 1) C p_X2_17 dX2_restore_15 (hI 1 rfl) ⟨rfl, rfl, rfl⟩ ?_
    refine x_aload_n (pc := 18) C dX2_restore_18 rfl ?_
    refine x_getR (pc := 19) (o := 1) (j := 2) C f_X2_11 dX2_restore_19 (hI 1 rfl) ⟨rfl, rfl⟩ ?_
    refine x_aload_n (pc := 22) C dX2_restore_22 rfl ?_
    refine x_getI (pc := 23) (o := 1) C f_X2_21 dX2_restore_23 (hI 1 rfl) ⟨rfl, rfl, rfl⟩ ?_
    refine x_topi (nI o) (by rw [up_nk (by decide)]; exact ho) ?_
    refine x_aload_n (pc := 26) C dX2_restore_26 rfl ?_
    refine x_getI (pc := 27) (o := 1) C f_X2_17 dX2_restore_27 (hI 1 rfl) ⟨rfl, rfl, rfl⟩ ?_
    refine x_topi (nI (m - 1)) up_ss ?_
    refine x_iadd (pc := 30) C dX2_restore_30 ?_
    refine x_topi (nI (o + (m - 1))) (nI_add _ _) ?_
    refine x_bipush (pc := 31) C (nI 6) dX2_restore_31 (by decide) ?_
    refine x_irem (pc := 33) C dX2_restore_33 (by decide) ?_
    refine x_topi (nI (rsP o m)) (pk_rem (by omega) (by decide) (by decide)) ?_
    refine x_aald (pc := 34) C dX2_restore_34 (hI 2 rfl) hp6 (fun h => by rw [hN] at h; cases h) (fun _ => ?_)
    refine y_astore_n (pc := 35) C dX2_restore_35 (by decide) rfl ?_
    refine x_aload_n (pc := 36) C dX2_restore_36 rfl ?_
    refine x_ifnull (pc := 37) C dX2_restore_37 ?_
    refine x_aload_n (pc := 40) C dX2_restore_40 rfl ?_
    refine x_aload_n (pc := 41) C dX2_restore_41 rfl ?_
    refine x_callV1 (pc := 42) (o := 20) (As := [aR (40 + 20 * rsP o m)]) (st := []) C v_X2_25 dX2_restore_42 (r_copy hI hp6 hPB) (hI 20 rfl) rfl rfl (by decide) ⟨trivial, ?_⟩ (by decide) ⟨Nat.le_refl _, Nat.le_refl _⟩ ?_
    · exact ⟨Or.inl (by decide), Or.inl (by decide), Or.inr (hPB 0 rfl), trivial⟩
    exact x_vret (pc := 45) C hQ dX2_restore_45 (is_v rfl) (Nat.le_of_ble_eq_true rfl) (Nat.le_of_ble_eq_true rfl)
  · exact absurd (show nI m = nI 0 by first | exact h4 | exact Decidable.not_not.mp h4) (fun q => by have := (nI_eq (b := 0) (by omega) (by decide)).mp q; omega)
