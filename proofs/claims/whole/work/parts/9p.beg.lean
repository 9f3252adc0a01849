-- the law from its entry to its loop
def V00 : VV := fun i => if i = 21 then cS 8 else if i = 22 then cQ 6 else if i = 201 then zQ 6 else z0
def L00 : LL := fun _ _ => 0
def N00 : NN := fun _ => true
def I00 : List Nat := [0, 20, 21, 22, 23, 24, 25, 26, 29, 30, 31, 32, 33, 34, 35, 36, 1, 2, 3, 4, 5, 6, 7, 8, 9, 10, 11, 12, 13, 14, 15, 16, 17, 200, 201, 202, 203, 204, 205, 206, 207, 208, 209, 210]
def ad00 (h q20 q1 q3 q5 q6 q12 f1 f3 : Nat) (f20 f6 f12 : Nat → Nat) (h7 : Nat) (q : Nat → Nat) (ho : Nat) : Nat → Nat := fun i =>
  match i with
  | 0 => h | 1 => q1 | 2 => f1 | 3 => q3 | 4 => f3 | 5 => q5 | 6 => q6 | 7 => f6 0 | 8 => f6 1 | 9 => f6 2 | 10 => f6 3 | 11 => f6 4 | 12 => q12 | 13 => f12 0 | 14 => f12 1 | 15 => f12 2 | 16 => f12 3 | 17 => f12 4
  | 20 => q20 | 21 => f20 0 | 22 => f20 1 | 23 => f20 2 | 24 => f20 3 | 25 => f20 4 | 26 => f20 5 | 29 => f20 8 | 30 => f20 9 | 31 => f20 10 | 32 => f20 11 | 33 => f20 12 | 34 => f20 13 | 35 => f20 14 | 36 => f20 15
  | 200 => h7 | 201 => q 1 | 202 => q 3 | 203 => q 6 | 204 => q 7 | 205 => q 8 | 206 => q 9 | 207 => q 10 | 208 => q 11 | 209 => q 16 | 210 => ho
  | _ => 0
theorem inv00 : Inv V00 N00 I00 := by
  have hpm : ∀ i, i < 211 → pm i = true → i ∈ I00 := by decide +kernel
  have hPI : PI I00 := fun i hi => hpm i (by unfold pm at hi; have := of_decide_eq_true hi; omega) hi
  have hno : ∀ i, i ∈ I00 → ¬ (i = 18 ∨ (40 ≤ i ∧ i < 160)) := by decide +kernel
  refine ⟨0, 0, 0, 0, ⟨?_, ?_, by decide +kernel, by decide +kernel, fun k hk s hs => absurd hs (Nat.not_lt_zero s)⟩, ⟨by decide, by decide +kernel, by decide +kernel, fun s hs => absurd hs (Nat.not_lt_zero s), fun s hs => absurd hs (Nat.not_lt_zero s), fun s t _ ht => absurd ht (Nat.not_lt_zero t)⟩, ⟨⟨hPI, fun k _ h => (by cases h), fun k hk _ i h1 h2 hi => hno i hi (Or.inr (by omega)), fun h => hno 18 h (Or.inl rfl)⟩, by decide +kernel, by decide, by decide +kernel, by decide⟩, fun j hj => absurd hj (Nat.not_lt_zero j), by decide +kernel, by decide +kernel, by decide +kernel, by decide +kernel, by decide, fun i hi => absurd hi (Nat.not_lt_zero i), 0, by decide +kernel⟩
  · show ∀ k, k < 8 → V00 21 k = V00 201 k
    decide +kernel
  · show ∀ g, g < 6 → ∀ k, k < 5 → V00 (22 + k) g = V00 201 (8 + 5 * g + k)
    decide +kernel
theorem ws00 (ca : Nat → ClassId) (h q20 q1 q3 q5 q6 q12 f1 f3 : Nat) (f20 f6 f12 : Nat → Nat) (h7 : Nat) (q : Nat → Nat) (ho : Nat) :
    (([] ++ stuW (ca 0) (ca 1) (ca 2) h q20 q1 q3 q5 q6 q12 f1 f3 f20 f6 f12) ++ mdlW (ca 0) h7 q 6) ++ [(ho, .inl (ca 3, 1, .inr (.inl (fun _ => 0))))] = wsM ca (ad00 h q20 q1 q3 q5 q6 q12 f1 f3 f20 f6 f12 h7 q ho) V00 L00 N00 I00 := by
  rfl

set_option maxRecDepth 100000 in
set_option maxHeartbeats 4000000 in
theorem law_go {E : EE} {bq len : Nat} {xs : Nat → Int32} (C : OK E RL cL_law 9 (some .boolean) 11 601024 7293034) (hsc : Sc E bq len xs) (hlen : len ≤ 3584) (hZ : zA (eS E)) (hfree : ∀ i, ¬ eI E i) (hEnd : ∀ ls V L N I a b, a ≤ 601024 → b ≤ 7293034 → Wx E 1699 ls [aI 1] V L N I a b) {lsa : Array Slot} (hl : LH lsa (eN E) zk (entL [aQ bq] 9)) : WE E (eQ E) (eS E).heap [] 0 0 0 lsa [] := by
  have hP : va_P (eD E) vwCl ([] : va_W) (eS E).heap := fun k q h => by simp at h
  have hD : va_D (eF E) ([] : va_W) := ⟨fun i j p q h => by simp at h, fun k q h => by simp at h⟩
  have hS : va_S (eF E) (eS E).heap (eS E).heap [] := va_S.rf
  have hl : LH lsa (eN E) zk [some (aQ bq), none, none, none, none, none, none, none, none] := hl
  refine va_new (pc := 0) (ci := 6) (fs := [.null, .null, .null, .null, .null, .null, .int 0]) (C := RX6) (T := TX6) (N := 7) C.1 C.2.1 C.2.2.2.2.1 (cl_words _ (List.mem_of_getElem? (i := 6) rfl)) tyX6 tyX6_ok C.2.2.2.1 (C.2.2.2.2.1 _ (u0_in 98 (by decide +kernel) rfl)) (C.2.2.2.2.1 _ (u0_in 99 (by decide +kernel) rfl)) (C.2.2.2.2.1 _ (u0_in 81 (by decide +kernel) rfl)) C.2.2.2.2.2.1 hP hD hS C.2.2.2.2.2.2.1 rfl (fun j hj => by rcases (show j = 0 ∨ j = 1 ∨ j = 2 ∨ j = 3 ∨ j = 4 ∨ j = 5 ∨ j = 6 by omega) with rfl | rfl | rfl | rfl | rfl | rfl | rfl <;> rfl) (Nat.le_trans (by decide) C.2.2.2.2.2.2.2.2.2.2.2.2.2.1) (Nat.le_trans (by decide) C.2.2.2.2.2.2.2.2.2.2.2.2.2.2.1) dL_law_0 (fun h H hP hD hS => ?_)
  refine lv_dup (pc := 3) C.1 C.2.1 dL_law_3 rfl ?_
  refine k_init (pc := 4) (ws := ([] : va_W)) C (show CIk RL 85 yX6_init cX6_init 1 from ⟨⟨(u0_in 100 (by decide +kernel) rfl), (u0_in 101 (by decide +kernel) rfl), (u0_in 81 (by decide +kernel) rfl), (u0_in 102 (by decide +kernel) rfl)⟩, rfl, by decide, by decide +kernel⟩) dL_law_4 (k_X6_init h) zA_m hZ (by decide) (Nat.le_of_ble_eq_true rfl) ⟨by decide, by decide⟩ hl.1 hP hD hS (fun w1 H locs hw hP hD hS => ?_)
  obtain ⟨q20, q1, q3, q5, q6, q12, f1, f3, f20, f6, f12, rfl⟩ := hw
  refine lv_astore_n (pc := 7) C.1 C.2.1 dL_law_7 rfl hl.has (C.nl ▸ (by decide)) rfl (fun ls1 h1 => ?_)
  have hl : LH ls1 (eN E) zk [some (aQ bq), some (aQ h), none, none, none, none, none, none, none] := LH_st1 (v := aQ h) rfl h1
  refine va_new (pc := 8) (ci := 7) (fs := [.int 0, .null, .int 0, .null, .int 0, .int 0, .null, .null, .null, .null, .null, .null, .int 0, .int 0, .int 0, .int 0, .null, .long 0]) (C := RX7) (T := TX7) (N := 18) C.1 C.2.1 C.2.2.2.2.1 (cl_words _ (List.mem_of_getElem? (i := 7) rfl)) tyX7 tyX7_ok C.2.2.2.1 (C.2.2.2.2.1 _ (u0_in 917 (by decide +kernel) rfl)) (C.2.2.2.2.1 _ (u0_in 918 (by decide +kernel) rfl)) (C.2.2.2.2.1 _ (u0_in 87 (by decide +kernel) rfl)) C.2.2.2.2.2.1 hP hD hS C.2.2.2.2.2.2.1 rfl (fun j hj => by rcases (show j = 0 ∨ j = 1 ∨ j = 2 ∨ j = 3 ∨ j = 4 ∨ j = 5 ∨ j = 6 ∨ j = 7 ∨ j = 8 ∨ j = 9 ∨ j = 10 ∨ j = 11 ∨ j = 12 ∨ j = 13 ∨ j = 14 ∨ j = 15 ∨ j = 16 ∨ j = 17 by omega) with rfl | rfl | rfl | rfl | rfl | rfl | rfl | rfl | rfl | rfl | rfl | rfl | rfl | rfl | rfl | rfl | rfl | rfl <;> rfl) (Nat.le_trans (by decide) C.2.2.2.2.2.2.2.2.2.2.2.2.2.1) (Nat.le_trans (by decide) C.2.2.2.2.2.2.2.2.2.2.2.2.2.2.1) dL_law_8 (fun h7 H hP hD hS => ?_)
  refine lv_dup (pc := 11) C.1 C.2.1 dL_law_11 rfl ?_
  refine k_init (pc := 12) (ws := ([] : va_W) ++ stuW (eK E 0) (eK E 1) (eK E 2) h q20 q1 q3 q5 q6 q12 f1 f3 f20 f6 f12) C (show CIk RL 88 yX7_init cX7_init 2 from ⟨⟨(u0_in 919 (by decide +kernel) rfl), (u0_in 920 (by decide +kernel) rfl), (u0_in 87 (by decide +kernel) rfl), (u0_in 921 (by decide +kernel) rfl)⟩, rfl, by decide, by decide +kernel⟩) dL_law_12 (k_X7_init h7) zT_m trivial (by decide) (Nat.le_of_ble_eq_true rfl) ⟨by decide, by decide⟩ hl.1 hP hD hS (fun w1 H locs hw hP hD hS => ?_)
  obtain ⟨q, rfl⟩ := hw
  refine lv_astore_n (pc := 15) C.1 C.2.1 dL_law_15 rfl hl.has (C.nl ▸ (by decide)) rfl (fun ls1 h1 => ?_)
  have hl : LH ls1 (eN E) zk [some (aQ bq), some (aQ h), some (aQ h7), none, none, none, none, none, none] := LH_st1 (v := aQ h7) rfl h1
  refine lv_iconst (pc := 16) C.1 C.2.1 dL_law_16 (show Int32.ofInt 1 = nI 1 by decide) ?_
  refine k_newL (pc := 17) (n := 1) C (by decide) dL_law_17 ⟨by decide, by decide⟩ hP hD hS (fun ho H hP hD hS => ?_)
  refine lv_astore_n (pc := 19) C.1 C.2.1 dL_law_19 rfl hl.has (C.nl ▸ (by decide)) rfl (fun ls1 h1 => ?_)
  have hl : LH ls1 (eN E) zk [some (aQ bq), some (aQ h), some (aQ h7), some (aQ ho), none, none, none, none, none] := LH_st1 (v := aQ ho) rfl h1
  refine lv_iconst (pc := 20) C.1 C.2.1 dL_law_20 (show Int32.ofInt 0 = nI 0 by decide) ?_
  refine lv_istore (pc := 21) (x := nI 0) C.1 C.2.1 dL_law_21 hl.has (C.nl ▸ (by decide)) rfl (fun ls1 h1 => ?_)
  have hl : LH ls1 (eN E) zk [some (aQ bq), some (aQ h), some (aQ h7), some (aQ ho), some (aI (nI 0)), none, none, none, none] := LH_st1 (v := aI (nI 0)) rfl h1
  rw [ws00 (eK E)] at hP hD
  have hl2 : LH ls1 (eN E) (ad00 h q20 q1 q3 q5 q6 q12 f1 f3 f20 f6 f12 h7 q ho) (LLs bq (7 * 0)) := ⟨hl.1, hl.2.1, fun k v hk => by
    match k, hk with
    | 0, hk => cases hk; exact hl.2.2 0 (aQ bq) rfl
    | 1, hk => cases hk; exact hl.2.2 1 (aQ h) rfl
    | 2, hk => cases hk; exact hl.2.2 2 (aQ h7) rfl
    | 3, hk => cases hk; exact hl.2.2 3 (aQ ho) rfl
    | 4, hk => cases hk; exact hl.2.2 4 (aI (nI 0)) rfl
    | 5, hk => cases hk
    | 6, hk => cases hk
    | 7, hk => cases hk
    | 8, hk => cases hk
    | k + 9, hk => cases hk⟩
  refine W.widen (k := 100 + 16 * 0) (n := 5000 + 300 * 0) (by decide) (by decide) ?_
  exact w_loop C hsc hlen (a0 := 100) (b0 := 5000) ⟨by decide, by decide⟩ hEnd 512 0 V00 L00 N00 I00 rfl (Nat.zero_le _) inv00 _ H _ ls1 hP hD hS ⟨fun i hi => (hfree i hi).elim, fun i hi => (hfree i hi).elim⟩ hl2
