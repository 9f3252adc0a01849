-- the law from its entry to its loops
def ad00 (h q20 q1 q3 q5 q6 q12 f1 f3 : Nat) (f20 f6 f12 : Nat → Nat) (q210 q211 q212 q213 q214 q215 q216 q217 : Nat) : Nat → Nat := fun i =>
  match i with
  | 0 => h | 1 => q1 | 2 => f1 | 3 => q3 | 4 => f3 | 5 => q5 | 6 => q6 | 7 => f6 0 | 8 => f6 1 | 9 => f6 2 | 10 => f6 3 | 11 => f6 4 | 12 => q12 | 13 => f12 0 | 14 => f12 1 | 15 => f12 2 | 16 => f12 3 | 17 => f12 4
  | 20 => q20 | 21 => f20 0 | 22 => f20 1 | 23 => f20 2 | 24 => f20 3 | 25 => f20 4 | 26 => f20 5 | 29 => f20 8 | 30 => f20 9 | 31 => f20 10 | 32 => f20 11 | 33 => f20 12 | 34 => f20 13 | 35 => f20 14 | 36 => f20 15
  | 210 => q210 | 211 => q211 | 212 => q212 | 213 => q213 | 214 => q214 | 215 => q215 | 216 => q216 | 217 => q217
  | _ => 0
theorem ws00 (ca : Nat → ClassId) (h q20 q1 q3 q5 q6 q12 f1 f3 : Nat) (f20 f6 f12 : Nat → Nat) (q210 q211 q212 q213 q214 q215 q216 q217 : Nat) : ((((((((([] ++ stuW (ca 0) (ca 1) (ca 2) h q20 q1 q3 q5 q6 q12 f1 f3 f20 f6 f12) ++ [(q210, .inl (ca 0, 8, .inl (fun _ => 0)))]) ++ [(q211, .inl (ca 0, 30, .inl (fun _ => 0)))]) ++ [(q212, .inl (ca 0, 3, .inl (fun _ => 0)))]) ++ [(q213, .inl (ca 0, 63, .inl (fun _ => 0)))]) ++ [(q214, .inl (ca 0, 8, .inl (fun _ => 0)))]) ++ [(q215, .inl (ca 0, 30, .inl (fun _ => 0)))]) ++ [(q216, .inl (ca 0, 3, .inl (fun _ => 0)))]) ++ [(q217, .inl (ca 0, 63, .inl (fun _ => 0)))]) = wsM ca (ad00 h q20 q1 q3 q5 q6 q12 f1 f3 f20 f6 f12 q210 q211 q212 q213 q214 q215 q216 q217) V00 L00 N00 I00 := by
  rfl
set_option maxRecDepth 100000 in
set_option maxHeartbeats 4000000 in
theorem law_go {E : EE} {bq len : Nat} {xs : Nat → Int32} (C : OK E RL cL_law 16 (some .boolean) 11 600074 7301550) (hsc : Sc E bq len xs) (hlen : len ≤ 3584) (hZ : zA (eS E)) (hfree : ∀ i, ¬ eI E i) (hEnd : ∀ ls V L N I a b, a ≤ 600074 → b ≤ 7301550 → Wx E 560 ls [aI 1] V L N I a b) {lsa : Array Slot} (hl : LH lsa (eN E) zk (entL [aQ bq] 16)) : WE E (eQ E) (eS E).heap [] 0 0 0 lsa [] := by
  have hP : va_P (eD E) vwCl ([] : va_W) (eS E).heap := fun k q h => by simp at h
  have hD : va_D (eF E) ([] : va_W) := ⟨fun i j p q h => by simp at h, fun k q h => by simp at h⟩
  have hS : va_S (eF E) (eS E).heap (eS E).heap [] := va_S.rf
  have hl : LH lsa (eN E) zk [some (aQ bq), none, none, none, none, none, none, none, none, none, none, none, none, none, none, none] := hl
  refine va_new (pc := 0) (ci := 6) (fs := [.null, .null, .null, .null, .null, .null, .int 0]) (C := RX6) (T := TX6) (N := 7) C.1 C.2.1 C.2.2.2.2.1 (cl_words _ (List.mem_of_getElem? (i := 6) rfl)) tyX6 tyX6_ok C.2.2.2.1 (C.2.2.2.2.1 _ (u0_in 35 (by decide +kernel) rfl)) (C.2.2.2.2.1 _ (u0_in 36 (by decide +kernel) rfl)) (C.2.2.2.2.1 _ (u0_in 21 (by decide +kernel) rfl)) C.2.2.2.2.2.1 hP hD hS C.2.2.2.2.2.2.1 rfl (fun j hj => by rcases (show j = 0 ∨ j = 1 ∨ j = 2 ∨ j = 3 ∨ j = 4 ∨ j = 5 ∨ j = 6 by omega) with rfl | rfl | rfl | rfl | rfl | rfl | rfl <;> rfl) (Nat.le_trans (by decide) C.2.2.2.2.2.2.2.2.2.2.2.2.2.1) (Nat.le_trans (by decide) C.2.2.2.2.2.2.2.2.2.2.2.2.2.2.1) dL_law_0 (fun h H hP hD hS => ?_)
  refine lv_dup (pc := 3) C.1 C.2.1 dL_law_3 rfl ?_
  refine k_init (pc := 4) (ws := ([] : va_W)) C (show CIk RL 125 yX6_init cX6_init 1 from ⟨⟨(u0_in 37 (by decide +kernel) rfl), (u0_in 38 (by decide +kernel) rfl), (u0_in 21 (by decide +kernel) rfl), (u0_in 39 (by decide +kernel) rfl)⟩, rfl, by decide, by decide +kernel⟩) dL_law_4 (k_X6_init h) zA_m hZ (by decide) (Nat.le_of_ble_eq_true rfl) ⟨by decide, by decide⟩ hl.1 hP hD hS (fun w1 H locs hw hP hD hS => ?_)
  obtain ⟨q20, q1, q3, q5, q6, q12, f1, f3, f20, f6, f12, rfl⟩ := hw
  refine lv_astore_n (pc := 7) C.1 C.2.1 dL_law_7 rfl hl.has (C.nl ▸ (by decide)) rfl (fun ls1 h1 => ?_)
  have hl : LH ls1 (eN E) zk [some (aQ bq), some (aQ h), none, none, none, none, none, none, none, none, none, none, none, none, none, none] := LH_st1 (v := aQ h) rfl h1
  refine lv_bipush (pc := 8) C.1 C.2.1 dL_law_8 (show (Int8.ofInt 8).toInt32 = nI 8 by decide) ?_
  refine k_newI (pc := 10) (n := 8) C (by decide) dL_law_10 ⟨by decide, by decide⟩ hP hD hS (fun q210 H hP hD hS => ?_)
  refine lv_astore_n (pc := 12) C.1 C.2.1 dL_law_12 rfl hl.has (C.nl ▸ (by decide)) rfl (fun ls1 h1 => ?_)
  have hl : LH ls1 (eN E) zk [some (aQ bq), some (aQ h), some (aQ q210), none, none, none, none, none, none, none, none, none, none, none, none, none] := LH_st1 (v := aQ q210) rfl h1
  refine lv_bipush (pc := 13) C.1 C.2.1 dL_law_13 (show (Int8.ofInt 30).toInt32 = nI 30 by decide) ?_
  refine k_newI (pc := 15) (n := 30) C (by decide) dL_law_15 ⟨by decide, by decide⟩ hP hD hS (fun q211 H hP hD hS => ?_)
  refine lv_astore_n (pc := 17) C.1 C.2.1 dL_law_17 rfl hl.has (C.nl ▸ (by decide)) rfl (fun ls1 h1 => ?_)
  have hl : LH ls1 (eN E) zk [some (aQ bq), some (aQ h), some (aQ q210), some (aQ q211), none, none, none, none, none, none, none, none, none, none, none, none] := LH_st1 (v := aQ q211) rfl h1
  refine lv_iconst (pc := 18) C.1 C.2.1 dL_law_18 (show Int32.ofInt 3 = nI 3 by decide) ?_
  refine k_newI (pc := 19) (n := 3) C (by decide) dL_law_19 ⟨by decide, by decide⟩ hP hD hS (fun q212 H hP hD hS => ?_)
  refine lv_astore (pc := 21) C.1 C.2.1 dL_law_21 hl.has (C.nl ▸ (by decide)) rfl (fun ls1 h1 => ?_)
  have hl : LH ls1 (eN E) zk [some (aQ bq), some (aQ h), some (aQ q210), some (aQ q211), some (aQ q212), none, none, none, none, none, none, none, none, none, none, none] := LH_st1 (v := aQ q212) rfl h1
  refine lv_bipush (pc := 23) C.1 C.2.1 dL_law_23 (show (Int8.ofInt 63).toInt32 = nI 63 by decide) ?_
  refine k_newI (pc := 25) (n := 63) C (by decide) dL_law_25 ⟨by decide, by decide⟩ hP hD hS (fun q213 H hP hD hS => ?_)
  refine lv_astore (pc := 27) C.1 C.2.1 dL_law_27 hl.has (C.nl ▸ (by decide)) rfl (fun ls1 h1 => ?_)
  have hl : LH ls1 (eN E) zk [some (aQ bq), some (aQ h), some (aQ q210), some (aQ q211), some (aQ q212), some (aQ q213), none, none, none, none, none, none, none, none, none, none] := LH_st1 (v := aQ q213) rfl h1
  refine lv_bipush (pc := 29) C.1 C.2.1 dL_law_29 (show (Int8.ofInt 8).toInt32 = nI 8 by decide) ?_
  refine k_newI (pc := 31) (n := 8) C (by decide) dL_law_31 ⟨by decide, by decide⟩ hP hD hS (fun q214 H hP hD hS => ?_)
  refine lv_astore (pc := 33) C.1 C.2.1 dL_law_33 hl.has (C.nl ▸ (by decide)) rfl (fun ls1 h1 => ?_)
  have hl : LH ls1 (eN E) zk [some (aQ bq), some (aQ h), some (aQ q210), some (aQ q211), some (aQ q212), some (aQ q213), some (aQ q214), none, none, none, none, none, none, none, none, none] := LH_st1 (v := aQ q214) rfl h1
  refine lv_bipush (pc := 35) C.1 C.2.1 dL_law_35 (show (Int8.ofInt 30).toInt32 = nI 30 by decide) ?_
  refine k_newI (pc := 37) (n := 30) C (by decide) dL_law_37 ⟨by decide, by decide⟩ hP hD hS (fun q215 H hP hD hS => ?_)
  refine lv_astore (pc := 39) C.1 C.2.1 dL_law_39 hl.has (C.nl ▸ (by decide)) rfl (fun ls1 h1 => ?_)
  have hl : LH ls1 (eN E) zk [some (aQ bq), some (aQ h), some (aQ q210), some (aQ q211), some (aQ q212), some (aQ q213), some (aQ q214), some (aQ q215), none, none, none, none, none, none, none, none] := LH_st1 (v := aQ q215) rfl h1
  refine lv_iconst (pc := 41) C.1 C.2.1 dL_law_41 (show Int32.ofInt 3 = nI 3 by decide) ?_
  refine k_newI (pc := 42) (n := 3) C (by decide) dL_law_42 ⟨by decide, by decide⟩ hP hD hS (fun q216 H hP hD hS => ?_)
  refine lv_astore (pc := 44) C.1 C.2.1 dL_law_44 hl.has (C.nl ▸ (by decide)) rfl (fun ls1 h1 => ?_)
  have hl : LH ls1 (eN E) zk [some (aQ bq), some (aQ h), some (aQ q210), some (aQ q211), some (aQ q212), some (aQ q213), some (aQ q214), some (aQ q215), some (aQ q216), none, none, none, none, none, none, none] := LH_st1 (v := aQ q216) rfl h1
  refine lv_bipush (pc := 46) C.1 C.2.1 dL_law_46 (show (Int8.ofInt 63).toInt32 = nI 63 by decide) ?_
  refine k_newI (pc := 48) (n := 63) C (by decide) dL_law_48 ⟨by decide, by decide⟩ hP hD hS (fun q217 H hP hD hS => ?_)
  refine lv_astore (pc := 50) C.1 C.2.1 dL_law_50 hl.has (C.nl ▸ (by decide)) rfl (fun ls1 h1 => ?_)
  have hl : LH ls1 (eN E) zk [some (aQ bq), some (aQ h), some (aQ q210), some (aQ q211), some (aQ q212), some (aQ q213), some (aQ q214), some (aQ q215), some (aQ q216), some (aQ q217), none, none, none, none, none, none] := LH_st1 (v := aQ q217) rfl h1
  rw [ws00 (eK E)] at hP hD
  have hl2 : LH ls1 (eN E) (ad00 h q20 q1 q3 q5 q6 q12 f1 f3 f20 f6 f12 q210 q211 q212 q213 q214 q215 q216 q217) [some (aQ bq), some (aR 0), some (aR 210), some (aR 211), some (aR 212), some (aR 213), some (aR 214), some (aR 215), some (aR 216), some (aR 217), none, none, none, none, none, none] := ⟨hl.1, hl.2.1, fun k v hk => by
    match k, hk with
    | 0, hk => cases hk; exact hl.2.2 0 (aQ bq) rfl
    | 1, hk => cases hk; exact hl.2.2 1 (aQ h) rfl
    | 2, hk => cases hk; exact hl.2.2 2 (aQ q210) rfl
    | 3, hk => cases hk; exact hl.2.2 3 (aQ q211) rfl
    | 4, hk => cases hk; exact hl.2.2 4 (aQ q212) rfl
    | 5, hk => cases hk; exact hl.2.2 5 (aQ q213) rfl
    | 6, hk => cases hk; exact hl.2.2 6 (aQ q214) rfl
    | 7, hk => cases hk; exact hl.2.2 7 (aQ q215) rfl
    | 8, hk => cases hk; exact hl.2.2 8 (aQ q216) rfl
    | 9, hk => cases hk; exact hl.2.2 9 (aQ q217) rfl
    | 10, hk => cases hk
    | 11, hk => cases hk
    | 12, hk => cases hk
    | 13, hk => cases hk
    | 14, hk => cases hk
    | 15, hk => cases hk
    | k + 16, hk => cases hk⟩
  refine W.widen (k := 100) (n := 5000) (by decide) (by decide) ?_
  exact w_begin C hsc hlen ⟨by decide, by decide⟩ hEnd _ H _ ls1 hP hD hS ⟨fun i hi => (hfree i hi).elim, fun i hi => (hfree i hi).elim⟩ hl2
