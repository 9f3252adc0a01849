set_option maxRecDepth 100000 in
set_option maxHeartbeats 4000000 in
theorem c_L_at {l : Launch} {V : VV} {L : LL} {N : NN} {I : List Nat} (x n : Int32) (h : ¬ n = 0) : Runs l 1 0 0 yL_at (Cond.code yL_at cL_at 2 (some .int)) [aI x, aI n] V L N I (Is (some (aI (atF x n))) (V) (L) N I) := by
  refine run_of RL (by decide +kernel) rfl (Nat.le_of_ble_eq_true rfl) (fun E hE C hQ hN => ?_)
  subst hE
  refine x_iload_n (pc := 0) C dL_at_0 rfl ?_
  refine x_iconst (pc := 1) C (1) dL_at_1 (by decide) ?_
  refine x_iushr (pc := 2) C dL_at_2 ?_
  refine x_iload_n (pc := 3) C dL_at_3 rfl ?_
  refine x_irem (pc := 4) C dL_at_4 (h) ?_
  exact x_iret (pc := 5) C hQ dL_at_5 (is_i rfl) (Nat.le_of_ble_eq_true rfl) (Nat.le_of_ble_eq_true rfl)
set_option maxRecDepth 100000 in
set_option maxHeartbeats 4000000 in
theorem c_L_worth {l : Launch} {V : VV} {L : LL} {N : NN} {I : List Nat} (hI : PI I) (k m : Int32) (hk : k = 0 ∨ k = 1 ∨ k = 2) : Runs l 1 0 0 yL_worth (Cond.code yL_worth cL_worth 3 (some .int)) [aI k, aI m, aR 210] V L N I (Is (some (aI (worthF (V 210 5) k m))) (V) (L) N I) := by
  refine run_of RL (by decide +kernel) rfl (Nat.le_of_ble_eq_true rfl) (fun E hE C hQ hN => ?_)
  subst hE
  refine x_iload_n (pc := 0) C dL_worth_0 rfl ?_
  refine x_iconst (pc := 1) C (2) dL_worth_1 (by decide) ?_
  refine x_icmp_ge (pc := 2) (tgt := 9) C dL_worth_2 (by decide) (fun h2 => ?_) (fun h2 => ?_)
  · refine x_iload_n (pc := 9) C dL_worth_9 rfl ?_
    refine x_aload_n (pc := 10) C dL_worth_10 rfl ?_
    refine x_iconst (pc := 11) C (5) dL_worth_11 (by decide) ?_
    refine x_topi (nI 5) (by decide) ?_
    refine x_iald (pc := 12) (o := 210) C dL_worth_12 (hI 210 rfl) ⟨rfl, rfl⟩ (show _ < 8 by decide) (by decide) ?_
    refine x_imul (pc := 13) C dL_worth_13 ?_
    refine x_bipush (pc := 14) C (100) dL_worth_14 (by decide) ?_
    refine x_idiv (pc := 16) C dL_worth_16 (by decide) ?_
    exact x_iret (pc := 17) C hQ dL_worth_17 (is_i (by rcases hk with rfl | rfl | rfl <;> first | exact absurd h2 (by decide) | exact absurd (by decide) h2 | simp [worthF])) (Nat.le_of_ble_eq_true rfl) (Nat.le_of_ble_eq_true rfl)
  · refine x_iload_n (pc := 5) C dL_worth_5 rfl ?_
    refine x_goto (pc := 6) (tgt := 17) C dL_worth_6 (by decide) ?_
    exact x_iret (pc := 17) C hQ dL_worth_17 (is_i (by rcases hk with rfl | rfl | rfl <;> first | exact absurd h2 (by decide) | exact absurd (by decide) h2 | simp [worthF])) (Nat.le_of_ble_eq_true rfl) (Nat.le_of_ble_eq_true rfl)
set_option maxRecDepth 100000 in
set_option maxHeartbeats 4000000 in
theorem c_L_allowance {l : Launch} {V : VV} {L : LL} {N : NN} {I : List Nat} (hI : PI I) (g : Nat) (hg : g < 6) : Runs l 1 0 0 yL_allowance (Cond.code yL_allowance cL_allowance 2 (some .int)) [aI (nI g), aR 211] V L N I (Is (some (aI (V 211 (5 * g) + V 211 (5 * g + 1)))) (V) (L) N I) := by
  refine run_of RL (by decide +kernel) rfl (Nat.le_of_ble_eq_true rfl) (fun E hE C hQ hN => ?_)
  subst hE
  refine x_aload_n (pc := 0) C dL_allowance_0 rfl ?_
  refine x_iconst (pc := 1) C (5) dL_allowance_1 (by decide) ?_
  refine x_iload_n (pc := 2) C dL_allowance_2 rfl ?_
  refine x_imul (pc := 3) C dL_allowance_3 ?_
  refine x_topi (nI (5 * g)) (pk_mul (5) (g)) ?_
  refine x_iald (pc := 4) (o := 211) C dL_allowance_4 (hI 211 rfl) ⟨rfl, rfl⟩ (show _ < 30 by omega) (by decide) ?_
  refine x_aload_n (pc := 5) C dL_allowance_5 rfl ?_
  refine x_iconst (pc := 6) C (5) dL_allowance_6 (by decide) ?_
  refine x_iload_n (pc := 7) C dL_allowance_7 rfl ?_
  refine x_imul (pc := 8) C dL_allowance_8 ?_
  refine x_topi (nI (5 * g)) (pk_mul (5) (g)) ?_
  refine x_iconst (pc := 9) C (1) dL_allowance_9 (by decide) ?_
  refine x_iadd (pc := 10) C dL_allowance_10 ?_
  refine x_topi (nI (5 * g + 1)) (nI_add (5 * g) (1)) ?_
  refine x_iald (pc := 11) (o := 211) C dL_allowance_11 (hI 211 rfl) ⟨rfl, rfl⟩ (show _ < 30 by omega) (by decide) ?_
  refine x_iadd (pc := 12) C dL_allowance_12 ?_
  exact x_iret (pc := 13) C hQ dL_allowance_13 (is_i rfl) (Nat.le_of_ble_eq_true rfl) (Nat.le_of_ble_eq_true rfl)
set_option maxRecDepth 100000 in
set_option maxHeartbeats 4000000 in
theorem c_L_byId {l : Launch} {V : VV} {L : LL} {N : NN} {I : List Nat} (hI : PI I) {n : Nat} (hn : V 212 1 = nI n) (hn6 : n ≤ 6) (id : Int32) : Runs l 1 0 0 yL_byId (Cond.code yL_byId cL_byId 4 (some .int)) [aI id, aR 212, aR 213] V L N I (Is (some (aI (o2i (fstF (fun s => decide (GF V 8 s = id)) n 0)))) (V) (L) N I) := by
  refine run_of RL (by decide +kernel) rfl (Nat.le_of_ble_eq_true rfl) (fun E hE C hQ hN => ?_)
  subst hE
  refine x_iconst (pc := 0) C (0) dL_byId_0 (by decide) ?_
  refine y_istore_n (pc := 1) C dL_byId_1 (by decide) rfl ?_
  suffices keyk : ∀ (k i : Nat) , k + i = n → (fstF (fun s => decide (GF V 8 s = id)) n 0 = fstF (fun s => decide (GF V 8 s = id)) k i) → Wx E 2 [some (aI id), some (aR 212), some (aR 213), some (aI (nI i))] [] V L N I 0 0 by
    exact keyk (n) (0)  (by omega) (rfl)
  intro k
  induction k with
  | zero =>
    intro i  hk hinv
    refine x_iload_n (pc := 2) C dL_byId_2 rfl ?_
    refine x_aload_n (pc := 3) C dL_byId_3 rfl ?_
    refine x_iconst (pc := 4) C (1) dL_byId_4 (by decide) ?_
    refine x_topi (nI 1) (by decide) ?_
    refine x_iald (pc := 5) (o := 212) C dL_byId_5 (hI 212 rfl) ⟨rfl, rfl⟩ (show _ < 3 by decide) (by decide) ?_
    refine x_topi (nI n) hn ?_
    refine x_icmp_ge (pc := 6) (tgt := 30) C dL_byId_6 (by decide) (fun h6 => ?_) (fun h6 => absurd (by exact nI_le (by omega) (by omega)) h6)
    refine x_iconst (pc := 30) C (-1) dL_byId_30 (by decide) ?_
    exact x_iret (pc := 31) C hQ dL_byId_31 (is_i (by rw [hinv]; rfl)) (Nat.le_of_ble_eq_true rfl) (Nat.le_of_ble_eq_true rfl)
  | succ k ih =>
    intro i  hk hinv
    refine x_iload_n (pc := 2) C dL_byId_2 rfl ?_
    refine x_aload_n (pc := 3) C dL_byId_3 rfl ?_
    refine x_iconst (pc := 4) C (1) dL_byId_4 (by decide) ?_
    refine x_topi (nI 1) (by decide) ?_
    refine x_iald (pc := 5) (o := 212) C dL_byId_5 (hI 212 rfl) ⟨rfl, rfl⟩ (show _ < 3 by decide) (by decide) ?_
    refine x_topi (nI n) hn ?_
    refine x_icmp_ge (pc := 6) (tgt := 30) C dL_byId_6 (by decide) (fun h6 => absurd h6 (by exact nI_ge (by omega) (by omega))) (fun h6 => ?_)
    refine x_aload_n (pc := 9) C dL_byId_9 rfl ?_
    refine x_bipush (pc := 10) C (9) dL_byId_10 (by decide) ?_
    refine x_iload_n (pc := 12) C dL_byId_12 rfl ?_
    refine x_imul (pc := 13) C dL_byId_13 ?_
    refine x_topi (nI (9 * i)) (pk_mul (9) (i)) ?_
    refine x_bipush (pc := 14) C (8) dL_byId_14 (by decide) ?_
    refine x_iadd (pc := 16) C dL_byId_16 ?_
    refine x_topi (nI (9 * i + 8)) (nI_add (9 * i) (8)) ?_
    refine x_iald (pc := 17) (o := 213) C dL_byId_17 (hI 213 rfl) ⟨rfl, rfl⟩ (show _ < 63 by omega) (by decide) ?_
    refine x_topi (GF V 8 i) (rfl) ?_
    refine x_iload_n (pc := 18) C dL_byId_18 rfl ?_
    refine x_icmp_ne (pc := 19) (tgt := 24) C dL_byId_19 (by decide) (fun h19 => ?_) (fun h19 => ?_)
    · refine y_iinc (pc := 24) C (nI (i + 1)) dL_byId_24 rfl (by exact nI_1 i) (by decide) rfl ?_
      refine x_goto (pc := 27) (tgt := 2) C dL_byId_27 (by decide) ?_
      exact ih (i + 1)  (by omega) (by rw [hinv, fstF, if_neg (fun z => h19 (of_decide_eq_true z))])
    · refine x_iload_n (pc := 22) C dL_byId_22 rfl ?_
      exact x_iret (pc := 23) C hQ dL_byId_23 (is_i (by rw [hinv, fstF, if_pos (decide_eq_true (show GF V 8 i = id from h19))]; rfl)) (Nat.le_of_ble_eq_true rfl) (Nat.le_of_ble_eq_true rfl)
set_option maxRecDepth 100000 in
set_option maxHeartbeats 4000000 in
theorem c_L_taken {l : Launch} {V : VV} {L : LL} {N : NN} {I : List Nat} (hI : PI I) {n : Nat} (hn : V 212 1 = nI n) (hn6 : n ≤ 6) (d m : Int32) : Runs l 1 0 0 yL_taken (Cond.code yL_taken cL_taken 5 (some .boolean)) [aI d, aI m, aR 212, aR 213] V L N I (Is (some (aI (b2i (fstF (takB (GF V) d m) n 0).isSome))) (V) (L) N I) := by
  refine run_of RL (by decide +kernel) rfl (Nat.le_of_ble_eq_true rfl) (fun E hE C hQ hN => ?_)
  subst hE
  refine x_iconst (pc := 0) C (0) dL_taken_0 (by decide) ?_
  refine y_istore (pc := 1) C dL_taken_1 (by decide) rfl ?_
  suffices keyk : ∀ (k i : Nat) , k + i = n → (fstF (takB (GF V) d m) n 0 = fstF (takB (GF V) d m) k i) → Wx E 3 [some (aI d), some (aI m), some (aR 212), some (aR 213), some (aI (nI i))] [] V L N I 0 0 by
    exact keyk (n) (0)  (by omega) (rfl)
  intro k
  induction k with
  | zero =>
    intro i  hk hinv
    refine x_iload (pc := 3) C dL_taken_3 rfl ?_
    refine x_aload_n (pc := 5) C dL_taken_5 rfl ?_
    refine x_iconst (pc := 6) C (1) dL_taken_6 (by decide) ?_
    refine x_topi (nI 1) (by decide) ?_
    refine x_iald (pc := 7) (o := 212) C dL_taken_7 (hI 212 rfl) ⟨rfl, rfl⟩ (show _ < 3 by decide) (by decide) ?_
    refine x_topi (nI n) hn ?_
    refine x_icmp_ge (pc := 8) (tgt := 68) C dL_taken_8 (by decide) (fun h8 => ?_) (fun h8 => absurd (by exact nI_le (by omega) (by omega)) h8)
    refine x_iconst (pc := 68) C (0) dL_taken_68 (by decide) ?_
    exact x_zret (pc := 69) C hQ dL_taken_69 (by decide) (is_i (by rw [hinv]; rfl)) (Nat.le_of_ble_eq_true rfl) (Nat.le_of_ble_eq_true rfl)
  | succ k ih =>
    intro i  hk hinv
    refine x_iload (pc := 3) C dL_taken_3 rfl ?_
    refine x_aload_n (pc := 5) C dL_taken_5 rfl ?_
    refine x_iconst (pc := 6) C (1) dL_taken_6 (by decide) ?_
    refine x_topi (nI 1) (by decide) ?_
    refine x_iald (pc := 7) (o := 212) C dL_taken_7 (hI 212 rfl) ⟨rfl, rfl⟩ (show _ < 3 by decide) (by decide) ?_
    refine x_topi (nI n) hn ?_
    refine x_icmp_ge (pc := 8) (tgt := 68) C dL_taken_8 (by decide) (fun h8 => absurd h8 (by exact nI_ge (by omega) (by omega))) (fun h8 => ?_)
    refine x_aload_n (pc := 11) C dL_taken_11 rfl ?_
    refine x_bipush (pc := 12) C (9) dL_taken_12 (by decide) ?_
    refine x_iload (pc := 14) C dL_taken_14 rfl ?_
    refine x_imul (pc := 16) C dL_taken_16 ?_
    refine x_topi (nI (9 * i)) (pk_mul (9) (i)) ?_
    refine x_iconst (pc := 17) C (2) dL_taken_17 (by decide) ?_
    refine x_iadd (pc := 18) C dL_taken_18 ?_
    refine x_topi (nI (9 * i + 2)) (nI_add (9 * i) (2)) ?_
    refine x_iald (pc := 19) (o := 213) C dL_taken_19 (hI 213 rfl) ⟨rfl, rfl⟩ (show _ < 63 by omega) (by decide) ?_
    refine x_topi (GF V 2 i) (rfl) ?_
    refine x_iload_n (pc := 20) C dL_taken_20 rfl ?_
    refine x_icmp_ne (pc := 21) (tgt := 62) C dL_taken_21 (by decide) (fun h21 => ?_) (fun h21 => ?_)
    · refine y_iinc (pc := 62) C (nI (i + 1)) dL_taken_62 rfl (by exact nI_1 i) (by decide) rfl ?_
      refine x_goto (pc := 65) (tgt := 3) C dL_taken_65 (by decide) ?_
      exact ih (i + 1)  (by omega) (by rw [hinv, fstF, if_neg (tak_1 (F := GF V) h21)])
    · refine x_aload_n (pc := 24) C dL_taken_24 rfl ?_
      refine x_bipush (pc := 25) C (9) dL_taken_25 (by decide) ?_
      refine x_iload (pc := 27) C dL_taken_27 rfl ?_
      refine x_imul (pc := 29) C dL_taken_29 ?_
      refine x_topi (nI (9 * i)) (pk_mul (9) (i)) ?_
      refine x_iconst (pc := 30) C (3) dL_taken_30 (by decide) ?_
      refine x_iadd (pc := 31) C dL_taken_31 ?_
      refine x_topi (nI (9 * i + 3)) (nI_add (9 * i) (3)) ?_
      refine x_iald (pc := 32) (o := 213) C dL_taken_32 (hI 213 rfl) ⟨rfl, rfl⟩ (show _ < 63 by omega) (by decide) ?_
      refine x_topi (GF V 3 i) (rfl) ?_
      refine x_iload_n (pc := 33) C dL_taken_33 rfl ?_
      refine x_icmp_gt (pc := 34) (tgt := 62) C dL_taken_34 (by decide) (fun h34 => ?_) (fun h34 => ?_)
      · refine y_iinc (pc := 62) C (nI (i + 1)) dL_taken_62 rfl (by exact nI_1 i) (by decide) rfl ?_
        refine x_goto (pc := 65) (tgt := 3) C dL_taken_65 (by decide) ?_
        exact ih (i + 1)  (by omega) (by rw [hinv, fstF, if_neg (tak_2 (F := GF V) h34)])
      · refine x_iload_n (pc := 37) C dL_taken_37 rfl ?_
        refine x_aload_n (pc := 38) C dL_taken_38 rfl ?_
        refine x_bipush (pc := 39) C (9) dL_taken_39 (by decide) ?_
        refine x_iload (pc := 41) C dL_taken_41 rfl ?_
        refine x_imul (pc := 43) C dL_taken_43 ?_
        refine x_topi (nI (9 * i)) (pk_mul (9) (i)) ?_
        refine x_iconst (pc := 44) C (3) dL_taken_44 (by decide) ?_
        refine x_iadd (pc := 45) C dL_taken_45 ?_
        refine x_topi (nI (9 * i + 3)) (nI_add (9 * i) (3)) ?_
        refine x_iald (pc := 46) (o := 213) C dL_taken_46 (hI 213 rfl) ⟨rfl, rfl⟩ (show _ < 63 by omega) (by decide) ?_
        refine x_topi (GF V 3 i) (rfl) ?_
        refine x_aload_n (pc := 47) C dL_taken_47 rfl ?_
        refine x_bipush (pc := 48) C (9) dL_taken_48 (by decide) ?_
        refine x_iload (pc := 50) C dL_taken_50 rfl ?_
        refine x_imul (pc := 52) C dL_taken_52 ?_
        refine x_topi (nI (9 * i)) (pk_mul (9) (i)) ?_
        refine x_iconst (pc := 53) C (4) dL_taken_53 (by decide) ?_
        refine x_iadd (pc := 54) C dL_taken_54 ?_
        refine x_topi (nI (9 * i + 4)) (nI_add (9 * i) (4)) ?_
        refine x_iald (pc := 55) (o := 213) C dL_taken_55 (hI 213 rfl) ⟨rfl, rfl⟩ (show _ < 63 by omega) (by decide) ?_
        refine x_topi (GF V 4 i) (rfl) ?_
        refine x_iadd (pc := 56) C dL_taken_56 ?_
        refine x_icmp_ge (pc := 57) (tgt := 62) C dL_taken_57 (by decide) (fun h57 => ?_) (fun h57 => ?_)
        · refine y_iinc (pc := 62) C (nI (i + 1)) dL_taken_62 rfl (by exact nI_1 i) (by decide) rfl ?_
          refine x_goto (pc := 65) (tgt := 3) C dL_taken_65 (by decide) ?_
          exact ih (i + 1)  (by omega) (by rw [hinv, fstF, if_neg (tak_3 (F := GF V) h57)])
        · refine x_iconst (pc := 60) C (1) dL_taken_60 (by decide) ?_
          exact x_zret (pc := 61) C hQ dL_taken_61 (by decide) (is_i (by rw [hinv, fstF, if_pos (tak_0 (F := GF V) (s := i) h21 h34 h57)]; rfl)) (Nat.le_of_ble_eq_true rfl) (Nat.le_of_ble_eq_true rfl)
set_option maxRecDepth 100000 in
set_option maxHeartbeats 4000000 in
theorem c_L_planned {l : Launch} {V : VV} {L : LL} {N : NN} {I : List Nat} (hI : PI I) {n : Nat} (hn : V 212 1 = nI n) (hn6 : n ≤ 6) (hB : ∀ s, s < n → ShB (GF V) s) (d : Int32) (hh : Nat) (hh24 : hh < 24) : Runs l 1 0 0 yL_planned (Cond.code yL_planned cL_planned 7 (some .int)) [aI d, aI (nI hh), aR 212, aR 213] V L N I (Is (some (aI (planR (GF V) n d (nI hh)))) (V) (L) N I) := by
  refine run_of RL (by decide +kernel) rfl (Nat.le_of_ble_eq_true rfl) (fun E hE C hQ hN => ?_)
  subst hE
  refine x_iconst (pc := 0) C (0) dL_planned_0 (by decide) ?_
  refine y_istore (pc := 1) C dL_planned_1 (by decide) rfl ?_
  refine x_iconst (pc := 3) C (0) dL_planned_3 (by decide) ?_
  refine y_istore (pc := 4) C dL_planned_4 (by decide) rfl ?_
  suffices keyk : ∀ (k i : Nat) (s : Int32), k + i = n → (s = sumTo (fun s => cntM (GF V) d (nI hh) s (GF V 5 s).toNatClampNeg) i) → Wx E 6 [some (aI d), some (aI (nI hh)), some (aR 212), some (aR 213), some (aI s), some (aI (nI i)), none] [] V L N I 0 0 by
    exact keyk (n) (0) 0 (by omega) (rfl)
  intro k
  induction k with
  | zero =>
    intro i s hk hinv
    refine x_iload (pc := 6) C dL_planned_6 rfl ?_
    refine x_aload_n (pc := 8) C dL_planned_8 rfl ?_
    refine x_iconst (pc := 9) C (1) dL_planned_9 (by decide) ?_
    refine x_topi (nI 1) (by decide) ?_
    refine x_iald (pc := 10) (o := 212) C dL_planned_10 (hI 212 rfl) ⟨rfl, rfl⟩ (show _ < 3 by decide) (by decide) ?_
    refine x_topi (nI n) hn ?_
    refine x_icmp_ge (pc := 11) (tgt := 85) C dL_planned_11 (by decide) (fun h11 => ?_) (fun h11 => absurd (by exact nI_le (by omega) (by omega)) h11)
    refine x_iload (pc := 85) C dL_planned_85 rfl ?_
    exact x_iret (pc := 87) C hQ dL_planned_87 (is_i (by rw [hinv, show i = n by omega]; exact planM_eq hB (by omega))) (Nat.le_of_ble_eq_true rfl) (Nat.le_of_ble_eq_true rfl)
  | succ k ih =>
    intro i s hk hinv
    refine x_iload (pc := 6) C dL_planned_6 rfl ?_
    refine x_aload_n (pc := 8) C dL_planned_8 rfl ?_
    refine x_iconst (pc := 9) C (1) dL_planned_9 (by decide) ?_
    refine x_topi (nI 1) (by decide) ?_
    refine x_iald (pc := 10) (o := 212) C dL_planned_10 (hI 212 rfl) ⟨rfl, rfl⟩ (show _ < 3 by decide) (by decide) ?_
    refine x_topi (nI n) hn ?_
    refine x_icmp_ge (pc := 11) (tgt := 85) C dL_planned_11 (by decide) (fun h11 => absurd h11 (by exact nI_ge (by omega) (by omega))) (fun h11 => ?_)
    refine x_iconst (pc := 14) C (0) dL_planned_14 (by decide) ?_
    refine y_istore (pc := 15) C dL_planned_15 (by decide) rfl ?_
    suffices keyk2 : ∀ (k2 j : Nat) (s2 : Int32), k2 + j = (GF V 5 i).toNatClampNeg → (s2 = sumTo (fun s => cntM (GF V) d (nI hh) s (GF V 5 s).toNatClampNeg) i + cntM (GF V) d (nI hh) i j) → Wx E 17 [some (aI d), some (aI (nI hh)), some (aR 212), some (aR 213), some (aI s2), some (aI (nI i)), some (aI (nI j))] [] V L N I 0 0 by
      exact keyk2 ((GF V 5 i).toNatClampNeg) (0) _ (by omega) (by rw [hinv]; exact (Int32.add_zero _).symm)
    intro k2
    induction k2 with
    | zero =>
      intro j s2 hk2 hinv2
      refine x_iload (pc := 17) C dL_planned_17 rfl ?_
      refine x_aload_n (pc := 19) C dL_planned_19 rfl ?_
      refine x_bipush (pc := 20) C (9) dL_planned_20 (by decide) ?_
      refine x_iload (pc := 22) C dL_planned_22 rfl ?_
      refine x_imul (pc := 24) C dL_planned_24 ?_
      refine x_topi (nI (9 * i)) (pk_mul (9) (i)) ?_
      refine x_iconst (pc := 25) C (5) dL_planned_25 (by decide) ?_
      refine x_iadd (pc := 26) C dL_planned_26 ?_
      refine x_topi (nI (9 * i + 5)) (nI_add (9 * i) (5)) ?_
      refine x_iald (pc := 27) (o := 213) C dL_planned_27 (hI 213 rfl) ⟨rfl, rfl⟩ (show _ < 63 by omega) (by decide) ?_
      refine x_topi (GF V 5 i) (rfl) ?_
      refine x_icmp_ge (pc := 28) (tgt := 79) C dL_planned_28 (by decide) (fun h28 => ?_) (fun h28 => absurd (by exact cl_ge (by omega) (by have := cl_b (GF V 5 i); omega)) h28)
      refine y_iinc (pc := 79) C (nI (i + 1)) dL_planned_79 rfl (by exact nI_1 i) (by decide) rfl ?_
      refine x_goto (pc := 82) (tgt := 6) C dL_planned_82 (by decide) ?_
      refine x_fgt 6 ?_
      exact ih (i + 1) _ (by omega) (by rw [sumTo, hinv2, show j = (GF V 5 i).toNatClampNeg by omega])
    | succ k2 ih2 =>
      intro j s2 hk2 hinv2
      refine x_iload (pc := 17) C dL_planned_17 rfl ?_
      refine x_aload_n (pc := 19) C dL_planned_19 rfl ?_
      refine x_bipush (pc := 20) C (9) dL_planned_20 (by decide) ?_
      refine x_iload (pc := 22) C dL_planned_22 rfl ?_
      refine x_imul (pc := 24) C dL_planned_24 ?_
      refine x_topi (nI (9 * i)) (pk_mul (9) (i)) ?_
      refine x_iconst (pc := 25) C (5) dL_planned_25 (by decide) ?_
      refine x_iadd (pc := 26) C dL_planned_26 ?_
      refine x_topi (nI (9 * i + 5)) (nI_add (9 * i) (5)) ?_
      refine x_iald (pc := 27) (o := 213) C dL_planned_27 (hI 213 rfl) ⟨rfl, rfl⟩ (show _ < 63 by omega) (by decide) ?_
      refine x_topi (GF V 5 i) (rfl) ?_
      refine x_icmp_ge (pc := 28) (tgt := 79) C dL_planned_28 (by decide) (fun h28 => absurd h28 (by exact cl_lt (by omega))) (fun h28 => ?_)
      refine x_iload (pc := 31) C dL_planned_31 rfl ?_
      refine x_aload_n (pc := 33) C dL_planned_33 rfl ?_
      refine x_bipush (pc := 34) C (9) dL_planned_34 (by decide) ?_
      refine x_iload (pc := 36) C dL_planned_36 rfl ?_
      refine x_imul (pc := 38) C dL_planned_38 ?_
      refine x_topi (nI (9 * i)) (pk_mul (9) (i)) ?_
      refine x_iconst (pc := 39) C (2) dL_planned_39 (by decide) ?_
      refine x_iadd (pc := 40) C dL_planned_40 ?_
      refine x_topi (nI (9 * i + 2)) (nI_add (9 * i) (2)) ?_
      refine x_iald (pc := 41) (o := 213) C dL_planned_41 (hI 213 rfl) ⟨rfl, rfl⟩ (show _ < 63 by omega) (by decide) ?_
      refine x_topi (GF V 2 i) (rfl) ?_
      refine x_iload_n (pc := 42) C dL_planned_42 rfl ?_
      refine x_icmp_ne (pc := 43) (tgt := 69) C dL_planned_43 (by decide) (fun h43 => ?_) (fun h43 => ?_)
      · refine x_iconst (pc := 69) C (0) dL_planned_69 (by decide) ?_
        refine x_iadd (pc := 70) C dL_planned_70 ?_
        refine y_istore (pc := 71) C dL_planned_71 (by decide) rfl ?_
        refine y_iinc (pc := 73) C (nI (j + 1)) dL_planned_73 rfl (by exact nI_1 j) (by decide) rfl ?_
        refine x_goto (pc := 76) (tgt := 17) C dL_planned_76 (by decide) ?_
        exact ih2 (j + 1) _ (by omega) (by rw [hinv2, Int32.add_zero, cntM, cntM, sumTo, if_neg (fun z => h43 z.1), Int32.add_zero])
      · refine x_aload_n (pc := 46) C dL_planned_46 rfl ?_
        refine x_bipush (pc := 47) C (9) dL_planned_47 (by decide) ?_
        refine x_iload (pc := 49) C dL_planned_49 rfl ?_
        refine x_imul (pc := 51) C dL_planned_51 ?_
        refine x_topi (nI (9 * i)) (pk_mul (9) (i)) ?_
        refine x_iconst (pc := 52) C (3) dL_planned_52 (by decide) ?_
        refine x_iadd (pc := 53) C dL_planned_53 ?_
        refine x_topi (nI (9 * i + 3)) (nI_add (9 * i) (3)) ?_
        refine x_iald (pc := 54) (o := 213) C dL_planned_54 (hI 213 rfl) ⟨rfl, rfl⟩ (show _ < 63 by omega) (by decide) ?_
        refine x_topi (GF V 3 i) (rfl) ?_
        refine x_iload (pc := 55) C dL_planned_55 rfl ?_
        refine x_iadd (pc := 57) C dL_planned_57 ?_
        refine x_bipush (pc := 58) C (60) dL_planned_58 (by decide) ?_
        refine x_idiv (pc := 60) C dL_planned_60 (by decide) ?_
        refine x_iload_n (pc := 61) C dL_planned_61 rfl ?_
        refine x_icmp_ne (pc := 62) (tgt := 69) C dL_planned_62 (by decide) (fun h62 => ?_) (fun h62 => ?_)
        · refine x_iconst (pc := 69) C (0) dL_planned_69 (by decide) ?_
          refine x_iadd (pc := 70) C dL_planned_70 ?_
          refine y_istore (pc := 71) C dL_planned_71 (by decide) rfl ?_
          refine y_iinc (pc := 73) C (nI (j + 1)) dL_planned_73 rfl (by exact nI_1 j) (by decide) rfl ?_
          refine x_goto (pc := 76) (tgt := 17) C dL_planned_76 (by decide) ?_
          exact ih2 (j + 1) _ (by omega) (by rw [hinv2, Int32.add_zero, cntM, cntM, sumTo, if_neg (fun z => h62 z.2), Int32.add_zero])
        · refine x_iconst (pc := 65) C (1) dL_planned_65 (by decide) ?_
          refine x_goto (pc := 66) (tgt := 70) C dL_planned_66 (by decide) ?_
          refine x_iadd (pc := 70) C dL_planned_70 ?_
          refine y_istore (pc := 71) C dL_planned_71 (by decide) rfl ?_
          refine y_iinc (pc := 73) C (nI (j + 1)) dL_planned_73 rfl (by exact nI_1 j) (by decide) rfl ?_
          refine x_goto (pc := 76) (tgt := 17) C dL_planned_76 (by decide) ?_
          exact ih2 (j + 1) _ (by omega) (by rw [hinv2, cntM, cntM, sumTo, if_pos ⟨h43, h62⟩, Int32.add_assoc])
set_option maxRecDepth 100000 in
set_option maxHeartbeats 4000000 in
theorem c_L_lay {l : Launch} {V : VV} {L : LL} {N : NN} {I : List Nat} (hI : PI I) {n : Nat} (hn : V 212 1 = nI n) (hn6 : n ≤ 6) (k g d st ln sp o id : Int32) : Runs l 1 0 0 yL_lay (Cond.code yL_lay cL_lay 11 none) [aI k, aI g, aI d, aI st, aI ln, aI sp, aI o, aI id, aR 212, aR 213] V L N I (Is none (layV V n k g d st ln sp o id) (L) N I) := by
  refine run_of RL (by decide +kernel) rfl (Nat.le_of_ble_eq_true rfl) (fun E hE C hQ hN => ?_)
  subst hE
  refine x_bipush (pc := 0) C (9) dL_lay_0 (by decide) ?_
  refine x_aload (pc := 2) C dL_lay_2 rfl ?_
  refine x_iconst (pc := 4) C (1) dL_lay_4 (by decide) ?_
  refine x_topi (nI 1) (by decide) ?_
  refine x_iald (pc := 5) (o := 212) C dL_lay_5 (hI 212 rfl) ⟨rfl, rfl⟩ (show _ < 3 by decide) (by decide) ?_
  refine x_topi (nI n) hn ?_
  refine x_imul (pc := 6) C dL_lay_6 ?_
  refine x_topi (nI (9 * n)) (pk_mul (9) (n)) ?_
  refine y_istore (pc := 7) C dL_lay_7 (by decide) rfl ?_
  refine x_aload (pc := 9) C dL_lay_9 rfl ?_
  refine x_iload (pc := 11) C dL_lay_11 rfl ?_
  refine x_iload_n (pc := 13) C dL_lay_13 rfl ?_
  refine x_iast (pc := 14) (o := 213) C dL_lay_14 (hI 213 rfl) ⟨rfl, rfl⟩ (show _ < 63 by omega) (by decide) ?_
  refine x_aload (pc := 15) C dL_lay_15 rfl ?_
  refine x_iload (pc := 17) C dL_lay_17 rfl ?_
  refine x_iconst (pc := 19) C (1) dL_lay_19 (by decide) ?_
  refine x_iadd (pc := 20) C dL_lay_20 ?_
  refine x_topi (nI (9 * n + 1)) (nI_add (9 * n) (1)) ?_
  refine x_iload_n (pc := 21) C dL_lay_21 rfl ?_
  refine x_iast (pc := 22) (o := 213) C dL_lay_22 (hI 213 rfl) ⟨rfl, rfl⟩ (show _ < 63 by omega) (by decide) ?_
  refine x_aload (pc := 23) C dL_lay_23 rfl ?_
  refine x_iload (pc := 25) C dL_lay_25 rfl ?_
  refine x_iconst (pc := 27) C (2) dL_lay_27 (by decide) ?_
  refine x_iadd (pc := 28) C dL_lay_28 ?_
  refine x_topi (nI (9 * n + 2)) (nI_add (9 * n) (2)) ?_
  refine x_iload_n (pc := 29) C dL_lay_29 rfl ?_
  refine x_iast (pc := 30) (o := 213) C dL_lay_30 (hI 213 rfl) ⟨rfl, rfl⟩ (show _ < 63 by omega) (by decide) ?_
  refine x_aload (pc := 31) C dL_lay_31 rfl ?_
  refine x_iload (pc := 33) C dL_lay_33 rfl ?_
  refine x_iconst (pc := 35) C (3) dL_lay_35 (by decide) ?_
  refine x_iadd (pc := 36) C dL_lay_36 ?_
  refine x_topi (nI (9 * n + 3)) (nI_add (9 * n) (3)) ?_
  refine x_iload_n (pc := 37) C dL_lay_37 rfl ?_
  refine x_iast (pc := 38) (o := 213) C dL_lay_38 (hI 213 rfl) ⟨rfl, rfl⟩ (show _ < 63 by omega) (by decide) ?_
  refine x_aload (pc := 39) C dL_lay_39 rfl ?_
  refine x_iload (pc := 41) C dL_lay_41 rfl ?_
  refine x_iconst (pc := 43) C (4) dL_lay_43 (by decide) ?_
  refine x_iadd (pc := 44) C dL_lay_44 ?_
  refine x_topi (nI (9 * n + 4)) (nI_add (9 * n) (4)) ?_
  refine x_iload (pc := 45) C dL_lay_45 rfl ?_
  refine x_iast (pc := 47) (o := 213) C dL_lay_47 (hI 213 rfl) ⟨rfl, rfl⟩ (show _ < 63 by omega) (by decide) ?_
  refine x_aload (pc := 48) C dL_lay_48 rfl ?_
  refine x_iload (pc := 50) C dL_lay_50 rfl ?_
  refine x_iconst (pc := 52) C (5) dL_lay_52 (by decide) ?_
  refine x_iadd (pc := 53) C dL_lay_53 ?_
  refine x_topi (nI (9 * n + 5)) (nI_add (9 * n) (5)) ?_
  refine x_iload (pc := 54) C dL_lay_54 rfl ?_
  refine x_iast (pc := 56) (o := 213) C dL_lay_56 (hI 213 rfl) ⟨rfl, rfl⟩ (show _ < 63 by omega) (by decide) ?_
  refine x_aload (pc := 57) C dL_lay_57 rfl ?_
  refine x_iload (pc := 59) C dL_lay_59 rfl ?_
  refine x_bipush (pc := 61) C (6) dL_lay_61 (by decide) ?_
  refine x_iadd (pc := 63) C dL_lay_63 ?_
  refine x_topi (nI (9 * n + 6)) (nI_add (9 * n) (6)) ?_
  refine x_iconst (pc := 64) C (0) dL_lay_64 (by decide) ?_
  refine x_iast (pc := 65) (o := 213) C dL_lay_65 (hI 213 rfl) ⟨rfl, rfl⟩ (show _ < 63 by omega) (by decide) ?_
  refine x_aload (pc := 66) C dL_lay_66 rfl ?_
  refine x_iload (pc := 68) C dL_lay_68 rfl ?_
  refine x_bipush (pc := 70) C (7) dL_lay_70 (by decide) ?_
  refine x_iadd (pc := 72) C dL_lay_72 ?_
  refine x_topi (nI (9 * n + 7)) (nI_add (9 * n) (7)) ?_
  refine x_iload (pc := 73) C dL_lay_73 rfl ?_
  refine x_iast (pc := 75) (o := 213) C dL_lay_75 (hI 213 rfl) ⟨rfl, rfl⟩ (show _ < 63 by omega) (by decide) ?_
  refine x_aload (pc := 76) C dL_lay_76 rfl ?_
  refine x_iload (pc := 78) C dL_lay_78 rfl ?_
  refine x_bipush (pc := 80) C (8) dL_lay_80 (by decide) ?_
  refine x_iadd (pc := 82) C dL_lay_82 ?_
  refine x_topi (nI (9 * n + 8)) (nI_add (9 * n) (8)) ?_
  refine x_iload (pc := 83) C dL_lay_83 rfl ?_
  refine x_iast (pc := 85) (o := 213) C dL_lay_85 (hI 213 rfl) ⟨rfl, rfl⟩ (show _ < 63 by omega) (by decide) ?_
  exact x_vret (pc := 86) C hQ dL_lay_86 (is_v rfl) (Nat.le_of_ble_eq_true rfl) (Nat.le_of_ble_eq_true rfl)
