theorem fref_nd {i ci k j : Nat} (ho : ocl i = some ci) (hk : k < nfl ci) (hf : fref ci i k = some j) (hd : dyn j = true) : dyn i = true ∧ i < j ∧ j ≤ i + 16 ∧ i % 20 = 0 := by
  have hd2 := of_decide_eq_true hd
  unfold ocl at ho
  split at ho
  · rename_i h
    cases ho
    unfold fref at hf
    simp only [show ¬ (3 : Nat) = 0 by decide, show ¬ (3 : Nat) = 2 by decide, if_false, if_true] at hf
    split at hf
    · cases hf
    · cases hf
      have hk2 : k < 16 := hk
      refine ⟨decide_eq_true ?_, by omega, by omega, h.1⟩
      omega
  split at ho
  · rename_i h; subst h; cases ho
    unfold fref at hf
    simp only [show ¬ (6 : Nat) = 0 by decide, show ¬ (6 : Nat) = 2 by decide, show ¬ (6 : Nat) = 3 by decide, show ¬ (6 : Nat) = 5 by decide, if_false, if_true] at hf
    repeat' (split at hf)
    all_goals (cases hf <;> omega)
  split at ho
  · rename_i h; subst h; cases ho
    unfold fref at hf
    simp only [show ¬ (2 : Nat) = 0 by decide, if_false, if_true] at hf
    split at hf
    · cases hf; omega
    · cases hf
  split at ho
  · rename_i h; subst h; cases ho
    unfold fref at hf
    simp only [show ¬ (5 : Nat) = 0 by decide, show ¬ (5 : Nat) = 2 by decide, show ¬ (5 : Nat) = 3 by decide, if_false, if_true] at hf
    split at hf
    · cases hf; omega
    · cases hf
  split at ho
  · rename_i h; subst h; cases ho
    unfold fref at hf
    simp only [show ¬ (4 : Nat) = 0 by decide, show ¬ (4 : Nat) = 2 by decide, show ¬ (4 : Nat) = 3 by decide, show ¬ (4 : Nat) = 5 by decide, show ¬ (4 : Nat) = 6 by decide, show ¬ (4 : Nat) = 7 by decide, if_false] at hf
    cases hf
  split at ho
  · rename_i h; subst h; cases ho
    unfold fref at hf
    simp only [if_true] at hf
    cases hf
    have hk2 : k < 5 := hk
    omega
  split at ho
  · rename_i h; subst h; cases ho
    unfold fref at hf
    simp only [if_true] at hf
    cases hf
    have hk2 : k < 5 := hk
    omega
  split at ho
  · rename_i h; subst h; cases ho
    unfold fref at hf
    simp only [show ¬ (1 : Nat) = 0 by decide, show ¬ (1 : Nat) = 2 by decide, show ¬ (1 : Nat) = 3 by decide, show ¬ (1 : Nat) = 5 by decide, show ¬ (1 : Nat) = 6 by decide, show ¬ (1 : Nat) = 7 by decide, if_false] at hf
    cases hf
  split at ho
  · rename_i h; subst h; cases ho
    unfold fref at hf
    simp only [show ¬ (7 : Nat) = 0 by decide, show ¬ (7 : Nat) = 2 by decide, show ¬ (7 : Nat) = 3 by decide, show ¬ (7 : Nat) = 5 by decide, show ¬ (7 : Nat) = 6 by decide, if_false, if_true] at hf
    repeat' (split at hf)
    all_goals (cases hf <;> omega)
  · cases ho
theorem cell_cg {ca : Nat → ClassId} {ad ad' : Nat → Nat} {V V' : VV} {L L' : LL} {N : NN} {i : Nat} (hV : V' i = V i) (hL : L' i = L i) (h1 : ∀ ci k j, ocl i = some ci → k < nfl ci → fref ci i k = some j → ad' j = ad j) (h2 : i = 2 → ∀ k, N k = false → ad' (40 + 20 * k) = ad (40 + 20 * k)) : cellM ca ad' V' L' N i = cellM ca ad V L N i := by
  unfold cellM
  cases ho : ocl i with
  | some ci =>
    refine congrArg (fun l => (Sum.inr (ci, l) : va_E)) (List.map_congr_left fun k hk => ?_)
    unfold fvM
    cases hf : fref ci i k with
    | some j => exact congrArg Value.ref (h1 ci k j ho (List.mem_range.mp hk) hf)
    | none => dsimp only; rw [hL, hV]
  | none =>
    dsimp only
    by_cases hk : akd i = 2
    · have hi : i = 2 := by
        unfold akd at hk
        split at hk
        · assumption
        · split at hk
          · cases hk
          · split at hk <;> cases hk
      rw [if_pos hk, if_pos hk]
      refine congrArg (fun f => (Sum.inl (ca 2, 6, .inr (.inr (.inr (.inr f)))) : va_E)) (funext fun k => ?_)
      by_cases hN : N k = true
      · rw [if_pos hN, if_pos hN]
      · rw [if_neg hN, if_neg hN, h2 hi k (by simpa using hN)]
    · rw [if_neg hk, if_neg hk, hV, hL]
/-- the ids of a saved plan; its first contents; its addresses -/
def bkI (b : Nat) : List Nat := [b, b + 1, b + 2, b + 3, b + 4, b + 5, b + 6, b + 9, b + 10, b + 11, b + 12, b + 13, b + 14, b + 15, b + 16]
def bkV (V : VV) (b : Nat) : VV := fun i => if b ≤ i ∧ i ≤ b + 16 then (if i = b + 1 then cS 8 else if i = b + 2 then cQ 6 else z0) else V i
def bkA (ad : Nat → Nat) (b q : Nat) (f : Nat → Nat) : Nat → Nat := fun i => if b ≤ i ∧ i ≤ b + 16 then (if i = b then q else f (i - b - 1)) else ad i
set_option maxRecDepth 100000 in
set_option maxHeartbeats 4000000 in
theorem bk_ws {ca : Nat → ClassId} {ad : Nat → Nat} {V : VV} {L : LL} {N : NN} {q k : Nat} {f : Nat → Nat} (hk : k < 6) : wsM ca (bkA ad (40 + 20 * k) q f) (bkV V (40 + 20 * k)) L N (bkI (40 + 20 * k)) = planW (ca 0) q f 8 6 := by
  rcases (show k = 0 ∨ k = 1 ∨ k = 2 ∨ k = 3 ∨ k = 4 ∨ k = 5 by omega) with rfl | rfl | rfl | rfl | rfl | rfl <;> rfl
theorem bkA_no {ad : Nat → Nat} {b q : Nat} {f : Nat → Nat} {i : Nat} (h : ¬ (b ≤ i ∧ i ≤ b + 16)) : bkA ad b q f i = ad i := if_neg h
theorem bkV_no {V : VV} {b i : Nat} (h : ¬ (b ≤ i ∧ i ≤ b + 16)) : bkV V b i = V i := if_neg h
theorem bk_old {ca : Nat → ClassId} {ad : Nat → Nat} {V : VV} {L : LL} {N : NN} {I : List Nat} {q k : Nat} {f : Nat → Nat} (hk : k < 6) (hN : N k = true) (hI : ∀ i, 40 + 20 * k ≤ i → i ≤ 40 + 20 * k + 16 → i ∉ I) : wsM ca (bkA ad (40 + 20 * k) q f) (bkV V (40 + 20 * k)) L N I = wsM ca ad V L N I := by
  refine List.map_congr_left fun i hi => ?_
  have ho : ¬ (40 + 20 * k ≤ i ∧ i ≤ 40 + 20 * k + 16) := fun h => hI i h.1 h.2 hi
  rw [bkA_no ho]
  refine congrArg (Prod.mk (ad i)) (cell_cg (bkV_no ho) rfl (fun ci t j h1 h2 h3 => bkA_no (fun hj => ?_)) (fun _ t ht => bkA_no (fun hj => ?_)))
  · have hd : dyn j = true := decide_eq_true (by omega)
    obtain ⟨h4, h5, h6, h7⟩ := fref_nd h1 h2 h3 hd
    omega
  · have : t = k := by omega
    subst this
    rw [hN] at ht
    cases ht
section
variable {E : EE} {own : String} {cc : ByteArray} {ret : Option FieldType} {nL D MC MS pc : Nat} {ls : zLS} {st : List AV} {V : VV} {L : LL} {N : NN} {I : List Nat} {a b : Nat}
theorem x_newP (C : OK E own cc nL ret D MC MS) {ik ic k : Nat} (hk : k < 6) (hN : N k = true) (hI : ∀ i, 40 + 20 * k ≤ i → i ≤ 40 + 20 * k + 16 → i ∉ I) (w1 : Cond.classLink own ik RX3 ∈ U0) (w2 : CIk own ic yX3_init cX3_init 2)
    (d0 : decode cc pc = .ok (.new ik, 3)) (d3 : decode cc (pc + 3) = .ok (.dup, 1)) (d4 : decode cc (pc + 4) = .ok (.invokespecial ic, 3)) (hD : 3 ≤ D) (hok : okB ls st = true) (hcat : catS st ≤ 6) (hroom : a + 15 ≤ MC ∧ b + 246 ≤ MS)
    (K : Wx E (pc + 7) ls (aR (40 + 20 * k) :: st) (bkV V (40 + 20 * k)) L N (I ++ bkI (40 + 20 * k)) (a + 15) (b + 246)) : Wx E pc ls st V L N I a b := by
  intro ad H locs lsa hP hD0 hS hA hl
  have hoks : okS I st ∧ okL I ls := okB_s hok
  refine va_new (ci := 3) (fs := [.null, .null, .null, .null, .null, .null, .int 0, .int 0, .null, .null, .null, .null, .null, .null, .null, .null]) (C := RX3) (T := TX3) (N := 16) C.1 C.2.1 C.2.2.2.2.1 (cl_words _ (List.mem_of_getElem? (i := 3) rfl)) tyX3 tyX3_ok C.2.2.2.1 (C.2.2.2.2.1 _ w1) (C.2.2.2.2.1 _ (u0_in 44 (by decide +kernel) rfl)) (C.2.2.2.2.1 _ (u0_in 22 (by decide +kernel) rfl)) C.2.2.2.2.2.1 hP hD0 hS C.2.2.2.2.2.2.1 rfl
    (fun j hj => by rcases (show j = 0 ∨ j = 1 ∨ j = 2 ∨ j = 3 ∨ j = 4 ∨ j = 5 ∨ j = 6 ∨ j = 7 ∨ j = 8 ∨ j = 9 ∨ j = 10 ∨ j = 11 ∨ j = 12 ∨ j = 13 ∨ j = 14 ∨ j = 15 by omega) with rfl | rfl | rfl | rfl | rfl | rfl | rfl | rfl | rfl | rfl | rfl | rfl | rfl | rfl | rfl | rfl <;> rfl) (Nat.le_trans (by omega) C.2.2.2.2.2.2.2.2.2.2.2.2.2.1) (Nat.le_trans (by omega) C.2.2.2.2.2.2.2.2.2.2.2.2.2.2.1) d0 (fun q H1 hP1 hD1 hS1 => ?_)
  refine lv_dup C.1 C.2.1 d3 rfl ?_
  refine k_init C w2 d4 (k_X3_init q) zT_m trivial (by omega) ?_ ⟨by omega, by omega⟩ hl.1 hP1 hD1 hS1 (fun w3 H2 locs2 hw hP2 hD2 hS2 => ?_)
  · show (Value.ref q).category + ((st.map (en ad)).map fun v => v.category).sum ≤ 8
    rw [catS_en]
    have : (Value.ref q).category = 1 := rfl
    omega
  · obtain ⟨f, rfl⟩ := hw
    have e : wsM (eK E) (bkA ad (40 + 20 * k) q f) (bkV V (40 + 20 * k)) L N (I ++ bkI (40 + 20 * k)) = wsM (eK E) ad V L N I ++ planW (eK E 0) q f 8 6 := by
      have := bk_ws (ca := eK E) (ad := ad) (V := V) (L := L) (N := N) (q := q) (f := f) hk
      have h2 := bk_old (ca := eK E) (ad := ad) (V := V) (L := L) (q := q) (f := f) hk hN hI
      unfold wsM at this h2 ⊢
      rw [List.map_append, this, h2]
    have hkeep : ∀ i, dyn i = false ∨ i ∈ I → bkA ad (40 + 20 * k) q f i = ad i := fun i hi => bkA_no (fun h => by
      rcases hi with hi | hi
      · have : dyn i = true := decide_eq_true (by omega)
        rw [this] at hi; cases hi
      · exact hI i h.1 h.2 hi)
    have K1 := K (bkA ad (40 + 20 * k) q f) H2 locs2 lsa (by rw [e]; exact hP2) (by rw [e]; exact hD2) hS2 ⟨fun i hi => (hkeep i (hA.2 i hi)).trans (hA.1 i hi), fun i hi => (hA.2 i hi).imp id (fun h => List.mem_append_left _ h)⟩ (okL_en hkeep hoks.2 hl)
    rw [List.map_cons, okS_en hkeep hoks.1] at K1
    have hq : en (bkA ad (40 + 20 * k) q f) (aR (40 + 20 * k)) = .ref q := by
      show Value.ref (bkA ad (40 + 20 * k) q f (40 + 20 * k)) = _
      unfold bkA
      rw [if_pos ⟨Nat.le_refl _, by omega⟩, if_pos rfl]
    rw [hq] at K1
    exact K1
end
