def toN (x : Int32) : Nat := x.toInt.toNat
theorem toN_nI {a : Nat} (h : a < 2 ^ 31) : toN (nI a) = a := by unfold toN; rw [nI_toInt h]; rfl
def tkS (V : VV) (c : Int32) : Bool × VV := tkP V (toN (V 200 15)) (toN (V 200 13)) c
def rtP : Nat → VV → Nat → Nat × VV
  | 0, V, k => (k, V)
  | n + 1, V, k => if (tkS V (V 203 k)).1 = true then rtP n (tkS V (V 203 k)).2 (k + 1) else (k, (tkS V (V 203 k)).2)
def stW (s : Nat) : Nat := if s ≤ 4 then s else if s = 10 then 1 else if s = 20 then 2 else if s = 11 then 5 else 6
def stR (s : Nat) : Prop := s ≤ 4 ∨ (10 ≤ s ∧ s ≤ 13) ∨ (20 ≤ s ∧ s ≤ 23)
def Au (V : VV) (t s k : Nat) : Prop := V 200 15 = nI t ∧ V 200 13 = nI s ∧ stR s ∧ 7 * t + stW s ≤ k
def Sau (V V1 : VV) : Prop := (∀ j, j ≠ 13 → j ≠ 14 → j ≠ 15 → V1 200 j = V 200 j) ∧ ∀ i, i ≠ 200 → i ≠ 209 → V1 i = V i
theorem sau_r {V : VV} : Sau V V := ⟨fun _ _ _ _ => rfl, fun _ _ _ => rfl⟩
theorem sau_t {V V1 V2 : VV} (h : Sau V V1) (h2 : Sau V1 V2) : Sau V V2 := ⟨fun j a b c => (h2.1 j a b c).trans (h.1 j a b c), fun i a b => (h2.2 i a b).trans (h.2 i a b)⟩
theorem sau_9 {V : VV} {k : Nat} {x : Int32} : Sau V (up V 209 k x) := ⟨fun j _ _ _ => up_no (by decide), fun i _ b => up_nf b⟩
theorem sau_k {V : VV} {k : Nat} {x : Int32} (h : k = 13 ∨ k = 14 ∨ k = 15) : Sau V (up V 200 k x) := ⟨fun j a b c => up_nk (by omega), fun i a _ => up_nf a⟩
theorem sau_g {V V1 : VV} {b : Bool} {x : Int32} (h : Sau V V1) : Sau V (goV V1 b x) := sau_t h (sau_k (Or.inl rfl))
theorem sau_en {V : VV} {t : Nat} {c : Int32} : Sau V (enV V t c) := by
  unfold enV; split
  · exact sau_t (sau_k (Or.inr (Or.inr rfl))) (sau_k (Or.inl rfl))
  · exact sau_r
theorem sau_tk {V : VV} {t s : Nat} {c : Int32} : Sau V (tkP V t s c).2 := by
  unfold tkP
  split
  · unfold begP; split
    · exact sau_g (sau_t sau_9 sau_9)
    · exact sau_g (sau_t sau_9 sau_9)
  · split
    · exact sau_g sau_9
    · split
      · exact sau_g sau_r
      · split
        · exact sau_g sau_9
        · split
          · exact sau_g sau_r
          · split
            · exact sau_g (sau_t sau_9 (sau_k (Or.inr (Or.inl rfl))))
            · unfold gnP; split
              · exact sau_t sau_9 (sau_k (Or.inr (Or.inl rfl)))
              · split
                · exact sau_g sau_r
                · split
                  · split
                    · exact sau_en
                    · exact sau_g sau_r
                  · split
                    · split
                      · exact sau_g sau_r
                      · exact sau_en
                    · exact sau_en
theorem au_g {V V1 : VV} {t s k n : Nat} (h : Au V t s k) (h1 : V1 200 15 = V 200 15) (hn : stR n) (hw : stW n ≤ stW s + 1) : Au (goV V1 true (nI n)) t n (k + 1) :=
  ⟨goV_15.trans (h1.trans h.1), up_ss, hn, by have := h.2.2.2; omega⟩
theorem au_en {V : VV} {t s k : Nat} {c : Int32} (h : Au V t s k) (hw : 6 ≤ stW s) (hc : decide (c = 59) = true) : Au (enV V t c) (t + 1) 0 (k + 1) := by
  unfold enV; rw [if_pos (of_decide_eq_true hc)]
  exact ⟨(up_nk (by decide)).trans up_ss, up_ss, Or.inl (Nat.zero_le _), by have := h.2.2.2; show 7 * (t + 1) + 0 ≤ k + 1; omega⟩
theorem au_nd {V : VV} {t s q k : Nat} {c : Int32} (h : Au V t s k) : Au (ndV V t c q) t s (k + 1) :=
  ⟨((up_nk (by decide)).trans (up_no (by decide))).trans h.1, ((up_nk (by decide)).trans (up_no (by decide))).trans h.2.1, h.2.2.1, by have := h.2.2.2; omega⟩
theorem au_tk {V : VV} {t s k : Nat} {c : Int32} (h : Au V t s k) (hg : (tkP V t s c).1 = true) : ∃ t2 s2, Au (tkP V t s c).2 t2 s2 (k + 1) := by
  have hR := h.2.2.1
  unfold tkP at hg ⊢
  split
  · rename_i e; subst e
    rw [if_pos rfl] at hg
    unfold begP at hg ⊢
    split
    · exact ⟨t, 10, au_g (n := 10) h (by rw [bg0, up_no (by decide), up_no (by decide)]) (by unfold stR; omega) (by decide)⟩
    · rename_i e2; rw [if_neg e2] at hg
      dsimp only at hg ⊢
      rw [hg]
      exact ⟨t, 1, au_g (n := 1) h (by rw [bg0, up_no (by decide), up_no (by decide)]) (by unfold stR; omega) (by decide)⟩
  · rename_i e0; rw [if_neg e0] at hg
    split
    · rename_i e; subst e; rw [if_pos rfl] at hg
      dsimp only at hg ⊢
      unfold tdV; rw [hg]
      exact ⟨t, 2, au_g (n := 2) h (up_no (by decide)) (by unfold stR; omega) (by decide)⟩
    · rename_i e1; rw [if_neg e1] at hg
      split
      · rename_i e; subst e; rw [if_pos rfl] at hg
        dsimp only at hg ⊢
        rw [hg]; exact ⟨t, 3, au_g (n := 3) h rfl (by unfold stR; omega) (by decide)⟩
      · rename_i e2; rw [if_neg e2] at hg
        split
        · rename_i e; subst e; rw [if_pos rfl] at hg
          dsimp only at hg ⊢
          unfold tdV; rw [hg]
          exact ⟨t, 4, au_g (n := 4) h (up_no (by decide)) (by unfold stR; omega) (by decide)⟩
        · rename_i e3; rw [if_neg e3] at hg
          split
          · rename_i e; subst e; rw [if_pos rfl] at hg
            dsimp only at hg ⊢
            rw [hg]; exact ⟨t, 11, au_g (n := 11) h rfl (by unfold stR; omega) (by decide)⟩
          · rename_i e4; rw [if_neg e4] at hg
            split
            · rename_i e; rw [if_pos e] at hg
              dsimp only at hg ⊢
              unfold bnV; rw [hg]
              refine ⟨t, 20 + (s - 10), au_g h ((up_nk (by decide)).trans (up_no (by decide))) ?_ ?_⟩
              · unfold stR at hR ⊢; omega
              · unfold stR at hR
                rcases (show s = 10 ∨ s = 11 ∨ s = 12 ∨ s = 13 by omega) with q | q | q | q <;> subst q <;> decide
            · rename_i e; rw [if_neg e] at hg
              unfold stR at hR
              rcases (show s = 20 ∨ s = 21 ∨ s = 22 ∨ s = 23 by omega) with q | q | q | q <;> subst q <;> cases hw : withinB c 48 57
              · change (gnP V t c 0).1 = true at hg; show ∃ t2 s2, Au (gnP V t c 0).2 t2 s2 (k + 1)
                rw [gn_0 hw] at hg ⊢; dsimp only at hg ⊢; rw [hg]; exact ⟨t, 3, au_g (n := 3) h rfl (by unfold stR; omega) (by decide)⟩
              · exact ⟨t, 20, by rw [gn_w hw]; exact au_nd h⟩
              · change (gnP V t c 1).1 = true at hg; show ∃ t2 s2, Au (gnP V t c 1).2 t2 s2 (k + 1)
                by_cases h2 : V 209 (6 * t) = 2
                · rw [gn_1a hw h2] at hg ⊢; exact ⟨t + 1, 0, au_en h (by decide) hg⟩
                · rw [gn_1b hw h2] at hg ⊢; dsimp only at hg ⊢; rw [hg]; exact ⟨t, 12, au_g (n := 12) h rfl (by unfold stR; omega) (by decide)⟩
              · exact ⟨t, 21, by rw [gn_w hw]; exact au_nd h⟩
              · change (gnP V t c 2).1 = true at hg; show ∃ t2 s2, Au (gnP V t c 2).2 t2 s2 (k + 1)
                by_cases h2 : c = 58
                · rw [gn_2a hw h2]; exact ⟨t, 13, au_g (n := 13) h rfl (by unfold stR; omega) (by decide)⟩
                · rw [gn_2b hw h2] at hg ⊢; exact ⟨t + 1, 0, au_en h (by decide) hg⟩
              · exact ⟨t, 22, by rw [gn_w hw]; exact au_nd h⟩
              · change (gnP V t c 3).1 = true at hg; show ∃ t2 s2, Au (gnP V t c 3).2 t2 s2 (k + 1)
                rw [gn_3 hw] at hg ⊢; exact ⟨t + 1, 0, au_en h (by decide) hg⟩
              · exact ⟨t, 23, by rw [gn_w hw]; exact au_nd h⟩
theorem au_s {V : VV} {t s k : Nat} {c : Int32} (h : Au V t s k) (hk : k ≤ 60) : tkS V c = tkP V t s c := by
  have h4 := h.2.2.2
  have h3 := h.2.2.1
  unfold stR at h3
  unfold tkS; rw [h.1, h.2.1, toN_nI (by omega), toN_nI (by omega)]
def rt0 (V : VV) : VV := up (up V 200 13 0) 200 15 0
def rtT (V : VV) (l0 : Nat) : Nat × VV := rtP l0 (rt0 V) 0
theorem au_0 {V : VV} : Au (rt0 V) 0 0 0 := ⟨up_ss, (up_nk (by decide)).trans up_ss, Or.inl (Nat.zero_le _), Nat.le_refl _⟩
theorem sau_0 {V : VV} : Sau V (rt0 V) := sau_t (sau_k (Or.inl rfl)) (sau_k (Or.inr (Or.inr rfl)))
