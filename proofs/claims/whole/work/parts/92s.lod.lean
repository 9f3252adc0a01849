-- loading, as the class does it
theorem all_le {l : Nat} : ∀ {k : Nat} {V : VV} {a : Nat} {x : Int32}, a ≤ l → (allT l k V a x).2.2.1 ≤ l ∧ Sm5 V (allT l k V a x).2.1
  | 0, _, _, _, h => ⟨h, sm5_r⟩
  | k + 1, V, a, x, h => by
    have h1 := sh_le (V := V) (x := x) h
    unfold allT
    split
    · exact h1
    · split
      · rename_i h2
        have h3 := all_le (k := k) (V := (shT V l a x).2.1) (x := (shT V l a x).2.2.2) (sg_lt h2)
        exact ⟨h3.1, fun i j hi => (h3.2 i j hi).trans (h1.2 i j hi)⟩
      · exact h1
theorem stT_nf {V : VV} {a i : Nat} {x : Int32} (h : i ≠ 3) : stT V a x i = V i := by unfold stT; rw [up_nf h, up_nf h]
theorem sm5_f {V V1 : VV} (h : Sm5 V V1) {i : Nat} (hi : i ≠ 5) : V1 i = V i := funext fun j => h i j hi
/-- the memory behind a reading of it all -/
def alM (V : VV) (l0 : Nat) : VV := stT (allT l0 60 V 0 (V 3 3)).2.1 (allT l0 60 V 0 (V 3 3)).2.2.1 (allT l0 60 V 0 (V 3 3)).2.2.2
theorem alM_nf {V : VV} {l0 i : Nat} (h : i ≠ 3) (h2 : i ≠ 5) : alM V l0 i = V i := by
  unfold alM; rw [stT_nf h, sm5_f (all_le (Nat.zero_le _)).2 h2]
theorem alM_31 {V : VV} {l0 : Nat} : alM V l0 3 1 = V 3 1 := by
  unfold alM; rw [stT_1, sm5_f (all_le (Nat.zero_le _)).2 (by decide)]
def lc2 (M : VV) (l0 a : Nat) : Nat := if sgB (shT M l0 a (M 3 3)).2.1 l0 (shT M l0 a (M 3 3)).2.2.1 59 = true then (shT M l0 a (M 3 3)).2.2.1 + 1 else (shT M l0 a (M 3 3)).2.2.1
def lc3 (M : VV) (l0 a : Nat) : VV := stT (shT M l0 a (M 3 3)).2.1 (lc2 M l0 a) (shT M l0 a (M 3 3)).2.2.2
theorem lc2_le {M : VV} {l0 a : Nat} (h : a ≤ l0) : lc2 M l0 a ≤ l0 := by
  have h1 := (sh_le (V := M) (x := M 3 3) h).1
  unfold lc2; split
  · rename_i q; exact sg_lt q
  · exact h1
theorem lc3_nf {M : VV} {l0 a i : Nat} (ha : a ≤ l0) (h : i ≠ 3) (h2 : i ≠ 5) : lc3 M l0 a i = M i := by
  unfold lc3; rw [stT_nf h, sm5_f (sh_le ha).2 h2]
theorem lc3_31 {M : VV} {l0 a : Nat} (ha : a ≤ l0) : lc3 M l0 a 3 1 = M 3 1 := by
  unfold lc3; rw [stT_1, sm5_f (sh_le ha).2 (by decide)]
theorem lc3_32 {M : VV} {l0 a : Nat} : lc3 M l0 a 3 2 = nI (lc2 M l0 a) := stT_2
/-- why the show read next would be refused; the memory then -/
def lcC (M : VV) (l0 n a : Nat) : Int32 := rrC (lc3 M l0 a) n
def lcV (M : VV) (l0 n a : Nat) : VV := up (rrV (lc3 M l0 a) n) 0 6 (lcC M l0 n a)
def lcM (l0 : Nat) : Nat → VV → Nat → Nat → Nat → VV × Nat
  | 0, M, _, _, c => (M, c)
  | k + 1, M, n, a, c => if a < l0 ∧ M 0 6 = 0 then (if lcC M l0 n a = 0 then lcM l0 k (insV (lcV M l0 n a) n (plS (lcV M l0 n a) n)) (n + 1) (lc2 M l0 a) (c + 1) else lcM l0 k (lcV M l0 n a) n (lc2 M l0 a) c) else (M, c)
theorem lcM_1 {l0 k n a c : Nat} {M : VV} (h : ¬ a < l0) : lcM l0 (k + 1) M n a c = (M, c) := if_neg fun q => h q.1
theorem lcM_2 {l0 k n a c : Nat} {M : VV} (h : ¬ M 0 6 = 0) : lcM l0 (k + 1) M n a c = (M, c) := if_neg fun q => h q.2
theorem lcM_3 {l0 k n a c : Nat} {M : VV} (h1 : a < l0) (h2 : M 0 6 = 0) (h : ¬ lcC M l0 n a = 0) : lcM l0 (k + 1) M n a c = lcM l0 k (lcV M l0 n a) n (lc2 M l0 a) c := by rw [lcM, if_pos ⟨h1, h2⟩, if_neg h]
theorem lcM_4 {l0 k n a c : Nat} {M : VV} (h1 : a < l0) (h2 : M 0 6 = 0) (h : lcC M l0 n a = 0) : lcM l0 (k + 1) M n a c = lcM l0 k (insV (lcV M l0 n a) n (plS (lcV M l0 n a) n)) (n + 1) (lc2 M l0 a) (c + 1) := by rw [lcM, if_pos ⟨h1, h2⟩, if_pos h]
theorem rrC_ok {V : VV} {n : Nat} (hn : n ≤ 24) (h : rrC V n = 0) : rangeB (rrV V n 5 1) (rrV V n 5 2) (rrV V n 5 3) (rrV V n 5 4) (rrV V n 5 5) = true ∧ n < 24 := by
  by_cases h1 : V 5 0 = 2 ∧ rrB V n = false
  · rw [rrC_1 h1.1 h1.2] at h; exact absurd h (by decide)
  · cases h2 : rangeB (rrV V n 5 1) (rrV V n 5 2) (rrV V n 5 3) (rrV V n 5 4) (rrV V n 5 5) with
    | false => rw [rrC_2 h1 h2] at h; exact absurd h (by decide)
    | true =>
      rw [rrC_3 h1 h2] at h
      exact ⟨rfl, rfS_lt hn h⟩
/-- what holds at the head of the loop -/
def LoI (M : VV) (l0 n a : Nat) : Prop := M 20 7 = nI n ∧ n ≤ 24 ∧ M 3 1 = nI l0 ∧ M 3 2 = nI a ∧ a ≤ l0 ∧ ∀ s, s < n → ∃ g, g < 6 ∧ M 30 s = nI g
theorem lcV_nf {M : VV} {l0 n a i : Nat} (ha : a ≤ l0) (h : i ≠ 3) (h2 : i ≠ 5) (h3 : i ≠ 0) : lcV M l0 n a i = M i := by
  unfold lcV; rw [up_nf h3, rrV_nf h2, lc3_nf ha h h2]
theorem loI_f {M : VV} {l0 n a : Nat} (h : LoI M l0 n a) : LoI (lcV M l0 n a) l0 n (lc2 M l0 a) := by
  obtain ⟨h1, h2, h3, h4, h5, h6⟩ := h
  have e3 : lcV M l0 n a 3 = lc3 M l0 a 3 := by unfold lcV; rw [up_nf (by decide), rrV_nf (by decide)]
  refine ⟨?_, h2, ?_, ?_, lc2_le h5, ?_⟩
  · rw [lcV_nf h5 (by decide) (by decide) (by decide)]; exact h1
  · rw [e3, lc3_31 h5]; exact h3
  · rw [e3]; exact lc3_32
  · rw [lcV_nf h5 (by decide) (by decide) (by decide)]; exact h6
theorem loI_t {M : VV} {l0 n a p : Nat} (h : LoI M l0 n a) (hc : lcC M l0 n a = 0) (hp : p ≤ n) : LoI (insV (lcV M l0 n a) n p) l0 (n + 1) (lc2 M l0 a) := by
  have hf := loI_f h
  obtain ⟨h1, h2, h3, h4, h5, h6⟩ := hf
  have hok := rrC_ok h2 hc
  refine ⟨ins_207, hok.2, ?_, ?_, h5, fun s hs => ?_⟩
  · rw [ins_nf (by decide) (by decide)]; exact h3
  · rw [ins_nf (by decide) (by decide)]; exact h4
  · have e := ins_k (V := lcV M l0 n a) (k := 1) (n := n) (p := p) (s := s) (by decide) hp (by omega)
    show ∃ g, g < 6 ∧ insV (lcV M l0 n a) n p (29 + 1) s = nI g
    rw [e]
    unfold insB
    split
    · exact h6 s (by omega)
    · split
      · show ∃ g, g < 6 ∧ lcV M l0 n a 5 1 = nI g
        have : lcV M l0 n a 5 1 = rrV (lc3 M l0 a) n 5 1 := by unfold lcV; rw [up_no (by decide)]
        rw [this]
        exact range_g hok.1
      · exact h6 (s - 1) (by omega)
