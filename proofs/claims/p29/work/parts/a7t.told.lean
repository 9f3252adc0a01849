-- told: what its own rows hold on the way
def TI (V M : VV) (n : Nat) (A : Nat → Prop) (B : Nat → Int32) : Prop := St V M ∧ (∀ s, s < n → A s → ∀ k, k < 4 → M 219 (4 * s + k) = airR (RF V) (V 201) k s) ∧ ∀ k, k < 8 → M 221 k = B k
section
variable {V M M2 : VV} {n : Nat} {A A2 : Nat → Prop} {B B2 : Nat → Int32}
theorem TI.sq (h : TI V M n A B) (q : Sq M M2) : TI V M2 n A B := by
  refine ⟨h.1.sq q, fun s a b k c => ?_, fun k hk => ?_⟩
  · rw [q 219 (by decide)]; exact h.2.1 s a b k c
  · rw [q 221 (by decide)]; exact h.2.2 k hk
theorem TI.mono (h : TI V M n A B) (hA : ∀ s, s < n → A2 s → A s) (hB : ∀ k, k < 8 → B k = B2 k) : TI V M n A2 B2 :=
  ⟨h.1, fun s a b => h.2.1 s a (hA s a b), fun k hk => (h.2.2 k hk).trans (hB k hk)⟩
theorem TI.up (h : TI V M n A B) {k : Nat} {x : Int32} : TI V (up M 221 k x) n A (fun j => if j = k then x else B j) := by
  refine ⟨fun i a b => ?_, fun s a b j c => ?_, fun j hj => ?_⟩
  · rw [up_nf (by omega)]; exact h.1 i a b
  · rw [up_no (by decide)]; exact h.2.1 s a b j c
  · dsimp only
    by_cases e : j = k
    · rw [if_pos e, e, up_ss]
    · rw [if_neg e, up_nk e]; exact h.2.2 j hj
theorem TI.ck (h : TI V M n A B) {T : Nat} (ht : Tie V n T) {d : Int32} : TI V (ckW 219 M d n) n (fun s => A s ∨ RF V 2 s = d) B := by
  have hs := h.1
  have ht2 := ht.st hs
  refine ⟨fun i a b => ?_, fun s a b k c => ?_, fun k hk => ?_⟩
  · rw [ckW_no (by omega)]; exact h.1 i a b
  · by_cases e : GF M 2 s = d
    · have := ckW_at (o := 219) (V := M) a e c
      rw [air_cg ht2.fa ht2.se a, RF_z hs.z, hs.z] at this
      exact this
    · have e2 : ckW 219 M d n 219 (4 * s + k) = M 219 (4 * s + k) := by
        unfold ckW
        rw [if_neg (fun z => e (by have := z.2.2; rwa [show (4 * s + k) / 4 = s by omega] at this))]
      rw [e2]
      refine h.2.1 s a (b.elim id fun z => absurd ?_ e) k c
      rw [ht2.f a (by decide), RF_z hs.z]; exact z
  · rw [ckW_no (by decide)]; exact h.2.2 k hk
theorem TI.begin : TI V (upR (upR V 219) 221) n (fun s => (RF V 2 s).toInt < ((0 : Nat) : Int)) (fun k => wkN V n k 0) → True := fun _ => trivial
theorem ti_0 (hb : ∀ s, s < n → ShB (RF V) s) : TI V (upR (upR V 219) 221) n (fun s => (RF V 2 s).toInt < ((0 : Nat) : Int)) (fun k => wkN V n k 0) := by
  refine ⟨fun i a b => ?_, fun s a b => ?_, fun k hk => rfl⟩
  · show (if i = 221 then (fun _ => (0 : Int32)) else if i = 219 then (fun _ => (0 : Int32)) else V i) = V i
    rw [if_neg (by omega), if_neg (by omega)]
  · have := (hb s a).2.2.1.1
    exact absurd b (by omega)
end
theorem day_lt {x : Int32} {d : Nat} (hd : d < 1000) (h : x.toInt < ((d + 1 : Nat) : Int)) : x.toInt < (d : Int) ∨ x = nI d := by
  by_cases e : x.toInt < (d : Int)
  · exact Or.inl e
  · exact Or.inr (t_eq.mpr (by rw [t_nat (by omega)]; omega))
/-- the same memory, but for the rows that are gone -/
def bakV (V M : VV) : VV := fun i => if 218 ≤ i ∧ i ≤ 221 then V i else M i
theorem bak_sq {V M : VV} (h : St V M) : Sq V (bakV V M) := fun i hi => by
  unfold bakV
  by_cases e : 218 ≤ i ∧ i ≤ 221
  · rw [if_pos e]
  · rw [if_neg e]; exact h i hi e
theorem cnt_t {F : Nat → Nat → Int32} {k i : Nat} {s g : Int32} (h : s = cntS F k i g) (h2 : F k i = g) : s + 1 = cntS F k (i + 1) g := by
  unfold cntS at h ⊢; rw [sumTo, if_pos h2, h]
theorem cnt_f {F : Nat → Nat → Int32} {k i : Nat} {s g : Int32} (h : s = cntS F k i g) (h2 : ¬ F k i = g) : s + 0 = cntS F k (i + 1) g := by
  unfold cntS at h ⊢; rw [sumTo, if_neg h2, h]
