-- removing and closing: the law's rows beside the row of numbers
theorem eq201 {A B : VV} {j : Nat} (h : A 201 = B 201) : A 201 j = B 201 j := congrFun h j
theorem up_cg {A B : VV} {k : Nat} {x : Int32} (h : A 201 = B 201) : up A 201 k x 201 = up B 201 k x 201 := by funext j; unfold up; rw [if_pos rfl, if_pos rfl, h]
theorem delR_cg {U U2 : VV} {n p : Nat} (h : U 201 = U2 201) : delR U n p 201 = delR U2 n p 201 := by
  have e1 := up_cg (k := 39) (x := nI n) h
  have e2 : slR (up U 201 39 (nI n)) p (40 + 8 * n) 201 = slR (up U2 201 39 (nI n)) p (40 + 8 * n) 201 := by funext j; unfold slR; rw [e1]
  funext j
  unfold delR dcR
  rw [e2]
theorem rmR_cg {p : Nat} : ∀ {k : Nat} {U U2 : VV} {n c : Nat}, U 201 = U2 201 → (rmR k U n p c).1 201 = (rmR k U2 n p c).1 201 ∧ (rmR k U n p c).2 = (rmR k U2 n p c).2 := by
  intro k
  have gen : ∀ (k : Nat) (U U2 : VV) (n p c : Nat), U 201 = U2 201 → (rmR k U n p c).1 201 = (rmR k U2 n p c).1 201 ∧ (rmR k U n p c).2 = (rmR k U2 n p c).2 := by
    intro k
    induction k with
    | zero => intro U U2 n p c h; exact ⟨h, rfl⟩
    | succ k ih =>
      intro U U2 n p c h
      unfold rmR
      rw [RF_z h]
      by_cases q : RF U2 7 k = nI p
      · rw [if_pos q, if_pos q]; exact ih _ _ _ _ _ (delR_cg h)
      · rw [if_neg q, if_neg q]; exact ih _ _ _ _ _ h
  intro U U2 n c h
  exact gen k U U2 n p c h
theorem rmZ_cg {U U2 : VV} {n p : Nat} (h : U 201 = U2 201) : rmZ U n p 201 = rmZ U2 n p 201 ∧ (rmR n U n p 1).2.2.2 = (rmR n U2 n p 1).2.2.2 := by
  obtain ⟨a, b⟩ := rmR_cg (p := p) (k := n) (n := n) (c := 1) h
  unfold rmZ
  rw [b]
  exact ⟨delR_cg a, rfl⟩
theorem cgN_cg {U U2 : VV} {n : Nat} (h : U 201 = U2 201) : ∀ {g : Nat}, cgN U n g 201 = cgN U2 n g 201
  | 0 => h
  | g + 1 => by
    have ih := cgN_cg (n := n) h (g := g)
    have ea : awS (cgN U n g) n (nI g) = awS (cgN U2 n g) n (nI g) := awS_sm ih
    rw [cgN, cgN, ea]
    unfold cgR alN
    rw [ih]
    exact up_cg (up_cg (up_cg (up_cg ih)))
theorem cwR_cg {U U2 : VV} {n : Nat} (h : U 201 = U2 201) : cwR U n 201 = cwR U2 n 201 := by
  have e : zrR (cgN U n 6) n 201 = zrR (cgN U2 n 6) n 201 := by funext j; unfold zrR; rw [cgN_cg h]
  unfold cwR
  rw [h]
  exact up_cg e
/-- one row goes out -/
def ldW (M : VV) (i n : Nat) : VV := fun j q => if j = 213 ∧ 9 * i ≤ q ∧ q < 9 * n then M 213 (q + 9) else if j = 212 ∧ q = 1 then nI n else M j q
def cpW (M : VV) (i t : Nat) : VV := fun j q => if j = 213 ∧ 9 * i ≤ q ∧ q < t then M 213 (q + 9) else M j q
theorem cpW_0 {M : VV} {i : Nat} : M = cpW M i (9 * i) := by
  funext j q
  unfold cpW
  rw [if_neg (by omega)]
theorem cpW_s {M : VV} {i t : Nat} (h : 9 * i ≤ t) : up (cpW M i t) 213 t (cpW M i t 213 (t + 9)) = cpW M i (t + 1) := by
  have e : cpW M i t 213 (t + 9) = M 213 (t + 9) := by unfold cpW; rw [if_neg (by omega)]
  rw [e]
  funext j q
  by_cases hj : j = 213
  · subst hj
    by_cases hq : q = t
    · subst hq
      rw [up_ss]
      unfold cpW
      rw [if_pos ⟨rfl, h, by omega⟩]
    · rw [up_nk hq]
      unfold cpW
      by_cases a : 9 * i ≤ q ∧ q < t
      · rw [if_pos ⟨rfl, a⟩, if_pos ⟨rfl, a.1, by omega⟩]
      · rw [if_neg (fun z => a z.2), if_neg (fun z => a ⟨z.2.1, by omega⟩)]
  · rw [up_no hj]
    unfold cpW
    rw [if_neg (fun z => hj z.1), if_neg (fun z => hj z.1)]
theorem cpW_e {M : VV} {i n : Nat} : cpW (up M 212 1 (nI n)) i (9 * n) = ldW M i n := by
  funext j q
  unfold cpW ldW
  by_cases a : j = 213 ∧ 9 * i ≤ q ∧ q < 9 * n
  · rw [if_pos a, if_pos a, up_no (by decide)]
  · rw [if_neg a, if_neg a]
    by_cases b : j = 212 ∧ q = 1
    · rw [if_pos b, b.1, b.2, up_ss]
    · rw [if_neg b]
      by_cases c : j = 212
      · rw [c, up_nk (fun z => b ⟨c, z⟩)]
      · rw [up_no c]
theorem cpW_f {M : VV} {i t j : Nat} (h : j ≠ 213) : cpW M i t j = M j := funext fun q => by unfold cpW; rw [if_neg (fun z => h z.1)]
theorem ldW_f {M : VV} {i n j : Nat} (h : j ≠ 213) (h2 : j ≠ 212) : ldW M i n j = M j := funext fun q => by unfold ldW; rw [if_neg (fun z => h z.1), if_neg (fun z => h2 z.1)]
theorem ldW_1 {M : VV} {i n : Nat} : ldW M i n 212 1 = nI n := by unfold ldW; rw [if_neg (by omega), if_pos ⟨rfl, rfl⟩]
theorem ldW_2 {M : VV} {i n q : Nat} (h : q ≠ 1) : ldW M i n 212 q = M 212 q := by unfold ldW; rw [if_neg (by omega), if_neg (fun z => h z.2)]
theorem ldW_g {M : VV} {i n c s : Nat} (hc : c < 9) (hs : s < n) : GF (ldW M i n) c s = if s < i then GF M c s else GF M c (s + 1) := by
  unfold GF ldW
  by_cases a : s < i
  · rw [if_neg (by omega), if_neg (by omega), if_pos a]
  · rw [if_pos ⟨rfl, by omega, by omega⟩, if_neg a, show 9 * s + c + 9 = 9 * (s + 1) + c by omega]
def Ids2 (W U : VV) (n T : Nat) : Prop := ∃ id : Nat → Nat, (∀ s, s < n → GF W 8 s = nI (id s) ∧ id s < T) ∧ (∀ s t, s < n → t < n → id s = id t → s = t) ∧
  ∀ s, s < n → (RF U 0 s ≠ 2 ∧ RF U 7 s = -1 ∧ GF W 7 s = -1) ∨ (RF U 0 s = 2 ∧ ∃ o, o < n ∧ RF U 7 s = nI o ∧ GF W 7 s = nI (id o))
def RT (W U : VV) (n T : Nat) : Prop := (∀ s, s < n → ∀ k, k < 7 → GF W k s = RF U k s) ∧ Ids2 W U n T
theorem rt_del {W U : VV} {n T i : Nat} (h : RT W U (n + 1) T) (hn : n ≤ 24) (hi : i ≤ n) (hno : ∀ s, s ≤ n → RF U 7 s ≠ nI i) : RT (ldW W i n) (delR U n i) n T := by
  obtain ⟨h1, id, h2, h3, h4⟩ := h
  have eR : ∀ k, k < 7 → ∀ s, s < n → RF (delR U n i) k s = if s < i then RF U k s else RF U k (s + 1) := fun k hk s hs => delR_k hk hs
  refine ⟨fun s hs k hk => ?_, fun s => if s < i then id s else id (s + 1), fun s hs => ?_, fun s t hs ht hst => ?_, fun s hs => ?_⟩
  · rw [ldW_g (by omega) hs, eR k hk s hs]
    by_cases a : s < i
    · rw [if_pos a, if_pos a]; exact h1 s (by omega) k hk
    · rw [if_neg a, if_neg a]; exact h1 (s + 1) (by omega) k hk
  · rw [ldW_g (by decide) hs]
    dsimp only
    by_cases a : s < i
    · rw [if_pos a, if_pos a]; exact h2 s (by omega)
    · rw [if_neg a, if_neg a]; exact h2 (s + 1) (by omega)
  · dsimp only at hst
    by_cases a : s < i
    · rw [if_pos a] at hst
      by_cases b : t < i
      · rw [if_pos b] at hst; exact h3 s t (by omega) (by omega) hst
      · rw [if_neg b] at hst; have := h3 s (t + 1) (by omega) (by omega) hst; omega
    · rw [if_neg a] at hst
      by_cases b : t < i
      · rw [if_pos b] at hst; have := h3 (s + 1) t (by omega) (by omega) hst; omega
      · rw [if_neg b] at hst; have := h3 (s + 1) (t + 1) (by omega) (by omega) hst; omega
  · have key : ∀ u, u ≤ n → ((RF U 0 u ≠ 2 ∧ dec1' i (RF U 7 u) = -1 ∧ GF W 7 u = -1) ∨ RF U 0 u = 2 ∧ ∃ o, o < n ∧ dec1' i (RF U 7 u) = nI o ∧ GF W 7 u = nI (if o < i then id o else id (o + 1))) := fun u hu => by
      rcases h4 u (by omega) with ⟨c1, c2, c3⟩ | ⟨c1, o, c2, c3, c4⟩
      · exact Or.inl ⟨c1, by rw [c2, dec_m1 (by omega)], c3⟩
      · have hne : o ≠ i := fun z => hno u hu (by rw [c3, z])
        refine Or.inr ⟨c1, if o < i then o else o - 1, ?_, ?_, ?_⟩
        · split <;> omega
        · rw [c3]
          by_cases q : o < i
          · rw [if_pos q, dec_lo (by omega) (by omega)]
          · rw [if_neg q, dec_hi (by omega) (by omega)]
        · rw [c4]
          by_cases q : o < i
          · rw [if_pos q, if_pos q]
          · rw [if_neg q, if_neg (by omega), show o - 1 + 1 = o by omega]
    have r7 : RF (delR U n i) 7 s = dec1' i (if s < i then RF U 7 s else RF U 7 (s + 1)) := delR_7 hs
    rw [eR 0 (by decide) s hs, r7, ldW_g (by decide) hs]
    by_cases a : s < i
    · rw [if_pos a, if_pos a, if_pos a]; exact key s (by omega)
    · rw [if_neg a, if_neg a, if_neg a]; exact key (s + 1) (by omega)
/-- on the way down: k rows are still to be looked at -/
def RmA (V W U : VV) (n p T k n1 c : Nat) : Prop := RT W U n1 T ∧ rmR n V n p 1 = rmR k U n1 p c ∧ Rw (U 201) n1 ∧ p < n1 ∧ n1 ≤ 6 ∧ k ≤ n1 ∧ 1 ≤ c ∧ (c + n1 = n + 1 ∧ n ≤ 6) ∧ GF W 8 p = GF V 8 p ∧ W 212 1 = nI n1 ∧ (∀ j, j ≠ 212 → j ≠ 213 → W j = V j) ∧ (∀ q, q ≠ 1 → W 212 q = V 212 q) ∧ ∀ s, k ≤ s → s < n1 → RF U 7 s ≠ nI p
theorem rma_0 {V : VV} {n p T : Nat} (hR : Rw (V 201) n) (ht : Tie V n T) (hp : p < n) : RmA V V V n p T n n 1 :=
  ⟨⟨fun s hs k hk => ht.f hs hk, ht.id⟩, rfl, hR, hp, ht.n6, Nat.le_refl n, Nat.le_refl 1, ⟨by omega, ht.n6⟩, rfl, ht.d1, fun _ _ _ => rfl, fun _ _ => rfl, fun s h1 h2 => by omega⟩
section
variable {V W U : VV} {n p T k n1 c : Nat}
/-- whether the law takes out the row k, behind p -/
theorem rma_t (h : RmA V W U n p T (k + 1) n1 c) (hT : T ≤ 900) (hk : p < k) : GF W 8 k ≠ GF V 8 p ∧ ((GF W 0 k = 2 ∧ GF W 7 k = GF V 8 p) ↔ RF U 7 k = nI p) := by
  obtain ⟨⟨h1, id, h2, h3, h4⟩, _, _, h5, h6, h7, _, _, h8, _⟩ := h
  have e1 := h2 k (by omega)
  have e2 := h2 p h5
  have eg : GF V 8 p = nI (id p) := h8.symm.trans e2.1
  refine ⟨fun z => ?_, ?_⟩
  · rw [e1.1, eg] at z
    have := h3 k p (by omega) h5 ((nI_eq (by omega) (by omega)).mp z)
    omega
  · rw [eg, h1 k (by omega) 0 (by decide)]
    rcases h4 k (by omega) with ⟨c1, c2, c3⟩ | ⟨c1, o, c2, c3, c4⟩
    · refine ⟨fun z => absurd z.1 c1, fun z => ?_⟩
      rw [c2] at z
      exact absurd z.symm (nI_m1 (by omega))
    · rw [c3, c4]
      refine ⟨fun z => ?_, fun z => ?_⟩
      · have := h3 o p c2 h5 ((nI_eq (by have := (h2 o c2).2; omega) (by omega)).mp z.2)
        rw [this]
      · have : o = p := (nI_eq (by omega) (by omega)).mp z
        rw [this]; exact ⟨c1, rfl⟩
theorem rma_n (h : RmA V W U n p T (k + 1) n1 c) (hq : RF U 7 k ≠ nI p) : RmA V W U n p T k n1 c := by
  obtain ⟨h1, h2, h3, h4, h5, h6, h7, h7b, h8, h9, h10, h11, h12⟩ := h
  refine ⟨h1, by rw [h2, rmR, if_neg hq], h3, h4, h5, by omega, h7, h7b, h8, h9, h10, h11, fun s a b => ?_⟩
  by_cases e : s = k
  · rw [e]; exact hq
  · exact h12 s (by omega) b
theorem rma_y (h : RmA V W U n p T (k + 1) (n1 + 1) c) (hk : p < k) (hq : RF U 7 k = nI p) (hc : c ≤ 6) : RmA V (ldW W k n1) (delR U n1 k) n p T k n1 (c + 1) := by
  obtain ⟨h1, h2, h3, h4, h5, h6, h7, h7b, h8, h9, h10, h11, h12⟩ := h
  have hk2 : RF U 0 k = 2 := by
    rcases h3.2.2.2.2.1 k (by omega) with ⟨c1, c2⟩ | ⟨c1, _⟩
    · rw [show RF U 7 k = -1 from c1] at hq
      exact absurd hq.symm (nI_m1 (by omega))
    · exact c1
  have hno : ∀ s, s ≤ n1 → RF U 7 s ≠ nI k := fun s hs z => by
    rcases h3.2.2.2.2.1 s (by omega) with ⟨c1, c2⟩ | ⟨c1, o, c2, c3, c4⟩
    · rw [show RF U 7 s = -1 from c1] at z
      exact nI_m1 (by omega) z.symm
    · rw [show RF U 7 s = nI o from c3] at z
      have := (nI_eq (by omega) (by omega)).mp z
      rw [this] at c4
      exact c4 hk2
  refine ⟨rt_del h1 (by omega) (by omega) hno, ?_, del_row h3 (by omega) hno, by omega, by omega, by omega, by omega, by omega, ?_, ldW_1, fun j a b => (ldW_f b a).trans (h10 j a b), fun q hq => (ldW_2 hq).trans (h11 q hq), fun s a b z => ?_⟩
  · rw [h2, rmR, if_pos hq, if_neg (show ¬ k < p by omega), Nat.add_sub_cancel]
  · rw [ldW_g (by decide) (by omega), if_pos (by omega)]; exact h8
  · rw [show RF (delR U n1 k) 7 s = zF (delR U n1 k 201) 7 s from rfl, delR_7 b, if_neg (by omega)] at z
    rcases h3.2.2.2.2.1 (s + 1) (by omega) with ⟨c1, c2⟩ | ⟨c1, o, c2, c3, c4⟩
    · rw [show RF U 7 (s + 1) = -1 from c1, dec_m1 (by omega)] at z
      exact nI_m1 (o := p) (by omega) z.symm
    · have hne := h12 (s + 1) (by omega) (by omega)
      rw [show RF U 7 (s + 1) = nI o from c3] at hne z
      by_cases w : o ≤ k
      · rw [dec_lo (by omega) w] at z; exact hne z
      · rw [dec_hi (by omega) (by omega)] at z
        have := (nI_eq (by omega) (by omega)).mp z
        omega
/-- behind p: nothing more goes out -/
def RmB (V W : VV) (n p T n1 c : Nat) : Prop := RT W (rmZ V n p) n1 T ∧ (rmR n V n p 1).2.2.2 = c ∧ Rw (rmZ V n p 201) n1 ∧ n1 ≤ 6 ∧ p ≤ n1 ∧ c ≤ 7 ∧ W 212 1 = nI n1 ∧ (∀ j, j ≠ 212 → j ≠ 213 → W j = V j) ∧ (∀ q, q ≠ 1 → W 212 q = V 212 q) ∧ (∀ s, s < n1 → GF W 8 s ≠ GF V 8 p ∧ ¬ (GF W 0 s = 2 ∧ GF W 7 s = GF V 8 p)) ∧ ∀ j, (j < 38 ∨ j = 38) → rmZ V n p 201 j = V 201 j
theorem rmR_lo : ∀ {k : Nat} {U : VV} {n p c j : Nat}, j < 39 → (rmR k U n p c).1 201 j = U 201 j
  | 0, _, _, _, _, _, _ => rfl
  | k + 1, U, n, p, c, j, hj => by
    unfold rmR
    split
    · rw [rmR_lo hj, delR_lo hj]
    · exact rmR_lo hj
theorem rma_b (h : RmA V W U n p T (p + 1) (n1 + 1) c) (hT : T ≤ 900) : RmB V (ldW W p n1) n p T n1 c := by
  obtain ⟨h1, h2, h3, h4, h5, h6, h7, h7b, h8, h9, h10, h11, h12⟩ := h
  have e := rm_lo (p := p) (k := p + 1) (U := U) (n := n1 + 1) (c := c) (by omega) h4 (by omega) h3.2.2.2.2.1
  rw [e] at h2
  have hZ : rmZ V n p = delR U n1 p := by unfold rmZ; rw [h2, Nat.add_sub_cancel]
  have hno : ∀ s, s ≤ n1 → RF U 7 s ≠ nI p := fun s hs z => by
    by_cases q : p < s
    · exact h12 s q (by omega) z
    · rcases h3.2.2.2.2.1 s (by omega) with ⟨c1, c2⟩ | ⟨c1, o, c2, c3, c4⟩
      · rw [show RF U 7 s = -1 from c1] at z
        exact nI_m1 (by omega) z.symm
      · rw [show RF U 7 s = nI o from c3] at z
        have := (nI_eq (by omega) (by omega)).mp z
        omega
  have hlo : ∀ j, j < 39 → rmZ V n p 201 j = V 201 j := fun j hj => by
    unfold rmZ
    rw [delR_lo hj, rmR_lo hj]
  refine ⟨by rw [hZ]; exact rt_del h1 (by omega) (by omega) hno, by rw [h2], by rw [hZ]; exact del_row h3 (by omega) hno, by omega, by omega, by omega, ldW_1, fun j a b => (ldW_f b a).trans (h10 j a b), fun q hq => (ldW_2 hq).trans (h11 q hq), fun s hs => ?_, fun j hj => hlo j (by omega)⟩
  obtain ⟨r1, id, r2, r3, r4⟩ := h1
  have eg : GF V 8 p = nI (id p) := h8.symm.trans (r2 p h4).1
  have hg : ∀ u, u ≤ n1 → u ≠ p → GF W 8 u ≠ GF V 8 p ∧ ¬ (GF W 0 u = 2 ∧ GF W 7 u = GF V 8 p) := fun u hu hup => by
    refine ⟨fun z => ?_, fun z => ?_⟩
    · rw [(r2 u (by omega)).1, eg] at z
      exact hup (r3 u p (by omega) h4 ((nI_eq (by have := (r2 u (by omega)).2; omega) (by have := (r2 p h4).2; omega)).mp z))
    · obtain ⟨za, zb⟩ := z
      rw [r1 u (by omega) 0 (by decide)] at za
      rcases r4 u (by omega) with ⟨c1, _⟩ | ⟨c1, o, c2, c3, c4⟩
      · exact c1 za
      · rw [c4, eg] at zb
        have := r3 o p c2 h4 ((nI_eq (by have := (r2 o c2).2; omega) (by have := (r2 p h4).2; omega)).mp zb)
        exact hno u hu (by rw [c3, this])
  rw [ldW_g (by decide) hs, ldW_g (by decide) hs, ldW_g (by decide) hs]
  by_cases a : s < p
  · rw [if_pos a, if_pos a, if_pos a]; exact hg s (by omega) (by omega)
  · rw [if_neg a, if_neg a, if_neg a]; exact hg (s + 1) (by omega) (by omega)
theorem tie_rm {V3 : VV} (h : RmB V W n p T n1 c) (ht : Tie V n T) (hT : T + 1 ≤ 900) (hw : 0 ≤ (V 201 38).toInt ∧ (V 201 38).toInt ≤ T) (e : ∀ i, 210 ≤ i → V3 i = W i) (hz : V3 201 = rmZ V n p 201) (h6 : V3 0 6 = V 0 6) : ∃ n2, V3 212 1 = nI n2 ∧ V3 201 39 = nI n2 ∧ Tie V3 n2 (T + 1) ∧ (0 ≤ (V3 201 38).toInt ∧ (V3 201 38).toInt ≤ ((T + 1 : Nat) : Int)) := by
  obtain ⟨⟨r1, id, r2, r3, r4⟩, h2, h3, h4, h5, _, h7, h8, h9, h10, h11⟩ := h
  have er : RF V3 = RF (rmZ V n p) := RF_z hz
  have eg : GF V3 = GF W := by funext k s; unfold GF; rw [e 213 (by decide)]
  refine ⟨n1, by rw [e 212 (by decide)]; exact h7, by rw [hz]; exact h3.2.1, ⟨h4, hT, by rw [e 212 (by decide)]; exact h7, ?_, ?_, fun k hk => ?_, fun j hj => ?_, fun s hs k hk => ?_, id, fun s hs => ?_, r3, fun s hs => ?_⟩, by rw [hz, h11 38 (Or.inr rfl)]; omega⟩
  · rw [e 212 (by decide), h9 0 (by decide), hz, h11 38 (Or.inr rfl)]; exact ht.2.2.2.1
  · rw [e 212 (by decide), h9 2 (by decide), h6]; exact ht.2.2.2.2.1
  · rw [e 210 (by decide), h8 210 (by decide) (by decide), hz, h11 k (by omega)]; exact ht.se k hk
  · rw [e 211 (by decide), h8 211 (by decide) (by decide), hz, h11 _ (by omega)]; exact ht.gr hj
  · rw [eg, er]; exact r1 s hs k hk
  · rw [eg]; exact ⟨(r2 s hs).1, by have := (r2 s hs).2; omega⟩
  · rw [eg, er]; exact r4 s hs
end
-- closing
theorem aw_cg {V : VV} {n g : Nat} {x : Int32} (hg : g ≤ 6) : awS (cgN V n g) n x = awS V n x := by
  unfold awS
  rw [cgN_rf hg, cgN_hi (Or.inr (by decide)) hg]
  refine sumTo_congr fun s _ => ?_
  have ea : airR (RF V) (cgN V n g 201) 1 s = airR (RF V) (V 201) 1 s := airR_g fun k hk => cgN_hi (Or.inr hk) hg
  rw [ea]
def zW (M : VV) (i : Nat) : VV := fun j q => if j = 213 ∧ q % 9 = 6 ∧ q / 9 < i then 0 else M j q
theorem zW_0 {M : VV} : M = zW M 0 := by funext j q; unfold zW; rw [if_neg (by omega)]
theorem zW_s {M : VV} {i : Nat} : up (zW M i) 213 (9 * i + 6) 0 = zW M (i + 1) := by
  funext j q
  by_cases hj : j = 213
  · subst hj
    by_cases hq : q = 9 * i + 6
    · subst hq
      rw [up_ss]; unfold zW; rw [if_pos ⟨rfl, by omega, by omega⟩]
    · rw [up_nk hq]; unfold zW
      by_cases a : q % 9 = 6 ∧ q / 9 < i
      · rw [if_pos ⟨rfl, a⟩, if_pos ⟨rfl, a.1, by omega⟩]
      · rw [if_neg (fun z => a z.2), if_neg (fun z => a ⟨z.2.1, by omega⟩)]
  · rw [up_no hj]; unfold zW; rw [if_neg (fun z => hj z.1), if_neg (fun z => hj z.1)]
theorem zW_f {M : VV} {i j : Nat} (h : j ≠ 213) : zW M i j = M j := funext fun q => by unfold zW; rw [if_neg (fun z => h z.1)]
/-- kept of a difference, the law's way -/
theorem kept_eq {d lim : Int32} (h : 0 ≤ lim.toInt) (h2 : lim.toInt ≤ 100000) : carF d lim = if lim < d then lim else if d < -lim then -lim else d := by
  have e := t_neg (a := lim) (by omega) (by omega)
  unfold carF
  by_cases a : d < -lim
  · have a2 := a
    rw [t_lt, e] at a
    rw [if_pos a2, if_neg (fun z => by rw [t_lt] at z; omega), if_pos a2]
  · rw [if_neg a]
    by_cases b : lim < d
    · rw [if_pos b, if_pos b]
    · rw [if_neg b, if_neg b, if_neg a]
/-- the law's accounts behind g groups -/
def Acc (V M : VV) (n g : Nat) : Prop := (∀ j, j ≠ 211 → ¬ (218 ≤ j ∧ j ≤ 221) → M j = V j) ∧ (∀ j, j < 30 → M 211 j = cgN V n g 201 (8 + j)) ∧ ∀ s, s < n → ∀ k, k < 4 → M 218 (4 * s + k) = airR (RF V) (V 201) k s
theorem acc_s {V M : VV} {n g : Nat} {ar re ke : Int32} (h : Acc V M n g) (hg : g < 6) (hG : GB (V 201)) (ha : ar = awS V n (nI g)) (hr : re = M 211 (5 * g) + M 211 (5 * g + 1) - ar) (hk : ke = if V 201 7 < re then V 201 7 else if re < -(V 201 7) then -(V 201 7) else re) :
    Acc V (up (up (up (up M 211 (5 * g + 1) ke) 211 (5 * g + 2) (M 211 (5 * g + 2) + M 211 (5 * g))) 211 (5 * g + 3) (M 211 (5 * g + 3) + ar)) 211 (5 * g + 4) (M 211 (5 * g + 4) + (re - ke))) n (g + 1) := by
  obtain ⟨h1, h2, h3⟩ := h
  have g7 := hG.2.2.2.2.2.2.2
  have e7 : cgN V n g 201 7 = V 201 7 := cgN_hi (Or.inr (by decide)) (by omega)
  have hre : re = alN (cgN V n g) g - awS (cgN V n g) n (nI g) := by
    rw [aw_cg (by omega), hr, ha, h2 _ (by omega), h2 _ (by omega)]; rfl
  have hke : ke = carF (alN (cgN V n g) g - awS (cgN V n g) n (nI g)) (cgN V n g 201 7) := by
    rw [e7, ← hre, kept_eq (by omega) (by omega)]; exact hk
  refine ⟨fun j a b => ?_, fun j hj => ?_, fun s hs k hk2 => ?_⟩
  · rw [up_nf a, up_nf a, up_nf a, up_nf a]; exact h1 j a b
  · have eN : cgN V n (g + 1) = cgR (cgN V n g) g (awS (cgN V n g) n (nI g)) := rfl
    rw [eN]
    unfold cgR
    by_cases j1 : j = 5 * g + 1
    · subst j1
      rw [up_nk (by omega), up_nk (by omega), up_nk (by omega), up_ss, show 8 + (5 * g + 1) = 8 + 5 * g + 1 by omega, up_ss]; exact hke
    · by_cases j4 : j = 5 * g + 4
      · subst j4
        rw [up_ss, up_nk (by omega), show 8 + (5 * g + 4) = 8 + 5 * g + 4 by omega, up_ss, h2 _ hj, ← hke, ← hre, show 8 + (5 * g + 4) = 8 + 5 * g + 4 by omega]
      · by_cases j3 : j = 5 * g + 3
        · subst j3
          rw [up_nk (by omega), up_ss, up_nk (by omega), up_nk (by omega), show 8 + (5 * g + 3) = 8 + 5 * g + 3 by omega, up_ss, h2 _ hj, aw_cg (by omega), ← ha, show 8 + (5 * g + 3) = 8 + 5 * g + 3 by omega]
        · by_cases j2 : j = 5 * g + 2
          · subst j2
            rw [up_nk (by omega), up_nk (by omega), up_ss, up_nk (by omega), up_nk (by omega), up_nk (by omega), show 8 + (5 * g + 2) = 8 + 5 * g + 2 by omega, up_ss, h2 _ hj, h2 _ (by omega), show 8 + (5 * g + 2) = 8 + 5 * g + 2 by omega, show 8 + 5 * g = 8 + 5 * g + 0 from rfl]
          · rw [up_nk (by omega), up_nk (by omega), up_nk (by omega), up_nk (by omega), up_nk (by omega), up_nk (by omega), up_nk (by omega), up_nk (by omega)]; exact h2 j hj
  · rw [up_no (by decide), up_no (by decide), up_no (by decide), up_no (by decide)]; exact h3 s hs k hk2
theorem tie_close {V V3 M : VV} {n T : Nat} (hR : Rw (V 201) n) (hA : Acc V M n 6) (ht : Tie V n T) (hT : T + 1 ≤ 900) (hw : 0 ≤ (V 201 38).toInt ∧ (V 201 38).toInt ≤ T) (e : ∀ i, 210 ≤ i → ¬ (218 ≤ i ∧ i ≤ 221) → V3 i = up (zW M n) 212 0 (V 201 38 + 1) i) (hz : V3 201 = cwR V n 201) (h6 : V3 0 6 = V 0 6) : ∃ n2, V3 212 1 = nI n2 ∧ V3 201 39 = nI n2 ∧ Tie V3 n2 (T + 1) ∧ (0 ≤ (V3 201 38).toInt ∧ (V3 201 38).toInt ≤ ((T + 1 : Nat) : Int)) := by
  obtain ⟨h1, h2, h3⟩ := hA
  have hn6 := ht.n6
  have z38 : V3 201 38 = V 201 38 + 1 := by rw [hz]; unfold cwR; rw [up_ss]
  have t38 : (V3 201 38).toInt = (V 201 38).toInt + 1 := by rw [z38, t_add (by rw [t_1]; have := ht.2.1; omega) (by rw [t_1]; have := ht.2.1; omega), t_1]
  have zlo : ∀ j, j < 38 → V3 201 j = cgN V n 6 201 j := fun j hj => by rw [hz]; unfold cwR; rw [up_nk (by omega), zrR_lo (by omega)]
  have z39 : V3 201 39 = V 201 39 := by rw [hz]; unfold cwR; rw [up_nk (by decide), zrR_lo (by decide), cgN_hi (Or.inl (by decide)) (by decide)]
  have zF3 : ∀ k, k < 8 → ∀ s, s < n → RF V3 k s = if k = 6 then 0 else RF V k s := fun k hk s hs => by
    have e1 : RF V3 k s = zF (zrR (cgN V n 6) n 201) k s := by
      show V3 201 _ = _
      rw [hz]; unfold cwR zF; rw [up_nk (by omega)]
    rw [e1, zr_k hk, cgN_rf (by decide)]
    by_cases q : k = 6
    · rw [if_pos ⟨q, hs⟩, if_pos q]
    · rw [if_neg (fun z => q z.1), if_neg q]
  have e212 : ∀ j, j ≠ 0 → V3 212 j = V 212 j := fun j hj => by rw [e 212 (by decide) (by decide), up_nk hj, zW_f (by decide), h1 212 (by decide) (by decide)]
  have eG : ∀ c, c < 9 → ∀ s, s < n → GF V3 c s = if c = 6 then 0 else GF V c s := fun c hc s hs => by
    show V3 213 (9 * s + c) = _
    rw [e 213 (by decide) (by decide), up_no (by decide)]
    unfold zW
    by_cases q : c = 6
    · rw [if_pos ⟨rfl, by omega, by omega⟩, if_pos q]
    · rw [if_neg (by omega), if_neg q, h1 213 (by decide) (by decide)]; rfl
  refine ⟨n, by rw [e212 1 (by decide)]; exact ht.d1, by rw [z39]; exact hR.2.1, tie_mk ht hT (fun k hk => ?_) (fun j hj => ?_) (by rw [e212 1 (by decide)]; exact ht.d1) (by rw [e 212 (by decide) (by decide), up_ss, z38]) (by rw [e212 2 (by decide), h6]; exact ht.2.2.2.2.1) (fun s hs k hk => ?_) (fun s hs => ?_), by rw [t38]; omega⟩
  · rw [e 210 (by decide) (by decide), up_nf (by decide), zW_f (by decide), h1 210 (by decide) (by decide), zlo k (by omega), cgN_hi (Or.inr hk) (by decide)]; exact ht.se k hk
  · rw [e 211 (by decide) (by decide), up_nf (by decide), zW_f (by decide), h2 j hj, zlo _ (by omega)]
  · rw [eG k (by omega) s hs, zF3 k (by omega) s hs]
    by_cases q : k = 6
    · rw [if_pos q, if_pos q]
    · rw [if_neg q, if_neg q]; exact ht.f hs hk
  · rw [zF3 7 (by decide) s hs, zF3 0 (by decide) s hs, eG 7 (by decide) s hs, eG 8 (by decide) s hs]
    exact ⟨if_neg (by decide), if_neg (by decide), if_neg (by decide), if_neg (by decide)⟩
