def zF (z : Nat → Int32) : Nat → Nat → Int32 := fun k s => z (40 + 8 * s + k)
def keyT (F : Nat → Nat → Int32) (s : Nat) : Int := 1440 * (F 2 s).toInt + (F 3 s).toInt
/-- of a repeat, its original comes before it and isn't a repeat -/
def OrB (F : Nat → Nat → Int32) (n : Nat) : Prop := ∀ s, s < n → (F 7 s = -1 ∧ F 0 s ≠ 2) ∨ (F 0 s = 2 ∧ ∃ o, o < s ∧ F 7 s = nI o ∧ F 0 o ≠ 2)
def Srt (F : Nat → Nat → Int32) (n : Nat) : Prop := ∀ s t, s < t → t < n → keyT F s ≤ keyT F t
/-- what holds of a row of numbers with n shows -/
def Rw (z : Nat → Int32) (n : Nat) : Prop := n ≤ 24 ∧ z 39 = nI n ∧ (∀ k, k < 8 → isValB k (z k) = true) ∧ (∀ s, s < n → ShB (zF z) s) ∧ OrB (zF z) n ∧ Srt (zF z) n
/-- the plan at the id b is what the row tells -/
def P2 (V : VV) (b : Nat) (z : Nat → Int32) (n : Nat) : Prop := GEq (V (b + 1)) z ∧ (∀ g, g < 6 → ∀ k, k < 5 → V (b + 2 + k) g = z (8 + 5 * g + k)) ∧ V b 6 = z 38 ∧ V b 7 = nI n ∧ ∀ k, k < 8 → ∀ s, s < n → V (b + 9 + k) s = zF z k s
theorem key_t {F : Nat → Nat → Int32} {s : Nat} (hb : ShB F s) : (keyS F s).toInt = keyT F s := by
  obtain ⟨_, _, b2, b3, _⟩ := hb
  have c1 : (1440 : Int32).toInt = 1440 := rfl
  have e1 : (1440 * F 2 s).toInt = 1440 * (F 2 s).toInt := by rw [t_mul (by rw [c1]; omega) (by rw [c1]; omega), c1]
  unfold keyS keyT
  rw [t_add (by omega) (by omega), e1]
theorem plc_at {key : Nat → Int32} {x : Int32} : ∀ {n : Nat}, (∀ t, plcR key x n ≤ t → t < n → x < key t) ∧ (0 < plcR key x n → ¬ x < key (plcR key x n - 1))
  | 0 => ⟨fun _ _ h => absurd h (Nat.not_lt_zero _), fun h => absurd h (Nat.lt_irrefl 0)⟩
  | n + 1 => by
    have ih := plc_at (key := key) (x := x) (n := n)
    by_cases q : x < key n
    · rw [show plcR key x (n + 1) = plcR key x n from if_pos q]
      exact ⟨fun t h1 h2 => by
        by_cases e : t = n
        · rw [e]; exact q
        · exact ih.1 t h1 (by omega), ih.2⟩
    · rw [show plcR key x (n + 1) = n + 1 from if_neg q]
      exact ⟨fun t h1 h2 => by omega, fun _ => q⟩
theorem adj_m1 {p : Nat} (hp : p < 1000) : adj1 p (-1) = -1 := if_neg fun h => by
  have := t_le.mp h
  rw [t_nat (by omega), show (-1 : Int32).toInt = -1 from rfl] at this
  omega
theorem adj_lo {p o : Nat} (hp : p < 1000) (h : o < p) : adj1 p (nI o) = nI o := if_neg fun z => by
  have := t_le.mp z
  rw [t_nat (by omega), t_nat (by omega)] at this
  omega
theorem adj_hi {p o : Nat} (ho : o < 1000) (h : p ≤ o) : adj1 p (nI o) = nI (o + 1) := by
  unfold adj1
  rw [if_pos (by rw [t_le, t_nat (by omega), t_nat (by omega)]; omega)]
  exact nI_add o 1
theorem dec_m1 {p : Nat} (hp : p < 1000) : dec1' p (-1) = -1 := if_neg fun h => by
  have := t_lt.mp h
  rw [t_nat (by omega), show (-1 : Int32).toInt = -1 from rfl] at this
  omega
theorem dec_lo {p o : Nat} (hp : p < 1000) (h : o ≤ p) : dec1' p (nI o) = nI o := if_neg fun z => by
  have := t_lt.mp z
  rw [t_nat (by omega), t_nat (by omega)] at this
  omega
theorem dec_hi {p o : Nat} (ho : o < 1000) (h : p < o) : dec1' p (nI o) = nI (o - 1) := by
  unfold dec1'
  rw [if_pos (by rw [t_lt, t_nat (by omega), t_nat (by omega)]; omega)]
  exact nI_predn (by omega)
section
variable {U : VV} {n p k s : Nat}
theorem insR_no {i : Nat} (h : i ≠ 201) : insR U n p i = U i := by
  funext j
  unfold insR adjR frR shR
  rw [if_neg (fun z => h z.1), up_no h]
  rw [if_neg (fun z => h z.1), if_neg (fun z => h z.1)]
theorem insR_lo {j : Nat} (h : j < 39) : insR U n p 201 j = U 201 j := by
  unfold insR
  rw [adjR_lo (by omega), up_nk (by omega)]
  unfold frR shR
  rw [if_neg (by omega), if_neg (by omega)]
theorem insR_39 : insR U n p 201 39 = nI (n + 1) := by
  unfold insR
  rw [adjR_lo (by omega), up_ss]
theorem insR_b (hk : k < 8) (hp : p ≤ n) (hs : s ≤ n) : (up (frR (shR U p n) p 8) 201 39 (nI (n + 1))) 201 (40 + 8 * s + k) = insB (RF U) (U 204) p k s := by
  rw [up_nk (by omega)]
  unfold insB frR
  by_cases hsp : s = p
  · subst hsp
    rw [if_pos ⟨rfl, by omega, by omega⟩, if_neg (Nat.lt_irrefl s), if_pos rfl]
    unfold shR
    rw [if_neg (by omega), show 40 + 8 * s + k - (40 + 8 * s) = k by omega]
  · rw [if_neg (by omega)]
    unfold shR
    by_cases hlt : s < p
    · rw [if_neg (by omega), if_pos hlt]; rfl
    · rw [if_pos ⟨rfl, by omega, by omega⟩, if_neg hlt, if_neg hsp, show 40 + 8 * s + k - 8 = 40 + 8 * (s - 1) + k by omega]; rfl
theorem insR_k (hk : k < 7) (hp : p ≤ n) (hs : s ≤ n) : zF (insR U n p 201) k s = insB (RF U) (U 204) p k s := by
  rw [← insR_b (by omega) hp hs]
  unfold zF insR adjR
  rw [if_neg (by omega)]
theorem insR_7 (hp : p ≤ n) (hs : s ≤ n) : zF (insR U n p 201) 7 s = adj1 p (insB (RF U) (U 204) p 7 s) := by
  rw [← insR_b (by omega) hp hs]
  unfold zF insR adj1
  generalize (up (frR (shR U p n) p 8) 201 39 (nI (n + 1))) = W
  unfold adjR
  by_cases q : nI p ≤ W 201 (40 + 8 * s + 7)
  · rw [if_pos ⟨rfl, by omega, by omega, by omega, q⟩, if_pos q]
  · rw [if_neg (fun z => q z.2.2.2.2), if_neg q]
theorem delR_no {i : Nat} (h : i ≠ 201) : delR U n p i = U i := by
  funext j
  unfold delR dcR slR
  rw [if_neg (fun z => h z.1), if_neg (fun z => h z.1), up_no h]
theorem delR_lo {j : Nat} (h : j < 39) : delR U n p 201 j = U 201 j := by
  unfold delR
  rw [dcR_lo (by omega), slR_lo (by omega), up_nk (by omega)]
theorem delR_b (hk : k < 8) (hs : s < n) : (slR (up U 201 39 (nI n)) p (40 + 8 * n)) 201 (40 + 8 * s + k) = if s < p then RF U k s else RF U k (s + 1) := by
  unfold slR
  by_cases hlt : s < p
  · rw [if_neg (by omega), if_pos hlt, up_nk (by omega)]; rfl
  · rw [if_pos ⟨rfl, by omega, by omega⟩, if_neg hlt, up_nk (by omega), show 40 + 8 * s + k + 8 = 40 + 8 * (s + 1) + k by omega]; rfl
theorem delR_k (hk : k < 7) (hs : s < n) : zF (delR U n p 201) k s = if s < p then RF U k s else RF U k (s + 1) := by
  rw [← delR_b (by omega) hs]
  unfold zF delR dcR
  rw [if_neg (by omega)]
theorem delR_7 (hs : s < n) : zF (delR U n p 201) 7 s = dec1' p (if s < p then RF U 7 s else RF U 7 (s + 1)) := by
  rw [← delR_b (by omega) hs]
  unfold zF delR dec1'
  generalize (slR (up U 201 39 (nI n)) p (40 + 8 * n)) = W
  unfold dcR
  by_cases q : nI p < W 201 (40 + 8 * s + 7)
  · rw [if_pos ⟨rfl, by omega, by omega, by omega, q⟩, if_pos q]
  · rw [if_neg (fun z => q z.2.2.2.2), if_neg q]
end
/-- the proposal of the class, the fresh show of the reference -/
def Prp (V U : VV) : Prop := (∀ k, k < 6 → V 5 k = U 204 k) ∧ U 204 6 = 0 ∧ V 5 6 = U 204 7
theorem insB_cg {F F2 : Nat → Nat → Int32} {f f2 : Nat → Int32} {p k n s : Nat} (h : ∀ t, t < n → F k t = F2 k t) (hf : f k = f2 k) (hp : p ≤ n) (hs : s ≤ n) : insB F f p k s = insB F2 f2 p k s := by
  unfold insB
  by_cases a : s < p
  · rw [if_pos a, if_pos a, h s (by omega)]
  · rw [if_neg a, if_neg a]
    by_cases b : s = p
    · rw [if_pos b, if_pos b, hf]
    · rw [if_neg b, if_neg b, h (s - 1) (by omega)]
theorem ins_rel {V U : VV} {n p : Nat} (h : P2 V 20 (U 201) n) (hf : Prp V U) (hp : p ≤ n) : P2 (insV V n p) 20 (insR U n p 201) (n + 1) := by
  obtain ⟨h1, h2, h3, h4, h5⟩ := h
  obtain ⟨f1, f2, f3⟩ := hf
  refine ⟨fun k hk => ?_, fun g hg k hk => ?_, ?_, ins_207, fun k hk s hs => ?_⟩
  · show insV V n p 21 k = _
    rw [ins_nf (by omega) (by omega), insR_lo (by omega)]
    exact h1 k hk
  · rw [ins_nf (by omega) (by omega), insR_lo (by omega)]
    exact h2 g hg k hk
  · rw [ins_20 (by omega), insR_lo (by omega)]
    exact h3
  · show insV V n p (29 + k) s = _
    by_cases k7 : k = 7
    · subst k7
      rw [insR_7 hp (by omega), show 29 + 7 = 36 from rfl, ins_7 hp (by omega)]
      exact congrArg (adj1 p) (insB_cg (n := n) (fun t ht => h5 7 (by decide) t ht) f3 hp (by omega))
    · rw [insR_k (by omega) hp (by omega), ins_k (by omega) hp (by omega)]
      refine insB_cg (n := n) (fun t ht => h5 k hk t ht) ?_ hp (by omega)
      by_cases k6 : k = 6
      · subst k6; exact f2.symm
      · rw [if_neg k6]; exact f1 k (by omega)
theorem del_rel {V U : VV} {n p : Nat} (h : P2 V 20 (U 201) (n + 1)) : P2 (delV V n p) 20 (delR U n p 201) n := by
  obtain ⟨h1, h2, h3, h4, h5⟩ := h
  have hc : ∀ k, k < 8 → ∀ s, s < n → (if s < p then V (29 + k) s else V (29 + k) (s + 1)) = if s < p then RF U k s else RF U k (s + 1) := fun k hk s hs => by
    by_cases a : s < p
    · rw [if_pos a, if_pos a]; exact h5 k hk s (by omega)
    · rw [if_neg a, if_neg a]; exact h5 k hk (s + 1) (by omega)
  refine ⟨fun k hk => ?_, fun g hg k hk => ?_, ?_, delV_20, fun k hk s hs => ?_⟩
  · show delV V n p 21 k = _
    rw [del_nf (by omega) (by omega), delR_lo (by omega)]
    exact h1 k hk
  · rw [del_nf (by omega) (by omega), delR_lo (by omega)]
    exact h2 g hg k hk
  · rw [del_20 (by omega), delR_lo (by omega)]
    exact h3
  · show delV V n p (29 + k) s = _
    by_cases k7 : k = 7
    · subst k7
      rw [delR_7 hs, show 29 + 7 = 36 from rfl, del_7 hs, ← hc 7 (by decide) s hs]
    · rw [delR_k (by omega) hs, del_k (by omega) hs, hc k hk s hs]
def FrB (F : Nat → Nat → Int32) (f : Nat → Int32) (n p : Nat) : Prop := (f 7 = -1 ∧ f 0 ≠ 2) ∨ (f 0 = 2 ∧ ∃ o, o < n ∧ o < p ∧ f 7 = nI o ∧ F 0 o ≠ 2)
theorem insB_lt {F : Nat → Nat → Int32} {f : Nat → Int32} {p k s : Nat} (h : s < p) : insB F f p k s = F k s := if_pos h
theorem insB_at {F : Nat → Nat → Int32} {f : Nat → Int32} {p k : Nat} : insB F f p k p = f k := by unfold insB; rw [if_neg (Nat.lt_irrefl p), if_pos rfl]
theorem insB_gt {F : Nat → Nat → Int32} {f : Nat → Int32} {p k s : Nat} (h : p < s) : insB F f p k s = F k (s - 1) := by unfold insB; rw [if_neg (by omega), if_neg (by omega)]
theorem shB_cg {F F2 : Nat → Nat → Int32} {s t : Nat} (h : ∀ k, k < 7 → F k s = F2 k t) (hb : ShB F2 t) : ShB F s := by
  unfold ShB
  rw [h 0 (by decide), h 1 (by decide), h 2 (by decide), h 3 (by decide), h 4 (by decide), h 5 (by decide), h 6 (by decide)]
  exact hb
theorem ins_row {U : VV} {n : Nat} {x : Int32} (h : Rw (U 201) n) (hn : n < 24) (hb : ShB (fun k _ => U 204 k) 0) (hx : x.toInt = 1440 * (U 204 2).toInt + (U 204 3).toInt) (hf : ∀ p, p = plcR (keyS (RF U)) x n → FrB (RF U) (U 204) n p) : Rw (insR U n (plcR (keyS (RF U)) x n) 201) (n + 1) := by
  obtain ⟨h1, h2, h3, h4, h5, h6⟩ := h
  have hat := plc_at (key := keyS (RF U)) (x := x) (n := n)
  have hle := plcR_le (key := keyS (RF U)) (x := x) n
  have hfr := hf _ rfl
  generalize plcR (keyS (RF U)) x n = p at hat hle hfr
  have e : ∀ k, k < 7 → ∀ s, s ≤ n → zF (insR U n p 201) k s = insB (RF U) (U 204) p k s := fun k hk s hs => insR_k hk hle hs
  have hlo : ∀ t, t < p → keyT (RF U) t ≤ x.toInt := fun t ht => by
    have a := hat.2 (by omega)
    rw [t_lt, key_t (F := RF U) (h4 (p - 1) (by omega))] at a
    by_cases q : t = p - 1
    · rw [q]; omega
    · have := h6 t (p - 1) (by omega) (by omega)
      have e : keyT (zF (U 201)) = keyT (RF U) := rfl
      rw [e] at this
      have e2 : keyT (zF (U 201)) (p - 1) = keyT (RF U) (p - 1) := rfl
      omega
  have hhi : ∀ t, p ≤ t → t < n → x.toInt < keyT (RF U) t := fun t h1 h2 => by
    have := t_lt.mp (hat.1 t h1 h2)
    rwa [key_t (F := RF U) (h4 t h2)] at this
  have ek : ∀ s, s ≤ n → keyT (zF (insR U n p 201)) s = if s < p then keyT (RF U) s else if s = p then x.toInt else keyT (RF U) (s - 1) := fun s hs => by
    unfold keyT
    rw [e 2 (by decide) s hs, e 3 (by decide) s hs]
    by_cases a : s < p
    · rw [if_pos a, insB_lt a, insB_lt a]
    · rw [if_neg a]
      by_cases b : s = p
      · rw [if_pos b, b, insB_at, insB_at, hx]
      · rw [if_neg b, insB_gt (by omega), insB_gt (by omega)]
  refine ⟨by omega, insR_39, fun k hk => by rw [insR_lo (by omega)]; exact h3 k hk, fun s hs => ?_, fun s hs => ?_, fun s t hst ht => ?_⟩
  · by_cases a : s < p
    · exact shB_cg (F2 := RF U) (t := s) (fun k hk => by rw [e k hk s (by omega), insB_lt a]) (h4 s (by omega))
    · by_cases b : s = p
      · exact shB_cg (F2 := fun k _ => U 204 k) (t := 0) (fun k hk => by rw [e k hk s (by omega), b, insB_at]) hb
      · exact shB_cg (F2 := RF U) (t := s - 1) (fun k hk => by rw [e k hk s (by omega), insB_gt (by omega)]) (h4 (s - 1) (by omega))
  · rw [insR_7 hle (by omega), e 0 (by decide) s (by omega)]
    by_cases a : s < p
    · rw [insB_lt a, insB_lt a]
      rcases h5 s (by omega) with ⟨c1, c2⟩ | ⟨c1, o, c2, c3, c4⟩
      · exact Or.inl ⟨by rw [show RF U 7 s = -1 from c1, adj_m1 (by omega)], c2⟩
      · refine Or.inr ⟨c1, o, c2, by rw [show RF U 7 s = nI o from c3, adj_lo (by omega) (by omega)], ?_⟩
        rw [e 0 (by decide) o (by omega), insB_lt (by omega)]; exact c4
    · by_cases b : s = p
      · subst b
        rw [insB_at, insB_at]
        rcases hfr with ⟨c1, c2⟩ | ⟨c1, o, c2, c3, c4, c5⟩
        · exact Or.inl ⟨by rw [c1, adj_m1 (by omega)], c2⟩
        · refine Or.inr ⟨c1, o, c3, by rw [c4, adj_lo (by omega) c3], ?_⟩
          rw [e 0 (by decide) o (by omega), insB_lt c3]; exact c5
      · rw [insB_gt (by omega), insB_gt (by omega)]
        rcases h5 (s - 1) (by omega) with ⟨c1, c2⟩ | ⟨c1, o, c2, c3, c4⟩
        · exact Or.inl ⟨by rw [show RF U 7 (s - 1) = -1 from c1, adj_m1 (by omega)], c2⟩
        · by_cases q : o < p
          · refine Or.inr ⟨c1, o, by omega, by rw [show RF U 7 (s - 1) = nI o from c3, adj_lo (by omega) q], ?_⟩
            rw [e 0 (by decide) o (by omega), insB_lt q]; exact c4
          · refine Or.inr ⟨c1, o + 1, by omega, by rw [show RF U 7 (s - 1) = nI o from c3, adj_hi (by omega) (by omega)], ?_⟩
            rw [e 0 (by decide) (o + 1) (by omega), insB_gt (by omega)]; exact c4
  · rw [ek s (by omega), ek t (by omega)]
    have hs6 := fun a b (q : a < b) (r : b < n) => h6 a b q r
    have e0 : keyT (zF (U 201)) = keyT (RF U) := rfl
    rw [e0] at hs6
    by_cases a : s < p
    · rw [if_pos a]
      have b1 := hlo s a
      by_cases c : t < p
      · rw [if_pos c]; exact hs6 s t hst (by omega)
      · rw [if_neg c]
        by_cases d : t = p
        · rw [if_pos d]; exact b1
        · rw [if_neg d]; exact Int.le_trans b1 (Int.le_of_lt (hhi (t - 1) (by omega) (by omega)))
    · rw [if_neg a]
      by_cases b : s = p
      · rw [if_pos b, if_neg (by omega), if_neg (by omega)]
        exact Int.le_of_lt (hhi (t - 1) (by omega) (by omega))
      · rw [if_neg b, if_neg (by omega), if_neg (by omega)]
        exact hs6 (s - 1) (t - 1) (by omega) (by omega)
theorem del_row {U : VV} {n p : Nat} (h : Rw (U 201) (n + 1)) (hp : p ≤ n) (hno : ∀ s, s ≤ n → RF U 7 s ≠ nI p) : Rw (delR U n p 201) n := by
  obtain ⟨h1, h2, h3, h4, h5, h6⟩ := h
  have e : ∀ k, k < 7 → ∀ s, s < n → zF (delR U n p 201) k s = if s < p then RF U k s else RF U k (s + 1) := fun k hk s hs => delR_k hk hs
  have elo : ∀ k, k < 7 → ∀ s, s < n → s < p → zF (delR U n p 201) k s = RF U k s := fun k hk s hs a => by rw [e k hk s hs, if_pos a]
  have ehi : ∀ k, k < 7 → ∀ s, s < n → ¬ s < p → zF (delR U n p 201) k s = RF U k (s + 1) := fun k hk s hs a => by rw [e k hk s hs, if_neg a]
  refine ⟨by omega, delR_39, fun k hk => by rw [delR_lo (by omega)]; exact h3 k hk, fun s hs => ?_, fun s hs => ?_, fun s t hst ht => ?_⟩
  · by_cases a : s < p
    · exact shB_cg (F2 := RF U) (t := s) (fun k hk => elo k hk s hs a) (h4 s (by omega))
    · exact shB_cg (F2 := RF U) (t := s + 1) (fun k hk => ehi k hk s hs a) (h4 (s + 1) (by omega))
  · rw [delR_7 hs]
    by_cases a : s < p
    · rw [if_pos a, elo 0 (by decide) s hs a]
      rcases h5 s (by omega) with ⟨c1, c2⟩ | ⟨c1, o, c2, c3, c4⟩
      · exact Or.inl ⟨by rw [show RF U 7 s = -1 from c1, dec_m1 (by omega)], c2⟩
      · refine Or.inr ⟨c1, o, c2, by rw [show RF U 7 s = nI o from c3, dec_lo (by omega) (by omega)], ?_⟩
        rw [elo 0 (by decide) o (by omega) (by omega)]; exact c4
    · rw [if_neg a, ehi 0 (by decide) s hs a]
      rcases h5 (s + 1) (by omega) with ⟨c1, c2⟩ | ⟨c1, o, c2, c3, c4⟩
      · exact Or.inl ⟨by rw [show RF U 7 (s + 1) = -1 from c1, dec_m1 (by omega)], c2⟩
      · have hop : o ≠ p := fun q => hno (s + 1) (by omega) (by rw [← q]; exact c3)
        by_cases q : o < p
        · refine Or.inr ⟨c1, o, by omega, by rw [show RF U 7 (s + 1) = nI o from c3, dec_lo (by omega) (by omega)], ?_⟩
          rw [elo 0 (by decide) o (by omega) q]; exact c4
        · refine Or.inr ⟨c1, o - 1, by omega, by rw [show RF U 7 (s + 1) = nI o from c3, dec_hi (by omega) (by omega)], ?_⟩
          rw [ehi 0 (by decide) (o - 1) (by omega) (by omega), show o - 1 + 1 = o by omega]; exact c4
  · have ek : ∀ s, s < n → keyT (zF (delR U n p 201)) s = if s < p then keyT (RF U) s else keyT (RF U) (s + 1) := fun s hs => by
      unfold keyT
      rw [e 2 (by decide) s hs, e 3 (by decide) s hs]
      by_cases a : s < p
      · rw [if_pos a, if_pos a, if_pos a]
      · rw [if_neg a, if_neg a, if_neg a]
    have hs6 := fun a b (q : a < b) (r : b < n + 1) => h6 a b q r
    have e0 : keyT (zF (U 201)) = keyT (RF U) := rfl
    rw [e0] at hs6
    rw [ek s (by omega), ek t ht]
    by_cases a : s < p
    · rw [if_pos a]
      by_cases b : t < p
      · rw [if_pos b]; exact hs6 s t hst (by omega)
      · rw [if_neg b]; exact hs6 s (t + 1) (by omega) (by omega)
    · rw [if_neg a, if_neg (by omega)]; exact hs6 (s + 1) (t + 1) (by omega) (by omega)
