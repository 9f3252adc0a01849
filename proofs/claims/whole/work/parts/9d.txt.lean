-- texts: the class's reading by descent and the reference's reading sign by sign
def FinB (W : VV) : Bool := cmB W (toN (W 200 15)) (toN (W 200 13))
/-- the reading from a on stops at p, and the text isn't whole -/
def Fl (l : Nat) (M : VV) (a p : Nat) : Prop := (rtP (l - a) M a).1 = p ∧ (p = l → FinB (rtP (l - a) M a).2 = false)
def St (M : VV) (t s : Nat) : Prop := M 200 15 = nI t ∧ M 200 13 = nI s
/-- the reading from a on is that of M2 from b on -/
def Nx (l : Nat) (M : VV) (a : Nat) (M2 : VV) (b t s : Nat) : Prop := rtP (l - a) M a = rtP (l - b) M2 b ∧ St M2 t s ∧ Sau M M2 ∧ b ≤ l
theorem fl_nx {l a b p t s : Nat} {M M2 : VV} (h : Nx l M a M2 b t s) (h2 : Fl l M2 b p) : Fl l M a p := by
  unfold Fl; rw [h.1]; exact h2
theorem nx_t {l a b c t s t2 s2 : Nat} {M M2 M3 : VV} (h : Nx l M a M2 b t s) (h2 : Nx l M2 b M3 c t2 s2) : Nx l M a M3 c t2 s2 := ⟨h.1.trans h2.1, h2.2.1, sau_t h.2.2.1 h2.2.2.1, h2.2.2.2⟩
theorem tk_s {M : VV} {t s : Nat} {c : Int32} (h : St M t s) (ht : t ≤ 1000) (hs : s ≤ 1000) : tkS M c = tkP M t s c := by
  unfold tkS; rw [h.1, h.2, toN_nI (by omega), toN_nI (by omega)]
theorem nx_step {l a t s t2 s2 : Nat} {M : VV} (h : St M t s) (ht : t ≤ 1000) (hs : s ≤ 1000) (ha : a < l) (hg : (tkP M t s (M 203 a)).1 = true) (h2 : St (tkP M t s (M 203 a)).2 t2 s2) : Nx l M a (tkP M t s (M 203 a)).2 (a + 1) t2 s2 := by
  refine ⟨?_, h2, sau_tk, ha⟩
  rw [show l - a = (l - (a + 1)) + 1 by omega, rtP, tk_s h ht hs, if_pos hg]
theorem fl_rej {l a t s : Nat} {M : VV} (h : St M t s) (ht : t ≤ 1000) (hs : s ≤ 1000) (ha : a < l) (hg : (tkP M t s (M 203 a)).1 = false) : Fl l M a a := by
  unfold Fl
  rw [show l - a = (l - (a + 1)) + 1 by omega, rtP, tk_s h ht hs, if_neg (by rw [hg]; decide)]
  exact ⟨rfl, fun z => by omega⟩
theorem fin_s {M : VV} {t s : Nat} (h : St M t s) (ht : t ≤ 1000) (hs : s ≤ 1000) : FinB M = cmB M t s := by
  unfold FinB; rw [h.1, h.2, toN_nI (by omega), toN_nI (by omega)]
theorem fl_at {l a t s : Nat} {M : VV} (h : St M t s) (ht : t ≤ 1000) (hs : s ≤ 1000) (ha : a ≤ l) (hg : a < l → (tkP M t s (M 203 a)).1 = false) (hf : cmB M t s = false) : Fl l M a a := by
  rcases Nat.lt_or_ge a l with q | q
  · exact fl_rej h ht hs q (hg q)
  · have : a = l := by omega
    subst this
    unfold Fl
    rw [Nat.sub_self]
    exact ⟨rfl, fun _ => (fin_s h ht hs).trans hf⟩
/-- the class's signs are the reference's -/
def Ch (V M : VV) (l : Nat) : Prop := ∀ i, i < l → V 4 i = M 203 i
theorem ch_s {V M M2 : VV} {l : Nat} (h : Ch V M l) (hs : Sau M M2) : Ch V M2 l := fun i hi => (h i hi).trans (congrFun (hs.2 203 (by decide) (by decide)) i).symm
theorem dig_eq {c : Int32} {k : Nat} (hk : k ≤ 9) : withinB (c - 48) 0 (nI k) = withinB c 48 (48 + nI k) := by
  have e48 : (48 : Int32).toInt = 48 := rfl
  have ek : (nI k).toInt = k := t_nat (by omega)
  have e1 : (48 + nI k).toInt = 48 + k := by rw [t_add (by omega) (by omega), e48, ek]
  have key : withinB (c - 48) 0 (nI k) = true ↔ withinB c 48 (48 + nI k) = true := by
    unfold withinB
    rw [Bool.and_eq_true, Bool.and_eq_true, decide_eq_true_eq, decide_eq_true_eq, decide_eq_true_eq, decide_eq_true_eq, t_le, t_le, t_le, t_le, e1, ek, e48, t_0, Int32.toInt_sub, e48]
    have h1 := Int32.toInt_lt c
    have h2 := Int32.le_toInt c
    rcases (show c.toInt - 48 < -2147483648 ∨ -2147483648 ≤ c.toInt - 48 by omega) with q | q
    · have : (c.toInt - 48).bmod (2 ^ 32) = c.toInt - 48 + 4294967296 := by
        rw [Int.bmod_def]
        have : (c.toInt - 48) % ((2 ^ 32 : Nat) : Int) = c.toInt - 48 + 4294967296 := by
          have e : ((2 ^ 32 : Nat) : Int) = 4294967296 := by decide
          rw [e]; omega
        rw [this]
        split
        · rfl
        · rename_i z; exact absurd (by omega) z
      rw [this]
      omega
    · rw [t_bm q (by omega)]
      omega
  cases h1 : withinB (c - 48) 0 (nI k) <;> cases h2 : withinB c 48 (48 + nI k) <;> simp_all
theorem dg_eq {V M : VV} {l a k : Nat} (hc : Ch V M l) (hk : k ≤ 9) (ha : a < l) : dgB V l a (nI k) = withinB (M 203 a) 48 (48 + nI k) := by
  unfold dgB
  rw [decide_eq_true ha, Bool.true_and, hc a ha, dig_eq hk]
theorem sg_eq {V M : VV} {l a : Nat} {s : Int32} (hc : Ch V M l) (ha : a < l) : sgB V l a s = decide (M 203 a = s) := by
  unfold sgB
  rw [decide_eq_true ha, Bool.true_and, hc a ha]
theorem st_go {V1 : VV} {t s : Nat} (h : V1 200 15 = nI t) : St (goV V1 true (nI s)) t s := ⟨goV_15.trans h, up_ss⟩
section
variable {V M : VV} {l a t : Nat}
/-- one digit, in the states 1 and 3 -/
theorem go_d {s w m nx : Nat} (hc : Ch V M l) (h : St M t s) (ht : t ≤ 1000) (hs : s ≤ 1000) (ha : a ≤ l) (hm : m ≤ 9) (htk : ∀ c, tkP M t s c = (withinB c 48 (48 + nI m), tdV M t c w (nI m) (nI nx))) (hf : cmB M t s = false) :
    (dgB V l a (nI m) = false → Fl l M a a) ∧ (dgB V l a (nI m) = true → ∃ M2, Nx l M a M2 (a + 1) t nx ∧ M2 209 (6 * t + w) = V 4 a - 48 ∧ ∀ j, j ≠ 6 * t + w → M2 209 j = M 209 j) := by
  refine ⟨fun q => fl_at h ht hs ha (fun hal => ?_) hf, fun q => ?_⟩
  · rw [htk]
    show withinB (M 203 a) 48 (48 + nI m) = false
    rw [← dg_eq hc hm hal]; exact q
  · have hal := dg_lt q
    rw [dg_eq hc hm hal] at q
    refine ⟨_, nx_step (s2 := nx) (t2 := t) h ht hs hal (by rw [htk]; exact q) ?_, ?_, fun j hj => ?_⟩
    · rw [htk]; show St (tdV M t (M 203 a) w (nI m) (nI nx)) t nx
      unfold tdV; rw [q]; exact st_go ((up_no (by decide)).trans h.1)
    · rw [htk]; show (tdV M t (M 203 a) w (nI m) (nI nx)) 209 _ = _
      unfold tdV; rw [goV_9, up_ss, hc a hal]
    · rw [htk]; show (tdV M t (M 203 a) w (nI m) (nI nx)) 209 j = _
      unfold tdV; rw [goV_9, up_nk hj]
/-- one sign that must come, in the states 2 and 4 -/
theorem go_s {s nx : Nat} {x : Int32} (hc : Ch V M l) (h : St M t s) (ht : t ≤ 1000) (hs : s ≤ 1000) (ha : a ≤ l) (htk : ∀ c, tkP M t s c = (decide (c = x), goV M (decide (c = x)) (nI nx))) (hf : cmB M t s = false) :
    (sgB V l a x = false → Fl l M a a) ∧ (sgB V l a x = true → ∃ M2, Nx l M a M2 (a + 1) t nx ∧ ∀ j, M2 209 j = M 209 j) := by
  refine ⟨fun q => fl_at h ht hs ha (fun hal => ?_) hf, fun q => ?_⟩
  · rw [htk]
    show decide (M 203 a = x) = false
    rw [← sg_eq hc hal]; exact q
  · have hal := sg_lt q
    rw [sg_eq hc hal] at q
    refine ⟨_, nx_step (s2 := nx) (t2 := t) h ht hs hal (by rw [htk]; exact q) ?_, fun j => ?_⟩
    · rw [htk]; show St (goV M (decide (M 203 a = x)) (nI nx)) t nx
      rw [q]; exact st_go h.1
    · rw [htk]; show goV M (decide (M 203 a = x)) (nI nx) 209 j = M 209 j; exact goV_9
theorem tk_1x {q : Nat} (hq : q < 4) (c : Int32) : tkP M t (10 + q) c = (withinB c 48 57, bnV M t c q) := by
  unfold tkP
  rw [if_neg (by omega), if_neg (by omega), if_neg (by omega), if_neg (by omega), if_neg (by omega), if_pos (by omega), show 10 + q - 10 = q by omega]
theorem tk_2x {q : Nat} (c : Int32) : tkP M t (20 + q) c = gnP M t c q := by
  unfold tkP
  rw [if_neg (by omega), if_neg (by omega), if_neg (by omega), if_neg (by omega), if_neg (by omega), if_neg (by omega), show 20 + q - 20 = q by omega]
/-- no digit more -/
def En (l : Nat) (M : VV) (t q a : Nat) : Prop := a < l → withinB (M 203 a) 48 57 = true → gdB M t q = false
theorem nd_p {c : Int32} {q : Nat} (h : gdB M t q = true) : ndV M t c q 209 (6 * t + pcN q) = 10 * M 209 (6 * t + pcN q) + c - 48 := by
  unfold ndV
  rw [up_no (by decide), up_ss, if_pos h]
end
/-- the digits behind the first -/
theorem go_n2 {V : VV} {l t q : Nat} (ht : t ≤ 1000) (hq : q < 4) : ∀ {k : Nat} {M : VV} {a : Nat} {v : Int32}, k ≤ 3 → Ch V M l → St M t (20 + q) → M 200 14 = nI (4 - k) → M 209 (6 * t + pcN q) = v → a ≤ l →
    ∃ M2, Nx l M a M2 (nmL V l k v a).2 t (20 + q) ∧ M2 209 (6 * t + pcN q) = (nmL V l k v a).1 ∧ (∀ j, j ≠ 6 * t + pcN q → M2 209 j = M 209 j) ∧ En l M2 t q (nmL V l k v a).2
  | 0, M, a, v, _, hc, h, hn, hv, ha => ⟨M, ⟨rfl, h, sau_r, ha⟩, hv, fun _ _ => rfl, fun _ _ => gd_3 (by rw [hn]; decide)⟩
  | k + 1, M, a, v, hk, hc, h, hn, hv, ha => by
    have h4 : M 200 14 < 4 := by rw [hn, t_lt, t_nat (by omega)]; show ((4 - (k + 1) : Nat) : Int) < 4; omega
    unfold nmL
    by_cases c : 0 < v ∧ dgB V l a 9 = true
    · rw [if_pos c]
      have hal := dg_lt c.2
      have hd := dg_eq (k := 9) hc (by decide) hal
      have hd2 : withinB (M 203 a) 48 57 = true := by
        have := c.2; rw [show (9 : Int32) = nI 9 from rfl, hd] at this; exact this
      have hg : gdB M t q = true := gd_1 (by rw [hv]; exact c.1) h4
      have htk : tkP M t (20 + q) (M 203 a) = (gdB M t q, ndV M t (M 203 a) q) := by rw [tk_2x, gn_w hd2]
      have hst : St (ndV M t (M 203 a) q) t (20 + q) := ⟨((up_nk (by decide)).trans (up_no (by decide))).trans h.1, ((up_nk (by decide)).trans (up_no (by decide))).trans h.2⟩
      have hnx := nx_step (l := l) (t2 := t) (s2 := 20 + q) h ht (by omega) hal (by rw [htk]; exact hg) (by rw [htk]; exact hst)
      rw [htk] at hnx
      have hv2 : ndV M t (M 203 a) q 209 (6 * t + pcN q) = 10 * v + (V 4 a - 48) := by
        rw [nd_p hg, hv, hc a hal, Int32.sub_eq_add_neg, Int32.sub_eq_add_neg, Int32.add_assoc]
      have hn2 : ndV M t (M 203 a) q 200 14 = nI (4 - k) := by
        unfold ndV; rw [up_ss, hn, hg]
        rw [show b2i true = nI 1 from rfl, nI_add, show 4 - (k + 1) + 1 = 4 - k by omega]
      obtain ⟨M2, i1, i2, i3, i4⟩ := go_n2 ht hq (k := k) (M := ndV M t (M 203 a) q) (a := a + 1) (by omega) (ch_s hc hnx.2.2.1) hst hn2 hv2 hal
      refine ⟨M2, nx_t hnx i1, i2, fun j hj => (i3 j hj).trans ?_, i4⟩
      unfold ndV
      rw [up_no (by decide), up_nk hj]
    · rw [if_neg c]
      refine ⟨M, ⟨rfl, h, sau_r, ha⟩, hv, fun _ _ => rfl, fun hal hd => ?_⟩
      refine gd_2 (fun z => c ⟨by rw [← hv]; exact z, ?_⟩)
      rw [show (9 : Int32) = nI 9 from rfl, dg_eq hc (by decide) hal]
      exact hd
/-- a number -/
theorem go_n {V M : VV} {l a t q : Nat} {x : Int32} (hc : Ch V M l) (ht : t ≤ 1000) (hq : q < 4) (h : St M t (10 + q)) (ha : a ≤ l) :
    ((nmP V l a x).1 = false → Fl l M a a ∧ (nmP V l a x).2.1 = a) ∧ ((nmP V l a x).1 = true → ∃ M2, Nx l M a M2 (nmP V l a x).2.1 t (20 + q) ∧ M2 209 (6 * t + pcN q) = (nmP V l a x).2.2 ∧ (∀ j, j ≠ 6 * t + pcN q → M2 209 j = M 209 j) ∧ En l M2 t q (nmP V l a x).2.1) := by
  cases hd : dgB V l a 9 with
  | false =>
    rw [nmP_f hd]
    refine ⟨fun _ => ⟨fl_at h ht (by omega) ha (fun hal => ?_) (cm_f2 (by omega) (by omega) (by omega)), rfl⟩, fun z => (by cases z)⟩
    rw [tk_1x hq]
    show withinB (M 203 a) 48 57 = false
    rw [show (9 : Int32) = nI 9 from rfl, dg_eq hc (by decide) hal] at hd
    exact hd
  | true =>
    rw [nmP_t hd]
    refine ⟨fun z => (by cases z), fun _ => ?_⟩
    have hal := dg_lt hd
    have hd2 : withinB (M 203 a) 48 57 = true := by
      rw [show (9 : Int32) = nI 9 from rfl, dg_eq hc (by decide) hal] at hd; exact hd
    have htk := tk_1x (M := M) (t := t) hq (M 203 a)
    have hst : St (bnV M t (M 203 a) q) t (20 + q) := by
      unfold bnV; rw [hd2]
      exact st_go ((up_nk (by decide)).trans ((up_no (by decide)).trans h.1))
    have hnx := nx_step (l := l) (t2 := t) (s2 := 20 + q) h ht (by omega) hal (by rw [htk]; exact hd2) (by rw [htk]; exact hst)
    rw [htk] at hnx
    have hg : ∀ j, bnV M t (M 203 a) q 209 j = up M 209 (6 * t + pcN q) (M 203 a - 48) 209 j := fun j => by
      unfold bnV; rw [goV_9, up_no (by decide)]
    have hn : bnV M t (M 203 a) q 200 14 = nI (4 - 3) := by
      unfold bnV goV; rw [up_nk (by decide), up_ss]; rfl
    obtain ⟨M2, i1, i2, i3, i4⟩ := go_n2 (V := V) ht hq (k := 3) (M := bnV M t (M 203 a) q) (a := a + 1) (v := V 4 a - 48) (by decide) (ch_s hc hnx.2.2.1) hst hn (by rw [hg, up_ss, hc a hal]) hal
    exact ⟨M2, nx_t hnx i1, i2, fun j hj => (i3 j hj).trans ((hg j).trans (up_nk hj)), i4⟩
section
variable {V M : VV} {l a t : Nat}
/-- the sign behind a number -/
theorem go_g {q nx : Nat} {x : Int32} (hc : Ch V M l) (h : St M t (20 + q)) (ht : t ≤ 1000) (hq : q < 4) (ha : a ≤ l) (hE : En l M t q a) (htk : ∀ c, withinB c 48 57 = false → gnP M t c q = (decide (c = x), goV M (decide (c = x)) (nI nx))) (hx : withinB x 48 57 = false) (hf : cmB M t (20 + q) = false) :
    (sgB V l a x = false → Fl l M a a) ∧ (sgB V l a x = true → ∃ M2, Nx l M a M2 (a + 1) t nx ∧ ∀ j, M2 209 j = M 209 j) := by
  refine ⟨fun w => fl_at h ht (by omega) ha (fun hal => ?_) hf, fun w => ?_⟩
  · rw [tk_2x]
    cases hd : withinB (M 203 a) 48 57 with
    | true => rw [gn_w hd]; exact hE hal hd
    | false =>
      rw [htk _ hd]
      show decide (M 203 a = x) = false
      rw [← sg_eq hc hal]; exact w
  · have hal := sg_lt w
    rw [sg_eq hc hal] at w
    have ex : M 203 a = x := of_decide_eq_true w
    have hd : withinB (M 203 a) 48 57 = false := by rw [ex]; exact hx
    refine ⟨_, nx_step (s2 := nx) (t2 := t) h ht (by omega) hal (by rw [tk_2x, htk _ hd]; exact w) ?_, fun j => ?_⟩
    · rw [tk_2x, htk _ hd]; show St (goV M (decide (M 203 a = x)) (nI nx)) t nx
      rw [w]; exact st_go h.1
    · rw [tk_2x, htk _ hd]; show goV M (decide (M 203 a = x)) (nI nx) 209 j = M 209 j; exact goV_9
/-- a show is read: the end of the text or a semicolon must come -/
def Dn (l : Nat) (M : VV) (t a : Nat) : Prop := ∃ s, St M t s ∧ s ≤ 30 ∧ cmB M t s = true ∧ (a < l → (tkP M t s (M 203 a)).1 = decide (M 203 a = 59) ∧ (M 203 a = 59 → (tkP M t s (M 203 a)).2 = enV M t 59))
theorem dn_of {q : Nat} (h : St M t (20 + q)) (hq : q < 4) (hE : En l M t q a) (htk : a < l → withinB (M 203 a) 48 57 = false → gnP M t (M 203 a) q = (decide (M 203 a = 59), enV M t (M 203 a))) (hf : cmB M t (20 + q) = true) : Dn l M t a := by
  refine ⟨20 + q, h, by omega, hf, fun hal => ?_⟩
  rw [tk_2x]
  cases hd : withinB (M 203 a) 48 57 with
  | true =>
    have hne : ¬ M 203 a = 59 := fun z => by rw [z] at hd; exact absurd hd (by decide)
    rw [gn_w hd]
    exact ⟨(hE hal hd).trans (decide_eq_false hne).symm, fun z => absurd z hne⟩
  | false =>
    rw [htk hal hd]
    exact ⟨rfl, fun z => by rw [z]⟩
/-- what the class has read is what the reference has -/
def PrR (V2 V M2 : VV) (t : Nat) : Prop := (M2 209 (6 * t) = 2 ∧ withinB (M2 209 (6 * t + 2)) 0 6 = true ∧ V2 = becomeV V 2 0 (M2 209 (6 * t + 2)) (M2 209 (6 * t + 3)) 0 0 (M2 209 (6 * t + 1))) ∨
  ((M2 209 (6 * t) = 0 ∨ M2 209 (6 * t) = 1) ∧ V2 = becomeV V (M2 209 (6 * t)) (M2 209 (6 * t + 1)) (M2 209 (6 * t + 2)) (M2 209 (6 * t + 3)) (M2 209 (6 * t + 4)) (M2 209 (6 * t + 5)) (-1))
/-- behind a show that was read -/
def Rd (l : Nat) (V M : VV) (a t : Nat) (V2 : VV) (b : Nat) : Prop := ∃ M2, rtP (l - a) M a = rtP (l - b) M2 b ∧ Sau M M2 ∧ b ≤ l ∧ a ≤ b ∧ Dn l M2 t b ∧ (∀ j, j < 6 * t → M2 209 j = M 209 j) ∧ PrR V2 V M2 t
theorem nmP_ge {x : Int32} : a ≤ (nmP V l a x).2.1 := by
  have key : ∀ k v b, b ≤ (nmL V l k v b).2 := fun k => by
    induction k with
    | zero => exact fun v b => Nat.le_refl b
    | succ k ih =>
      intro v b
      unfold nmL
      split
      · have := ih (10 * v + (V 4 b - 48)) (b + 1); omega
      · exact Nat.le_refl b
  unfold nmP
  split
  · have := key 3 (V 4 a - 48) (a + 1)
    show a ≤ (nmL V l 3 (V 4 a - 48) (a + 1)).2
    omega
  · exact Nat.le_refl a
theorem rep_go {x : Int32} (hc : Ch V M l) (h : St M t 10) (ht : t ≤ 100) (ha : a ≤ l) (hk : M 209 (6 * t) = 2) :
    ((repTx V l a x).1 = false → Fl l M a (repTx V l a x).2.2.1) ∧ ((repTx V l a x).1 = true → Rd l V M a t (repTx V l a x).2.1 (repTx V l a x).2.2.1) := by
  have g1 := go_n (x := x) hc (by omega : t ≤ 1000) (q := 0) (by decide) h ha
  have w1 := nmP_ge (V := V) (l := l) (a := a) (x := x)
  unfold repTx
  cases c1 : (nmP V l a x).1 with
  | false =>
    rw [if_pos rfl]
    refine ⟨fun _ => ?_, fun z => (by cases z)⟩
    have := g1.1 c1
    show Fl l M a (nmP V l a x).2.1
    rw [this.2]; exact this.1
  | true =>
    rw [if_neg (by decide)]
    obtain ⟨M1, n1, f1, e1, E1⟩ := g1.2 c1
    generalize (nmP V l a x).2.1 = b1 at *
    generalize (nmP V l a x).2.2 = v1 at *
    have hc1 := ch_s hc n1.2.2.1
    have g2 := go_g (x := 46) (nx := 3) hc1 n1.2.1 (by omega) (by decide) n1.2.2.2 E1 (fun c hd => gn_0 hd) (by decide) (cm_f2 (by decide) (by decide) (by decide))
    cases c2 : sgB V l b1 46 with
    | false =>
      rw [if_pos rfl]
      exact ⟨fun _ => fl_nx n1 (g2.1 c2), fun z => (by cases z)⟩
    | true =>
      rw [if_neg (by decide)]
      obtain ⟨M2, n2, f2⟩ := g2.2 c2
      have hc2 := ch_s hc1 n2.2.2.1
      have g3 := go_d (w := 2) (m := 6) (nx := 4) hc2 n2.2.1 (by omega) (by decide) n2.2.2.2 (by decide) (fun c => rfl) (cm_f2 (by decide) (by decide) (by decide))
      have n12 := nx_t n1 n2
      cases c3 : dgB V l (b1 + 1) 6 with
      | false =>
        rw [if_pos rfl]
        exact ⟨fun _ => fl_nx n12 (g3.1 c3), fun z => (by cases z)⟩
      | true =>
        rw [if_neg (by decide)]
        obtain ⟨M3, n3, f3, e3⟩ := g3.2 c3
        have hc3 := ch_s hc2 n3.2.2.1
        have n13 := nx_t n12 n3
        have g4 := go_s (x := 64) (nx := 11) hc3 n3.2.1 (by omega) (by decide) n3.2.2.2 (fun c => rfl) (cm_f2 (by decide) (by decide) (by decide))
        cases c4 : sgB V l (b1 + 2) 64 with
        | false =>
          rw [if_pos rfl]
          exact ⟨fun _ => fl_nx n13 (g4.1 c4), fun z => (by cases z)⟩
        | true =>
          rw [if_neg (by decide)]
          obtain ⟨M4, n4, f4⟩ := g4.2 c4
          have hc4 := ch_s hc3 n4.2.2.1
          have n14 := nx_t n13 n4
          have g5 := go_n (x := V 4 (b1 + 1) - 48) hc4 (by omega : t ≤ 1000) (q := 1) (by decide) n4.2.1 n4.2.2.2
          have w5 := nmP_ge (V := V) (l := l) (a := b1 + 3) (x := V 4 (b1 + 1) - 48)
          cases c5 : (nmP V l (b1 + 3) (V 4 (b1 + 1) - 48)).1 with
          | false =>
            rw [if_pos rfl]
            refine ⟨fun _ => ?_, fun z => (by cases z)⟩
            have := g5.1 c5
            show Fl l M a (nmP V l (b1 + 3) (V 4 (b1 + 1) - 48)).2.1
            rw [this.2]; exact fl_nx n14 this.1
          | true =>
            rw [if_neg (by decide)]
            refine ⟨fun z => (by cases z), fun _ => ?_⟩
            obtain ⟨M5, n5, f5, e5, E5⟩ := g5.2 c5
            have n15 := nx_t n14 n5
            have p1 : pcN 0 = 1 := rfl
            have p3 : pcN 1 = 3 := rfl
            rw [p3] at f5 e5
            rw [p1] at f1 e1
            have k5 : M5 209 (6 * t) = 2 := by rw [e5 _ (by omega), f4, e3 _ (by omega), f2, e1 _ (by omega)]; exact hk
            refine ⟨M5, n15.1, n15.2.2.1, n15.2.2.2, by show a ≤ (nmP V l (b1 + 3) (V 4 (b1 + 1) - 48)).2.1; omega, dn_of n5.2.1 (by decide) E5 (fun _ hd => gn_1a hd k5) (cm_t1 rfl k5), fun j hj => ?_, Or.inl ⟨k5, ?_, ?_⟩⟩
            · rw [e5 _ (by omega), f4, e3 _ (by omega), f2, e1 _ (by omega)]
            · rw [e5 (6 * t + 2) (by omega), f4, f3]
              unfold dgB at c3
              exact (Bool.and_eq_true_iff.mp c3).2
            · show becomeV V 2 0 (V 4 (b1 + 1) - 48) _ 0 0 v1 = _
              rw [f5, e5 (6 * t + 2) (by omega), f4, f3, e5 (6 * t + 1) (by omega), f4, e3 (6 * t + 1) (by omega), f2, f1]
theorem own_go {x k : Int32} (hc : Ch V M l) (h : St M t 1) (ht : t ≤ 100) (ha : a ≤ l) (hk : M 209 (6 * t) = k) (hk2 : k = 0 ∨ k = 1) (h5 : M 209 (6 * t + 5) = 0) :
    ((ownT V l k a x).1 = false → Fl l M a (ownT V l k a x).2.2.1) ∧ ((ownT V l k a x).1 = true → Rd l V M a t (ownT V l k a x).2.1 (ownT V l k a x).2.2.1) := by
  have p3 : pcN 1 = 3 := rfl
  have p4 : pcN 2 = 4 := rfl
  have p5 : pcN 3 = 5 := rfl
  have hkn : ¬ k = 2 := by rcases hk2 with e | e <;> rw [e] <;> decide
  have g0 := go_d (w := 1) (m := 5) (nx := 2) hc h (by omega) (by decide) ha (by decide) (fun c => rfl) (cm_f2 (by decide) (by decide) (by decide))
  unfold ownT
  cases c0 : dgB V l a 5 with
  | false =>
    rw [if_pos rfl]
    exact ⟨fun _ => g0.1 c0, fun z => (by cases z)⟩
  | true =>
  rw [if_neg (by decide)]
  obtain ⟨M0, n0, f0, e0⟩ := g0.2 c0
  have hc0 := ch_s hc n0.2.2.1
  have g1 := go_s (x := 46) (nx := 3) hc0 n0.2.1 (by omega) (by decide) n0.2.2.2 (fun c => rfl) (cm_f2 (by decide) (by decide) (by decide))
  cases c1 : sgB V l (a + 1) 46 with
  | false =>
    rw [if_pos rfl]
    exact ⟨fun _ => fl_nx n0 (g1.1 c1), fun z => (by cases z)⟩
  | true =>
  rw [if_neg (by decide)]
  obtain ⟨M1, n1, f1⟩ := g1.2 c1
  have hc1 := ch_s hc0 n1.2.2.1
  have n01 := nx_t n0 n1
  have g2 := go_d (w := 2) (m := 6) (nx := 4) hc1 n1.2.1 (by omega) (by decide) n1.2.2.2 (by decide) (fun c => rfl) (cm_f2 (by decide) (by decide) (by decide))
  cases c2 : dgB V l (a + 2) 6 with
  | false =>
    rw [if_pos rfl]
    exact ⟨fun _ => fl_nx n01 (g2.1 c2), fun z => (by cases z)⟩
  | true =>
  rw [if_neg (by decide)]
  obtain ⟨M2, n2, f2, e2⟩ := g2.2 c2
  have hc2 := ch_s hc1 n2.2.2.1
  have n02 := nx_t n01 n2
  have g3 := go_s (x := 64) (nx := 11) hc2 n2.2.1 (by omega) (by decide) n2.2.2.2 (fun c => rfl) (cm_f2 (by decide) (by decide) (by decide))
  cases c3 : sgB V l (a + 3) 64 with
  | false =>
    rw [if_pos rfl]
    exact ⟨fun _ => fl_nx n02 (g3.1 c3), fun z => (by cases z)⟩
  | true =>
  rw [if_neg (by decide)]
  obtain ⟨M3, n3, f3⟩ := g3.2 c3
  have hc3 := ch_s hc2 n3.2.2.1
  have n03 := nx_t n02 n3
  have g4 := go_n (x := V 4 (a + 2) - 48) hc3 (by omega : t ≤ 1000) (q := 1) (by decide) n3.2.1 n3.2.2.2
  have w4 := nmP_ge (V := V) (l := l) (a := a + 4) (x := V 4 (a + 2) - 48)
  cases c4 : (nmP V l (a + 4) (V 4 (a + 2) - 48)).1 with
  | false =>
    rw [if_pos rfl]
    refine ⟨fun _ => ?_, fun z => (by cases z)⟩
    have := g4.1 c4
    show Fl l M a (nmP V l (a + 4) (V 4 (a + 2) - 48)).2.1
    rw [this.2]; exact fl_nx n03 this.1
  | true =>
  rw [if_neg (by decide)]
  obtain ⟨M4, n4, f4, e4, E4⟩ := g4.2 c4
  have hc4 := ch_s hc3 n4.2.2.1
  have n04 := nx_t n03 n4
  generalize (nmP V l (a + 4) (V 4 (a + 2) - 48)).2.1 = b4 at *
  generalize (nmP V l (a + 4) (V 4 (a + 2) - 48)).2.2 = v4 at *
  rw [p3] at f4 e4
  have k4 : M4 209 (6 * t) = k := by rw [e4 _ (by omega), f3, e2 _ (by omega), f1, e0 _ (by omega)]; exact hk
  have g5 := go_g (x := 43) (nx := 12) hc4 n4.2.1 (by omega) (by decide) n4.2.2.2 E4 (fun c hd => gn_1b hd (by rw [k4]; exact hkn)) (by decide) (cm_f1 rfl (by rw [k4]; exact hkn))
  cases c5 : sgB V l b4 43 with
  | false =>
    rw [if_pos rfl]
    exact ⟨fun _ => fl_nx n04 (g5.1 c5), fun z => (by cases z)⟩
  | true =>
  rw [if_neg (by decide)]
  obtain ⟨M5, n5, f5⟩ := g5.2 c5
  have hc5 := ch_s hc4 n5.2.2.1
  have n05 := nx_t n04 n5
  have g6 := go_n (x := v4) hc5 (by omega : t ≤ 1000) (q := 2) (by decide) n5.2.1 n5.2.2.2
  have w6 := nmP_ge (V := V) (l := l) (a := b4 + 1) (x := v4)
  cases c6 : (nmP V l (b4 + 1) v4).1 with
  | false =>
    rw [if_pos rfl]
    refine ⟨fun _ => ?_, fun z => (by cases z)⟩
    have := g6.1 c6
    show Fl l M a (nmP V l (b4 + 1) v4).2.1
    rw [this.2]; exact fl_nx n05 this.1
  | true =>
  rw [if_neg (by decide)]
  obtain ⟨M6, n6, f6, e6, E6⟩ := g6.2 c6
  have hc6 := ch_s hc5 n6.2.2.1
  have n06 := nx_t n05 n6
  generalize (nmP V l (b4 + 1) v4).2.1 = b6 at *
  generalize (nmP V l (b4 + 1) v4).2.2 = v6 at *
  rw [p4] at f6 e6
  have q0 : M6 209 (6 * t) = k := by rw [e6 _ (by omega), f5]; exact k4
  have q1 : M6 209 (6 * t + 1) = V 4 a - 48 := by rw [e6 _ (by omega), f5, e4 _ (by omega), f3, e2 _ (by omega), f1, f0]
  have q2 : M6 209 (6 * t + 2) = V 4 (a + 2) - 48 := by rw [e6 _ (by omega), f5, e4 _ (by omega), f3, f2]
  have q3 : M6 209 (6 * t + 3) = v4 := by rw [e6 _ (by omega), f5, f4]
  have q5 : M6 209 (6 * t + 5) = 0 := by rw [e6 _ (by omega), f5, e4 _ (by omega), f3, e2 _ (by omega), f1, e0 _ (by omega)]; exact h5
  have ql : ∀ j, j < 6 * t → M6 209 j = M 209 j := fun j hj => by rw [e6 _ (by omega), f5, e4 _ (by omega), f3, e2 _ (by omega), f1, e0 _ (by omega)]
  have hk3 : M6 209 (6 * t) = 0 ∨ M6 209 (6 * t) = 1 := by rw [q0]; exact hk2
  cases c7 : sgB V l b6 58 with
  | false =>
    rw [if_pos rfl]
    refine ⟨fun z => (by cases z), fun _ => ⟨M6, n06.1, n06.2.2.1, n06.2.2.2, by show a ≤ b6; omega, dn_of n6.2.1 (by decide) E6 (fun hal hd => ?_) (cm_t2 rfl), ql, Or.inr ⟨hk3, ?_⟩⟩⟩
    · refine gn_2b hd (fun z => ?_)
      rw [sg_eq hc6 hal, z] at c7
      cases c7
    · show becomeV V k (V 4 a - 48) (V 4 (a + 2) - 48) v4 v6 0 (-1) = _
      rw [q0, q1, q2, q3, q5, f6]
  | true =>
  rw [if_neg (by decide)]
  have hal7 := sg_lt c7
  rw [sg_eq hc6 hal7] at c7
  have ex7 : M6 203 b6 = 58 := of_decide_eq_true c7
  have hd7 : withinB (M6 203 b6) 48 57 = false := by rw [ex7]; decide
  have htk7 : tkP M6 t (20 + 2) (M6 203 b6) = (true, goV M6 true 13) := by rw [tk_2x, gn_2a hd7 ex7]
  have n7 := nx_step (s2 := 13) (t2 := t) n6.2.1 (by omega) (by decide) hal7 (by rw [htk7]) (by rw [htk7]; exact st_go (s := 13) n6.2.1.1)
  rw [htk7] at n7
  have hc7 := ch_s hc6 n7.2.2.1
  have n07 := nx_t n06 n7
  have g8 := go_n (x := v6) hc7 (by omega : t ≤ 1000) (q := 3) (by decide) n7.2.1 n7.2.2.2
  have w8 := nmP_ge (V := V) (l := l) (a := b6 + 1) (x := v6)
  cases c8 : (nmP V l (b6 + 1) v6).1 with
  | false =>
    rw [if_pos rfl]
    refine ⟨fun _ => ?_, fun z => (by cases z)⟩
    have := g8.1 c8
    show Fl l M a (nmP V l (b6 + 1) v6).2.1
    rw [this.2]; exact fl_nx n07 this.1
  | true =>
  rw [if_neg (by decide)]
  obtain ⟨M8, n8, f8, e8, E8⟩ := g8.2 c8
  have n08 := nx_t n07 n8
  rw [p5] at f8 e8
  have r : ∀ j, j ≠ 6 * t + 5 → M8 209 j = M6 209 j := fun j hj => by rw [e8 j hj]; show goV M6 true 13 209 j = M6 209 j; exact goV_9
  refine ⟨fun z => (by cases z), fun _ => ⟨M8, n08.1, n08.2.2.1, n08.2.2.2, by show a ≤ (nmP V l (b6 + 1) v6).2.1; omega, dn_of n8.2.1 (by decide) E8 (fun hal hd => gn_3 hd) (cm_t3 rfl), fun j hj => by rw [r j (by omega)]; exact ql j hj, Or.inr ⟨by rw [r _ (by omega)]; exact hk3, ?_⟩⟩⟩
  show becomeV V k (V 4 a - 48) (V 4 (a + 2) - 48) v4 v6 (nmP V l (b6 + 1) v6).2.2 (-1) = _
  rw [r (6 * t) (by omega), r (6 * t + 1) (by omega), r (6 * t + 2) (by omega), r (6 * t + 3) (by omega), r (6 * t + 4) (by omega), f8, q0, q1, q2, q3, f6]
/-- one show -/
theorem sh_go {x : Int32} (hc : Ch V M l) (h : St M t 0) (ht : t ≤ 100) (ha : a ≤ l) :
    ((shT V l a x).1 = false → Fl l M a (shT V l a x).2.2.1) ∧ ((shT V l a x).1 = true → Rd l V M a t (shT V l a x).2.1 (shT V l a x).2.2.1 ∧ a < (shT V l a x).2.2.1) := by
  have hcm : cmB M t 0 = false := cm_f2 (by decide) (by decide) (by decide)
  have lift : ∀ (M1 : VV) (s : Nat) (r : Bool × VV × Nat × Int32), Nx l M a M1 (a + 1) t s → (∀ j, j < 6 * t → M1 209 j = M 209 j) → ((r.1 = false → Fl l M1 (a + 1) r.2.2.1) ∧ (r.1 = true → Rd l V M1 (a + 1) t r.2.1 r.2.2.1)) → ((r.1 = false → Fl l M a r.2.2.1) ∧ (r.1 = true → Rd l V M a t r.2.1 r.2.2.1 ∧ a < r.2.2.1)) := fun M1 s r hn h9 H => by
    refine ⟨fun z => fl_nx hn (H.1 z), fun z => ?_⟩
    obtain ⟨M2, r1, r2, r3, r4, r5, r6, r7⟩ := H.2 z
    exact ⟨⟨M2, hn.1.trans r1, sau_t hn.2.2.1 r2, r3, by omega, r5, fun j hj => (r6 j hj).trans (h9 j hj), r7⟩, by omega⟩
  have hb : ∀ c j, j ≠ 6 * t → j ≠ 6 * t + 5 → ∀ b y, goV (bg0 M t c) b y 209 j = M 209 j := fun c j h1 h2 b y => by
    rw [goV_9]; unfold bg0; rw [up_nk h2, up_nk (by omega)]
  have hb0 : ∀ c b y, goV (bg0 M t c) b y 209 (6 * t) = kdC c := fun c b y => by
    rw [goV_9]; unfold bg0; rw [up_nk (by omega)]; exact up_ss
  have hb5 : ∀ c b y, goV (bg0 M t c) b y 209 (6 * t + 5) = 0 := fun c b y => by
    rw [goV_9]; unfold bg0; exact up_ss
  have hst : ∀ c s, St (goV (bg0 M t c) true (nI s)) t s := fun c s => st_go (by unfold bg0; rw [up_no (by decide), up_no (by decide)]; exact h.1)
  have h0 : ∀ c, tkP M t 0 c = begP M t c := fun c => rfl
  unfold shT
  cases c1 : sgB V l a 76 with
  | true =>
    rw [if_pos rfl]
    have hal := sg_lt c1
    rw [sg_eq hc hal] at c1
    have ex := of_decide_eq_true c1
    have htk : tkP M t 0 (M 203 a) = (true, goV (bg0 M t 76) true 1) := by rw [h0, ex]; unfold begP; rw [if_neg (by decide)]; rfl
    have n1 := nx_step (s2 := 1) (t2 := t) h (by omega) (by decide) hal (by rw [htk]) (by rw [htk]; exact hst 76 1)
    rw [htk] at n1
    exact lift _ 1 _ n1 (fun j hj => hb 76 j (by omega) (by omega) true 1) (own_go (k := 0) (ch_s hc n1.2.2.1) n1.2.1 ht hal (hb0 76 true 1) (Or.inl rfl) (hb5 76 true 1))
  | false =>
  rw [if_neg (by decide)]
  cases c2 : sgB V l a 84 with
  | true =>
    rw [if_pos rfl]
    have hal := sg_lt c2
    rw [sg_eq hc hal] at c2
    have ex := of_decide_eq_true c2
    have htk : tkP M t 0 (M 203 a) = (true, goV (bg0 M t 84) true 1) := by rw [h0, ex]; unfold begP; rw [if_neg (by decide)]; rfl
    have n1 := nx_step (s2 := 1) (t2 := t) h (by omega) (by decide) hal (by rw [htk]) (by rw [htk]; exact hst 84 1)
    rw [htk] at n1
    exact lift _ 1 _ n1 (fun j hj => hb 84 j (by omega) (by omega) true 1) (own_go (k := 1) (ch_s hc n1.2.2.1) n1.2.1 ht hal (hb0 84 true 1) (Or.inr rfl) (hb5 84 true 1))
  | false =>
  rw [if_neg (by decide)]
  cases c3 : sgB V l a 82 with
  | true =>
    rw [if_pos rfl]
    have hal := sg_lt c3
    rw [sg_eq hc hal] at c3
    have ex := of_decide_eq_true c3
    have htk : tkP M t 0 (M 203 a) = (true, goV (bg0 M t 82) true 10) := by rw [h0, ex]; unfold begP; rw [if_pos rfl]
    have n1 := nx_step (s2 := 10) (t2 := t) h (by omega) (by decide) hal (by rw [htk]) (by rw [htk]; exact hst 82 10)
    rw [htk] at n1
    exact lift _ 10 _ n1 (fun j hj => hb 82 j (by omega) (by omega) true 10) (rep_go (ch_s hc n1.2.2.1) n1.2.1 ht hal (hb0 82 true 10))
  | false =>
  rw [if_neg (by decide)]
  refine ⟨fun _ => fl_at h (by omega) (by decide) ha (fun hal => ?_) hcm, fun z => (by cases z)⟩
  rw [sg_eq hc hal] at c1 c2 c3
  rw [h0]
  unfold begP
  rw [if_neg (of_decide_eq_false c3)]
  exact lt2_3 (of_decide_eq_false c1) (of_decide_eq_false c2)
end
/-- the whole text -/
theorem all_go {l : Nat} : ∀ {k : Nat} {V M : VV} {a t : Nat} {x : Int32}, l - a ≤ k → t + k ≤ 70 → Ch V M l → St M t 0 → a ≤ l →
    ((allT l k V a x).1 = false → Fl l M a (allT l k V a x).2.2.1) ∧ ((allT l k V a x).1 = true → (allT l k V a x).2.2.1 = l ∧ (rtP (l - a) M a).1 = l ∧ FinB (rtP (l - a) M a).2 = true)
  | 0, V, M, a, t, x, hk, ht, hc, h, ha => by
    have : a = l := by omega
    subst this
    exact ⟨fun _ => fl_at h (by omega) (by decide) ha (fun z => absurd z (Nat.lt_irrefl a)) (cm_f2 (by decide) (by decide) (by decide)), fun z => (by cases z)⟩
  | k + 1, V, M, a, t, x, hk, ht, hc, h, ha => by
    have g := sh_go (x := x) hc h (by omega) ha
    unfold allT
    cases c1 : (shT V l a x).1 with
    | false =>
      rw [if_pos rfl]
      exact ⟨fun _ => g.1 c1, fun z => (by cases z)⟩
    | true =>
      rw [if_neg (by decide)]
      obtain ⟨⟨M2, r1, r2, r3, r4, ⟨s, d1, d2, d3, d4⟩, r6, r7⟩, r8⟩ := g.2 c1
      have hsm := (sh_le (V := V) (x := x) ha).2
      generalize hbe : (shT V l a x).2.2.1 = b at *
      have hc2 : Ch (shT V l a x).2.1 M2 l := fun i hi => by rw [sm5_f hsm (by decide)]; exact ch_s hc r2 i hi
      cases c2 : sgB (shT V l a x).2.1 l b 59 with
      | true =>
        rw [if_pos rfl]
        have hbl := sg_lt c2
        rw [sg_eq hc2 hbl] at c2
        have ex := of_decide_eq_true c2
        have hd := d4 hbl
        have n1 := nx_step (s2 := 0) (t2 := t + 1) d1 (by omega) (by omega) hbl (by rw [hd.1]; exact c2) (by
          rw [hd.2 ex]; unfold enV; rw [if_pos rfl]
          exact ⟨(up_nk (by decide)).trans up_ss, up_ss⟩)
        have ih := all_go (k := k) (V := (shT V l a x).2.1) (a := b + 1) (t := t + 1) (x := (shT V l a x).2.2.2) (by omega) (by omega) (ch_s hc2 n1.2.2.1) n1.2.1 hbl
        refine ⟨fun z => ?_, fun z => ?_⟩
        · have := fl_nx n1 (ih.1 z)
          unfold Fl at this ⊢; rw [r1]; exact this
        · have := ih.2 z
          rw [r1, n1.1]; exact this
      | false =>
        rw [if_neg (by decide)]
        refine ⟨fun z => ?_, fun z => ?_⟩
        · have hbn : ¬ b = l := of_decide_eq_false z
          have hbl : b < l := by omega
          have hd := d4 hbl
          have hf := fl_rej (l := l) d1 (by omega) (by omega) hbl (by rw [hd.1, ← sg_eq hc2 hbl]; exact c2)
          show Fl l M a (shT V l a x).2.2.1
          rw [hbe]
          unfold Fl at hf ⊢; rw [r1]; exact hf
        · have hbl : b = l := of_decide_eq_true z
          refine ⟨show (shT V l a x).2.2.1 = l from hbe.trans hbl, ?_, ?_⟩
          · rw [r1, hbl, Nat.sub_self]; rfl
          · rw [r1, hbl, Nat.sub_self]; exact (fin_s d1 (by omega) (by omega)).trans d3
