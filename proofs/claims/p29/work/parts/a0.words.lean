-- the law's words
def GF (V : VV) : Nat → Nat → Int32 := fun k s => V 213 (9 * s + k)
def ush (x : Int32) : Int32 := (x.toUInt32 >>> ((1 : Int32).toUInt32 &&& Int32.toUInt32 31)).toInt32
def atF (x n : Int32) : Int32 := ush x - ush x / n * n
theorem ush_n (x : Int32) : 0 ≤ (ush x).toInt := by
  unfold ush
  rw [show ((1 : Int32).toUInt32 &&& Int32.toUInt32 31) = (1 : UInt32) by decide]
  have h2 : (x.toUInt32 >>> (1 : UInt32)).toNat = x.toUInt32.toNat / 2 := by
    rw [UInt32.toNat_shiftRight]
    rfl
  have h3 : x.toUInt32.toNat < 2 ^ 32 := x.toUInt32.toNat_lt
  show 0 ≤ (x.toUInt32 >>> (1 : UInt32)).toBitVec.toInt
  rw [BitVec.toInt_eq_toNat_cond, if_pos]
  · omega
  · show 2 * (x.toUInt32 >>> (1 : UInt32)).toNat < 2 ^ 32
    omega
theorem at_n (x : Int32) {n : Nat} (h0 : 0 < n) (hn : n < 2 ^ 31) : ∃ k, k < n ∧ atF x (nI n) = nI k := by
  have h := ush_n x
  have hb : (ush x).toInt < 2147483648 := Int32.toInt_lt _
  unfold atF
  rw [t_nI h]
  exact ⟨_, Nat.mod_lt _ h0, pk_rem (by omega) h0 hn⟩
theorem cl_ge {x : Int32} {j : Nat} (h : x.toNatClampNeg ≤ j) (hj : j < 2 ^ 31) : x ≤ nI j := by
  rw [t_le, t_nat hj]
  have : x.toNatClampNeg = x.toInt.toNat := rfl
  omega
theorem cl_lt {x : Int32} {j : Nat} (h : j < x.toNatClampNeg) : ¬ x ≤ nI j := by
  have e : x.toNatClampNeg = x.toInt.toNat := rfl
  have hb : x.toInt < 2147483648 := Int32.toInt_lt _
  rw [t_le, t_nat (by omega)]
  omega
theorem cl_b (x : Int32) : x.toNatClampNeg < 2 ^ 31 := by
  have e : x.toNatClampNeg = x.toInt.toNat := rfl
  have hb : x.toInt < 2147483648 := Int32.toInt_lt _
  omega
def takB (F : Nat → Nat → Int32) (d m : Int32) (s : Nat) : Bool := decide (F 2 s = d ∧ F 3 s ≤ m ∧ m < F 3 s + F 4 s)
theorem tak_1 {F : Nat → Nat → Int32} {d m : Int32} {s : Nat} (h : ¬ F 2 s = d) : ¬ takB F d m s = true := fun z => h (of_decide_eq_true z).1
theorem tak_2 {F : Nat → Nat → Int32} {d m : Int32} {s : Nat} (h : m < F 3 s) : ¬ takB F d m s = true := fun z => absurd (of_decide_eq_true z).2.1 (Int32.not_le.mpr h)
theorem tak_3 {F : Nat → Nat → Int32} {d m : Int32} {s : Nat} (h : F 3 s + F 4 s ≤ m) : ¬ takB F d m s = true := fun z => absurd (of_decide_eq_true z).2.2 (Int32.not_lt.mpr h)
theorem tak_0 {F : Nat → Nat → Int32} {d m : Int32} {s : Nat} (h1 : F 2 s = d) (h2 : ¬ m < F 3 s) (h3 : ¬ F 3 s + F 4 s ≤ m) : takB F d m s = true := decide_eq_true ⟨h1, Int32.not_lt.mp h2, Int32.not_le.mp h3⟩
-- minutes one by one
def cntM (F : Nat → Nat → Int32) (d h : Int32) (s m : Nat) : Int32 := sumTo (fun j => if F 2 s = d ∧ (F 3 s + nI j) / 60 = h then 1 else 0) m
def planM (F : Nat → Nat → Int32) (d h : Int32) (n : Nat) : Int32 := sumTo (fun s => cntM F d h s (F 5 s).toNatClampNeg) n
theorem inHour_n {f m h : Nat} (hf : f ≤ 5000) (hm : m ≤ 5000) (hh : h ≤ 50) : inHourR (nI f) (nI m) (nI h) = nI (min (f + m) (60 * h + 60) - max f (60 * h)) := by
  unfold inHourR
  rw [show (60 : Int32) = nI 60 from rfl, pk_mul, nI_add, nI_add]
  have c1 : (nI (60 * h) < nI f) ↔ 60 * h < f := nI_ltI (by omega) (by omega)
  have c2 : nI (f + m) < nI (60 * h + 60) ↔ f + m < 60 * h + 60 := nI_ltI (by omega) (by omega)
  have fin : ∀ x y : Nat, x ≤ 20000 → y ≤ 20000 → (if nI x < nI y then nI y - nI x else 0) = nI (y - x) := fun x y hx hy => by
    by_cases c : x < y
    · rw [if_pos ((nI_ltI (by omega) (by omega)).mpr c), nI_subn (by omega)]
    · rw [if_neg (fun z => c ((nI_ltI (by omega) (by omega)).mp z)), show y - x = 0 by omega, nI_0]
  by_cases a : 60 * h < f
  · by_cases b : f + m < 60 * h + 60
    · simp only [if_pos (c1.mpr a), if_pos (c2.mpr b)]
      rw [fin _ _ (by omega) (by omega)]; congr 1; omega
    · simp only [if_pos (c1.mpr a), if_neg (fun z => b (c2.mp z))]
      rw [fin _ _ (by omega) (by omega)]; congr 1; omega
  · by_cases b : f + m < 60 * h + 60
    · simp only [if_neg (fun z => a (c1.mp z)), if_pos (c2.mpr b)]
      rw [fin _ _ (by omega) (by omega)]; congr 1; omega
    · simp only [if_neg (fun z => a (c1.mp z)), if_neg (fun z => b (c2.mp z))]
      rw [fin _ _ (by omega) (by omega)]; congr 1; omega
theorem cnt_in {S H : Nat} (hS : S ≤ 3000) (hH : H ≤ 50) : ∀ {p : Nat}, p ≤ 1500 → sumTo (fun j => if (nI S + nI j) / 60 = nI H then 1 else 0) p = inHourR (nI S) (nI p) (nI H)
  | 0, _ => by
    rw [inHour_n (by omega) (by omega) hH, show min (S + 0) (60 * H + 60) - max S (60 * H) = 0 by omega]
    exact nI_0.symm
  | p + 1, hp => by
    rw [sumTo, cnt_in hS hH (by omega), inHour_n (by omega) (by omega) hH, inHour_n (by omega) (by omega) hH, nI_add, show (60 : Int32) = nI 60 from rfl, pk_div (by omega) (by decide) (by decide)]
    by_cases c : (S + p) / 60 = H
    · rw [if_pos (by rw [c]), show (1 : Int32) = nI 1 from rfl, nI_add]
      congr 1; omega
    · rw [if_neg (fun z => c ((nI_eq (by omega) (by omega)).mp z)), Int32.add_zero]
      congr 1; omega
theorem cl_t {x : Int32} {n : Nat} (h : x.toInt = n) : x = nI n ∧ x.toNatClampNeg = n := by
  have e : x.toNatClampNeg = x.toInt.toNat := rfl
  have hb : x.toInt < 2147483648 := Int32.toInt_lt _
  exact ⟨by rw [t_eq, h, t_nat (by omega)], by omega⟩
theorem cntM_eq {F : Nat → Nat → Int32} {d : Int32} {H s : Nat} (hb : ShB F s) (hH : H ≤ 50) : cntM F d (nI H) s (F 5 s).toNatClampNeg = if F 2 s = d then inHourR (F 3 s) (F 5 s) (nI H) else 0 := by
  obtain ⟨_, _, _, b3, _, b5, _⟩ := hb
  unfold cntM
  by_cases q : F 2 s = d
  · obtain ⟨S, e1, e2⟩ := nat_of b3.1
    obtain ⟨p, e3, e4⟩ := nat_of b5.1
    rw [if_pos q, (cl_t e4).2, e3, e1, ← cnt_in (by omega) hH (by omega)]
    exact sumTo_congr fun j _ => by simp only [q, true_and]
  · rw [if_neg q]
    exact sumTo_0 fun j _ => if_neg fun z => q z.1
theorem planM_eq {F : Nat → Nat → Int32} {d : Int32} {H n : Nat} (hb : ∀ s, s < n → ShB F s) (hH : H ≤ 50) : planM F d (nI H) n = planR F n d (nI H) := sumTo_congr fun s hs => cntM_eq (hb s hs) hH
def layV (V : VV) (n : Nat) (k g d st ln sp o id : Int32) : VV := up (up (up (up (up (up (up (up (up V 213 (9 * n) k) 213 (9 * n + 1) g) 213 (9 * n + 2) d) 213 (9 * n + 3) st) 213 (9 * n + 4) ln) 213 (9 * n + 5) sp) 213 (9 * n + 6) 0) 213 (9 * n + 7) o) 213 (9 * n + 8) id
-- a day on air, in the row o
def ckW (o : Nat) (V : VV) (d : Int32) (n : Nat) : VV := fun j q => if j = o ∧ q / 4 < n ∧ GF V 2 (q / 4) = d then airR (GF V) (V 210) (q % 4) (q / 4) else V j q
theorem ckW_no {o : Nat} {V : VV} {d : Int32} {n j : Nat} (h : j ≠ o) : ckW o V d n j = V j := funext fun q => if_neg fun z => h z.1
theorem ckW_0 {o : Nat} {V : VV} {d : Int32} : V = ckW o V d 0 := by
  funext j q
  unfold ckW
  rw [if_neg (fun z => Nat.not_lt_zero _ z.2.1)]
theorem ckW_skip {o : Nat} {V : VV} {d : Int32} {i : Nat} (h : ¬ GF V 2 i = d) : ckW o V d i = ckW o V d (i + 1) := by
  funext j q
  unfold ckW
  by_cases a : j = o ∧ q / 4 < i ∧ GF V 2 (q / 4) = d
  · rw [if_pos a, if_pos ⟨a.1, by omega, a.2.2⟩]
  · rw [if_neg a, if_neg fun z => a ⟨z.1, by
      by_cases e : q / 4 = i
      · exact absurd (e ▸ z.2.2) h
      · omega, z.2.2⟩]
theorem ckW_step {o : Nat} {V W : VV} {d : Int32} {i : Nat} (h : GF V 2 i = d) (h1 : ∀ j, j ≠ o → W j = V j) (h2 : ∀ k, k < 4 → W o (4 * i + k) = airR (GF V) (V 210) k i) (h3 : ∀ q, q / 4 ≠ i → W o q = ckW o V d i o q) : W = ckW o V d (i + 1) := by
  funext j q
  by_cases e : j = o
  · subst e
    by_cases c : q / 4 = i
    · unfold ckW
      rw [if_pos ⟨rfl, by omega, by rw [c]; exact h⟩, c, ← h2 (q % 4) (by omega), show 4 * i + q % 4 = q by omega]
    · rw [h3 q c]
      unfold ckW
      by_cases a : q / 4 < i ∧ GF V 2 (q / 4) = d
      · rw [if_pos ⟨rfl, a⟩, if_pos ⟨rfl, by omega, a.2⟩]
      · rw [if_neg (fun z => a z.2), if_neg (fun z => a ⟨by omega, z.2.2⟩)]
  · rw [h1 j e, ckW_no e]
theorem ck_dr {o : Nat} {V : VV} {d : Int32} {i : Nat} {x : Int32} (h : GF V 2 i = d) (hd : drR (GF V) (V 210) (clkR (GF V) (V 210) d i) i = true) (hx : x = atR (GF V) (clkR (GF V) (V 210) d i) i - GF V 3 i) :
    up (up (up (up (ckW o V d i) o (4 * i) (-1)) o (4 * i + 1) 0) o (4 * i + 2) x) o (4 * i + 3) 2 = ckW o V d (i + 1) := by
  refine ckW_step h (fun j hj => ?_) (fun k hk => ?_) (fun q hq => ?_)
  · rw [up_nf hj, up_nf hj, up_nf hj, up_nf hj, ckW_no hj]
  · unfold airR
    rw [h]
    rcases (show k = 0 ∨ k = 1 ∨ k = 2 ∨ k = 3 by omega) with rfl | rfl | rfl | rfl
    · rw [up_nk (by omega), up_nk (by omega), up_nk (by omega), Nat.add_zero, up_ss, if_pos rfl, if_pos hd]
    · rw [up_nk (by omega), up_nk (by omega), up_ss, if_neg (by decide), if_pos rfl, if_pos hd]
    · rw [up_nk (by omega), up_ss, if_neg (by decide), if_neg (by decide), if_pos rfl, hx]
    · rw [up_ss, if_neg (by decide), if_neg (by decide), if_neg (by decide), if_pos hd]
  · rw [up_nk (by omega), up_nk (by omega), up_nk (by omega), up_nk (by omega)]
theorem ck_on {o : Nat} {V : VV} {d : Int32} {i : Nat} {x y z w : Int32} (h : GF V 2 i = d) (hd : ¬ drR (GF V) (V 210) (clkR (GF V) (V 210) d i) i = true) (hx : x = atR (GF V) (clkR (GF V) (V 210) d i) i - GF V 3 i)
    (hy : y = atR (GF V) (clkR (GF V) (V 210) d i) i) (hz : z = sttR (GF V) (V 210) (clkR (GF V) (V 210) d i) i) (hw : w = forR (GF V) (V 210) (clkR (GF V) (V 210) d i) i) :
    up (up (up (up (up (up (up (ckW o V d i) o (4 * i) (-1)) o (4 * i + 1) 0) o (4 * i + 2) x) o (4 * i + 3) 2) o (4 * i) y) o (4 * i + 3) z) o (4 * i + 1) w = ckW o V d (i + 1) := by
  refine ckW_step h (fun j hj => ?_) (fun k hk => ?_) (fun q hq => ?_)
  · rw [up_nf hj, up_nf hj, up_nf hj, up_nf hj, up_nf hj, up_nf hj, up_nf hj, ckW_no hj]
  · unfold airR
    rw [h]
    rcases (show k = 0 ∨ k = 1 ∨ k = 2 ∨ k = 3 by omega) with rfl | rfl | rfl | rfl
    · rw [up_nk (by omega), up_nk (by omega)]
      show up _ o (4 * i) y o (4 * i) = _
      rw [up_ss, if_pos rfl, if_neg hd, hy]
    · rw [up_ss, if_neg (by decide), if_pos rfl, if_neg hd, hw]
    · rw [up_nk (by omega), up_nk (by omega), up_nk (by omega), up_nk (by omega), up_ss, if_neg (by decide), if_neg (by decide), if_pos rfl, hx]
    · rw [up_nk (by omega), up_ss, if_neg (by decide), if_neg (by decide), if_neg (by decide), if_neg hd, hz]
  · rw [up_nk (by omega), up_nk (by omega), up_nk (by omega), up_nk (by omega), up_nk (by omega), up_nk (by omega), up_nk (by omega)]
theorem dw_1 {F : Nat → Nat → Int32} {G : Nat → Int32} {c : Int32} {s : Nat} (h : patS F G s < atR F c s - F 3 s) : drR F G c s = true := by simp [drR, h]
theorem dw_2 {F : Nat → Nat → Int32} {G : Nat → Int32} {c : Int32} {s : Nat} (h : G 1 ≤ atR F c s) : drR F G c s = true := by simp [drR, h]
theorem dw_0 {F : Nat → Nat → Int32} {G : Nat → Int32} {c : Int32} {s : Nat} (h1 : ¬ patS F G s < atR F c s - F 3 s) (h : ¬ G 1 ≤ atR F c s) : ¬ drR F G c s = true := by
  simp only [drR, decide_eq_false h1, decide_eq_false h]; simp
theorem le_0 {x : Int32} (h : x ≤ 0) : x < 1 := by
  rw [t_le] at h; rw [t_lt]; have e1 : (0 : Int32).toInt = 0 := rfl; have e2 : (1 : Int32).toInt = 1 := rfl; omega
theorem nle_0 {x : Int32} (h : ¬ x ≤ 0) : ¬ x < 1 := by
  rw [t_le] at h; rw [t_lt]; have e1 : (0 : Int32).toInt = 0 := rfl; have e2 : (1 : Int32).toInt = 1 := rfl; omega
theorem at_del {F : Nat → Nat → Int32} {c : Int32} {s : Nat} (h3 : 0 ≤ (F 3 s).toInt) : atR F c s ≤ F 3 s ↔ ¬ 0 < atR F c s - F 3 s := by
  unfold atR
  by_cases q : F 3 s ≤ c
  · rw [if_pos q]
    rw [t_le] at q
    have hc : c.toInt < 2147483648 := Int32.toInt_lt _
    rw [t_le, t_lt, t_sub (by omega) (by omega), show (0 : Int32).toInt = 0 from rfl]
    omega
  · rw [if_neg q, Int32.sub_self]
    exact ⟨fun _ => by decide, fun _ => Int32.le_refl _⟩
theorem ck_for {F : Nat → Nat → Int32} {G : Nat → Int32} {c x : Int32} {s : Nat} (h : x = if G 1 < atR F c s + wantR F s then G 1 else atR F c s + wantR F s) : x - atR F c s = forR F G c s ∧ x = atR F c s + forR F G c s := by
  have e1 : ∀ a b : Int32, a + b - a = b := fun a b => by rw [Int32.add_comm, Int32.add_sub_cancel]
  have e2 : ∀ a b : Int32, a + (b - a) = b := fun a b => by rw [Int32.add_comm, Int32.sub_add_cancel]
  unfold forR cutR
  by_cases q : G 1 < atR F c s + wantR F s
  · rw [if_pos q] at h
    rw [decide_eq_true q, if_pos rfl, h]
    exact ⟨rfl, (e2 _ _).symm⟩
  · rw [if_neg q] at h
    rw [decide_eq_false q, if_neg (by decide), h]
    exact ⟨e1 _ _, rfl⟩
-- sponsor minutes on air, one by one
theorem sumTo2_congr {a : Int32} {f g : Nat → Int32} : ∀ {n : Nat}, (∀ s, s < n → f s = g s) → dayR.sumTo2 a f n = dayR.sumTo2 a g n
  | 0, _ => rfl
  | n + 1, h => by rw [dayR.sumTo2, dayR.sumTo2, sumTo2_congr (fun s hs => h s (by omega)), h n (by omega)]
theorem bec_at {V : VV} {k g d s l sp o : Int32} : becomeV V k g d s l sp o 5 0 = k ∧ becomeV V k g d s l sp o 5 1 = g ∧ becomeV V k g d s l sp o 5 2 = d ∧ becomeV V k g d s l sp o 5 3 = s ∧ becomeV V k g d s l sp o 5 4 = l ∧ becomeV V k g d s l sp o 5 5 = sp ∧ becomeV V k g d s l sp o 5 6 = o := by
  simp [becomeV, up]
theorem airedR_congr {F A B : Nat → Nat → Int32} {n : Nat} {d h : Int32} (hA : ∀ s, s < n → F 2 s = d → ∀ k, k < 4 → A k s = B k s) : airedR F A n d h = airedR F B n d h := by
  refine sumTo_congr fun s hs => ?_
  by_cases hd : F 2 s = d
  · rw [hA s hs hd 3 (by decide), hA s hs hd 0 (by decide), hA s hs hd 1 (by decide)]
  · rw [if_neg (fun q => hd q.1), if_neg (fun q => hd q.1)]
def AW (o : Nat) (V : VV) : Nat → Nat → Int32 := fun k s => V o (4 * s + k)
def cntA (F A : Nat → Nat → Int32) (d h : Int32) (s m : Nat) : Int32 := sumTo (fun j => if F 2 s = d ∧ (A 0 s + nI j) / 60 = h then 1 else 0) m
def minN (F A : Nat → Nat → Int32) (s : Nat) : Nat := min (F 5 s).toNatClampNeg (A 1 s).toNatClampNeg
def airM (F A : Nat → Nat → Int32) (d h : Int32) (n : Nat) : Int32 := sumTo (fun s => cntA F A d h s (minN F A s)) n
theorem airM_eq {F A : Nat → Nat → Int32} {G : Nat → Int32} {d : Int32} {H n : Nat} (hG : GB G) (hb : ∀ s, s < n → ShB F s) (hA : ∀ s, s < n → F 2 s = d → ∀ k, k < 4 → A k s = airR F G k s) (hH : H ≤ 50) : airM F A d (nI H) n = airedR F A n d (nI H) := by
  refine sumTo_congr fun s hs => ?_
  unfold cntA minN
  by_cases q : F 2 s = d
  · have a0 := hA s hs q 0 (by decide)
    have a1 := hA s hs q 1 (by decide)
    have a3 := hA s hs q 3 (by decide)
    obtain ⟨_, _, _, b3, b4, b5, b6⟩ := hb s hs
    have hck := clk_b (d := d) hG (s := s) (fun t ht => hb t (by omega))
    have hg0 := hG.1
    unfold airR at a0 a1 a3
    rw [q] at a0 a1 a3
    rw [if_pos rfl] at a0
    rw [if_neg (by decide), if_pos rfl] at a1
    rw [if_neg (by decide), if_neg (by decide), if_neg (by decide)] at a3
    by_cases c : drR F G (clkR F G d s) s = true
    · rw [if_pos c] at a1 a3
      rw [if_neg (fun z => z.2 a3), a1, show (0 : Int32).toNatClampNeg = 0 from rfl, Nat.min_zero]
      rfl
    · rw [if_neg c] at a0 a1 a3
      have e3 : ¬ A 3 s = 2 := by
        rw [a3]
        unfold sttR b2i
        split <;> split <;> decide
      rw [if_pos ⟨q, e3⟩]
      have hf := (for_t (R := F) hG (hb s hs) (c := clkR F G d s) (by omega) hck.2).1
      have hat := at_t (R := F) (c := clkR F G d s) (s := s)
      have hwt := want_t (hb s hs)
      rw [← a1] at hf
      rw [← a0] at hat hf
      have hG1 := hG.2.1
      have hdr := fun z => c ((dr_iff hG (hb s hs) (c := clkR F G d s) (by omega) hck.2).mpr (Or.inr z))
      rw [← a0] at hdr
      obtain ⟨S, s1, s2⟩ := nat_of (x := A 0 s) (by omega)
      obtain ⟨p, p1, p2⟩ := nat_of b5.1
      have hlt := Int.not_le.mp hdr
      obtain ⟨m, m1, m2⟩ := nat_of (x := A 1 s) (by omega)
      rw [(cl_t p2).2, (cl_t m2).2, s1, p1, m1]
      have e5 : (if nI p < nI m then nI p else nI m) = nI (min p m) := by
        by_cases z : p < m
        · rw [if_pos (nI_lt z (by omega)), show min p m = p by omega]
        · rw [if_neg (fun y => z ((nI_ltI (by omega) (by omega)).mp y)), show min p m = m by omega]
      rw [e5, ← cnt_in (by omega) hH (by omega)]
      exact sumTo_congr fun j _ => by simp only [q, true_and]
  · rw [if_neg (fun z => q z.1)]
    exact sumTo_0 fun j _ => if_neg fun z => q z.1
-- a new show: minutes that are taken, too early
theorem mn_le {st : Int32} {l j : Nat} (h1 : 0 ≤ st.toInt) (h2 : st.toInt ≤ 1439) (hl : l ≤ 2000) (hj : j ≤ 2000) : st + nI l ≤ st + nI j ↔ l ≤ j := by
  obtain ⟨S, rfl, e⟩ := nat_of h1
  rw [nI_add, nI_add, nI_leI (by omega) (by omega)]
  omega
theorem hit_tak {F : Nat → Nat → Int32} {n l : Nat} {d st : Int32} (hb : ∀ s, s < n → ShB F s) (h1 : 0 ≤ st.toInt) (h2 : st.toInt ≤ 1439) (hl0 : 1 ≤ l) (hl : l ≤ 240) :
    orTo (hitS F d st (nI l)) n = true ↔ ∃ j, j < l ∧ (fstF (takB F d (st + nI j)) n 0).isSome = true := by
  rw [or_ex]
  have e1 : ∀ j, j ≤ l → (st + nI j).toInt = st.toInt + j := fun j hj => by rw [t_add (by rw [t_nat (by omega)]; omega) (by rw [t_nat (by omega)]; omega), t_nat (by omega)]
  have e2 : ∀ s, s < n → (F 3 s + F 4 s).toInt = (F 3 s).toInt + (F 4 s).toInt := fun s hs => by
    obtain ⟨_, _, _, b3, b4, _⟩ := hb s hs
    exact t_add (by omega) (by omega)
  constructor
  · intro ⟨s, hs, h⟩
    obtain ⟨_, _, _, b3, b4, _⟩ := hb s hs
    unfold hitS at h
    rw [Bool.and_eq_true, Bool.and_eq_true, decide_eq_true_eq, decide_eq_true_eq, decide_eq_true_eq, t_lt, t_lt, e1 l (Nat.le_refl l), e2 s hs] at h
    obtain ⟨⟨c1, c2⟩, c3⟩ := h
    refine ⟨((F 3 s).toInt - st.toInt).toNat, by omega, ?_⟩
    rw [fst_ex]
    refine ⟨s, Nat.zero_le _, by omega, decide_eq_true ⟨c1, ?_, ?_⟩⟩
    · rw [t_le, e1 _ (by omega)]; omega
    · rw [t_lt, e1 _ (by omega), e2 s hs]; omega
  · intro ⟨j, hj, h⟩
    rw [fst_ex] at h
    obtain ⟨s, _, hs, h⟩ := h
    have hs : s < n := by omega
    obtain ⟨c1, c2, c3⟩ := of_decide_eq_true h
    rw [t_le, e1 _ (by omega)] at c2
    rw [t_lt, e1 _ (by omega), e2 s hs] at c3
    refine ⟨s, hs, ?_⟩
    unfold hitS
    rw [decide_eq_true c1, decide_eq_true (t_lt.mpr (by rw [e1 l (Nat.le_refl l)]; omega)), decide_eq_true (t_lt.mpr (by rw [e2 s hs]; omega))]
    rfl
theorem early_iff {F : Nat → Nat → Int32} {G : Nat → Int32} {d st : Int32} {o : Nat} (hd1 : 0 ≤ d.toInt) (hd2 : d.toInt ≤ 6) (h1 : 0 ≤ st.toInt) (h2 : st.toInt ≤ 1439) (hb : ShB F o) (hG : GB G) :
    60 * G 4 ≤ 1440 * d + st - 1440 * F 2 o - F 3 o - F 4 o ↔ ¬ 1440 * d + st < earlS F (G 4) o := by
  have e0 := earl_t hb hG
  obtain ⟨_, _, b2, b3, b4, _⟩ := hb
  have g4 := hG.2.2.2.2.1
  have c1 : (1440 : Int32).toInt = 1440 := rfl
  have c2 : (60 : Int32).toInt = 60 := rfl
  have e1 : (1440 * d).toInt = 1440 * d.toInt := by rw [t_mul (by rw [c1]; omega) (by rw [c1]; omega), c1]
  have e2 : (1440 * d + st).toInt = 1440 * d.toInt + st.toInt := by rw [t_add (by omega) (by omega), e1]
  have e3 : (1440 * F 2 o).toInt = 1440 * (F 2 o).toInt := by rw [t_mul (by rw [c1]; omega) (by rw [c1]; omega), c1]
  have e4 : (1440 * d + st - 1440 * F 2 o).toInt = 1440 * d.toInt + st.toInt - 1440 * (F 2 o).toInt := by rw [t_sub (by omega) (by omega), e2, e3]
  have e5 : (1440 * d + st - 1440 * F 2 o - F 3 o).toInt = 1440 * d.toInt + st.toInt - 1440 * (F 2 o).toInt - (F 3 o).toInt := by rw [t_sub (by omega) (by omega), e4]
  have e6 : (1440 * d + st - 1440 * F 2 o - F 3 o - F 4 o).toInt = 1440 * d.toInt + st.toInt - 1440 * (F 2 o).toInt - (F 3 o).toInt - (F 4 o).toInt := by rw [t_sub (by omega) (by omega), e5]
  have e7 : (60 * G 4).toInt = 60 * (G 4).toInt := by rw [t_mul (by rw [c2]; omega) (by rw [c2]; omega), c2]
  rw [t_le, t_lt, e6, e7, e2, e0]
  omega
theorem shb_k {F : Nat → Nat → Int32} {s : Nat} (hb : ShB F s) : F 0 s = 0 ∨ F 0 s = 1 ∨ F 0 s = 2 := by
  obtain ⟨b0, _⟩ := hb
  have c0 : (0 : Int32).toInt = 0 := rfl
  have c1 : (1 : Int32).toInt = 1 := rfl
  have c2 : (2 : Int32).toInt = 2 := rfl
  rcases (show (F 0 s).toInt = 0 ∨ (F 0 s).toInt = 1 ∨ (F 0 s).toInt = 2 by omega) with h | h | h
  · exact Or.inl (t_eq.mpr (by omega))
  · exact Or.inr (Or.inl (t_eq.mpr (by omega)))
  · exact Or.inr (Or.inr (t_eq.mpr (by omega)))
theorem or_no {p : Nat → Bool} {n : Nat} (h : ∀ j, j < n → p j = false) : ¬ orTo p n = true := fun z => by
  obtain ⟨j, hj, hp⟩ := or_ex.mp z
  rw [h j hj] at hp; cases hp
-- the new show goes down to its place
def snkV (V : VV) (n k : Nat) : VV := fun j q => if j = 213 ∧ 9 * k ≤ q ∧ q < 9 * n + 9 then (if q < 9 * k + 9 then V 213 (9 * n + (q - 9 * k)) else V 213 (q - 9)) else if j = 212 ∧ q = 1 then nI (n + 1) else V j q
def swV (W : VV) (k i : Nat) : VV := fun j q => if j = 213 ∧ 9 * k + 9 ≤ q ∧ q < 9 * k + 9 + i then W 213 (q - 9) else if j = 213 ∧ 9 * k ≤ q ∧ q < 9 * k + i then W 213 (q + 9) else W j q
theorem swV_0 {W : VV} {k : Nat} : W = swV W k 0 := by
  funext j q
  unfold swV
  rw [if_neg (by omega), if_neg (by omega)]
theorem sw_hi {W : VV} {k i q : Nat} (h : 9 * k + 9 ≤ q ∧ q < 9 * k + 9 + i) : swV W k i 213 q = W 213 (q - 9) := if_pos ⟨rfl, h⟩
theorem sw_lo {W : VV} {k i q : Nat} (hi : i ≤ 9) (h : 9 * k ≤ q ∧ q < 9 * k + i) : swV W k i 213 q = W 213 (q + 9) := by
  unfold swV
  rw [if_neg (by omega), if_pos ⟨rfl, h⟩]
theorem sw_no {W : VV} {k i q : Nat} (h1 : ¬ (9 * k + 9 ≤ q ∧ q < 9 * k + 9 + i)) (h2 : ¬ (9 * k ≤ q ∧ q < 9 * k + i)) : swV W k i 213 q = W 213 q := by
  unfold swV
  rw [if_neg (fun z => h1 z.2), if_neg (fun z => h2 z.2)]
theorem sw_nf {W : VV} {k i j : Nat} (h : j ≠ 213) : swV W k i j = W j := funext fun q => by
  unfold swV
  rw [if_neg (fun z => h z.1), if_neg (fun z => h z.1)]
theorem swV_s {W : VV} {k i : Nat} (hi : i < 9) : up (up (swV W k i) 213 (9 * (k + 1) + i) (swV W k i 213 (9 * k + i))) 213 (9 * k + i) (swV W k i 213 (9 * (k + 1) + i)) = swV W k (i + 1) := by
  funext j q
  by_cases hj : j = 213
  · subst hj
    by_cases h1 : q = 9 * k + i
    · subst h1
      rw [up_ss, sw_no (by omega) (by omega), sw_lo (by omega) (by omega), show 9 * (k + 1) + i = 9 * k + i + 9 by omega]
    · rw [up_nk h1]
      by_cases h2 : q = 9 * (k + 1) + i
      · subst h2
        rw [up_ss, sw_no (by omega) (by omega), sw_hi (by omega), show 9 * (k + 1) + i - 9 = 9 * k + i by omega]
      · rw [up_nk h2]
        by_cases a : 9 * k + 9 ≤ q ∧ q < 9 * k + 9 + i
        · rw [sw_hi a, sw_hi (by omega)]
        · by_cases b : 9 * k ≤ q ∧ q < 9 * k + i
          · rw [sw_lo (by omega) b, sw_lo (by omega) (by omega)]
          · rw [sw_no a b, sw_no (by omega) (by omega)]
  · rw [up_no hj, up_no hj, sw_nf hj, sw_nf hj]
theorem snk_n {V : VV} {n : Nat} : up V 212 1 (nI (n + 1)) = snkV V n n := by
  funext j q
  unfold snkV
  by_cases a : j = 213 ∧ 9 * n ≤ q ∧ q < 9 * n + 9
  · rw [if_pos a, if_pos a.2.2, up_no (by omega), show 9 * n + (q - 9 * n) = q by omega, a.1]
  · rw [if_neg a]
    by_cases b : j = 212 ∧ q = 1
    · rw [if_pos b, b.1, b.2, up_ss]
    · rw [if_neg b]
      by_cases c : j = 212
      · rw [c, up_nk (fun z => b ⟨c, z⟩)]
      · rw [up_no c]
theorem sn_a {V : VV} {n k q : Nat} (hk : k ≤ n) (h : 9 * k ≤ q ∧ q < 9 * k + 9) : snkV V n k 213 q = V 213 (9 * n + (q - 9 * k)) := by
  unfold snkV
  rw [if_pos ⟨rfl, by omega, by omega⟩, if_pos (by omega)]
theorem sn_h {V : VV} {n k q : Nat} (h : 9 * k + 9 ≤ q ∧ q < 9 * n + 9) : snkV V n k 213 q = V 213 (q - 9) := by
  unfold snkV
  rw [if_pos ⟨rfl, by omega, by omega⟩, if_neg (by omega)]
theorem sn_l {V : VV} {n k q : Nat} (h : q < 9 * k ∨ 9 * n + 9 ≤ q) : snkV V n k 213 q = V 213 q := by
  unfold snkV
  rw [if_neg (by omega), if_neg (by omega)]
theorem sn_nf {V : VV} {n k j : Nat} (h : j ≠ 213) (h2 : j ≠ 212) : snkV V n k j = V j := funext fun q => by
  unfold snkV
  rw [if_neg (fun z => h z.1), if_neg (fun z => h2 z.1)]
theorem sn_1 {V : VV} {n k : Nat} : snkV V n k 212 1 = nI (n + 1) := by
  unfold snkV
  rw [if_neg (by omega), if_pos ⟨rfl, rfl⟩]
theorem sn_2 {V : VV} {n k q : Nat} (h : q ≠ 1) : snkV V n k 212 q = V 212 q := by
  unfold snkV
  rw [if_neg (by omega), if_neg (fun z => h z.2)]
theorem snk_s {V : VV} {n k : Nat} (hk : k < n) : swV (snkV V n (k + 1)) k 9 = snkV V n k := by
  funext j q
  by_cases hj : j = 213
  · subst hj
    by_cases a : 9 * k + 9 ≤ q ∧ q < 9 * k + 9 + 9
    · rw [sw_hi a, sn_l (by omega), sn_h (by omega)]
    · by_cases b : 9 * k ≤ q ∧ q < 9 * k + 9
      · rw [sw_lo (by omega) b, sn_a (by omega) (by omega), sn_a (by omega) b, show q + 9 - 9 * (k + 1) = q - 9 * k by omega]
      · rw [sw_no a b]
        by_cases c : 9 * (k + 1) + 9 ≤ q ∧ q < 9 * n + 9
        · rw [sn_h c, sn_h (by omega)]
        · rw [sn_l (by omega), sn_l (by omega)]
  · rw [sw_nf hj]
    by_cases h2 : j = 212
    · subst h2
      by_cases h3 : q = 1
      · rw [h3, sn_1, sn_1]
      · rw [sn_2 h3, sn_2 h3]
    · rw [sn_nf hj h2, sn_nf hj h2]
theorem snk_lo {V : VV} {n k c s : Nat} (hs : s < k) (hc : c < 9) : GF (snkV V n k) c s = GF V c s := by
  unfold GF snkV
  rw [if_neg (by omega), if_neg (by omega)]
theorem snk_at {V : VV} {n k c : Nat} (hk : k ≤ n) (hc : c < 9) : GF (snkV V n k) c k = GF V c n := by
  unfold GF snkV
  rw [if_pos (by omega), if_pos (by omega), show 9 * n + (9 * k + c - 9 * k) = 9 * n + c by omega]
theorem snk_hi {V : VV} {n k c s : Nat} (h1 : k < s) (h2 : s ≤ n) (hc : c < 9) : GF (snkV V n k) c s = GF V c (s - 1) := by
  unfold GF snkV
  rw [if_pos (by omega), if_neg (by omega), show 9 * s + c - 9 = 9 * (s - 1) + c by omega]
theorem ckW_at {o : Nat} {V : VV} {d : Int32} {n k s : Nat} (hs : s < n) (hd : GF V 2 s = d) (hk : k < 4) : AW o (ckW o V d n) k s = airR (GF V) (V 210) k s := by
  show ckW o V d n o (4 * s + k) = _
  unfold ckW
  rw [show (4 * s + k) / 4 = s by omega, show (4 * s + k) % 4 = k by omega, if_pos ⟨rfl, hs, hd⟩]
section
variable {E : EE} {own : String} {cc : ByteArray} {ret : Option FieldType} {nL D MC MS pc : Nat} {ls : zLS} {st : List AV} {V : VV} {L : LL} {N : NN} {I : List Nat} {a b : Nat}
theorem x_drop {x : Nat} (hx : ¬ eI E x) (K : Wx E pc ls st V L N I a b) : Wx E pc ls st V L N (I ++ [x]) a b := by
  intro ad H locs lsa hP hD hS hA hl
  have up : ∀ {k : Nat} {q : Nat × va_E}, (wsM (eK E) ad V L N I)[k]? = some q → (wsM (eK E) ad V L N (I ++ [x]))[k]? = some q := by
    intro k q hq
    unfold wsM at hq ⊢
    rw [List.map_append, List.getElem?_append_left (List.getElem?_eq_some_iff.mp hq).1]
    exact hq
  refine K ad H locs lsa (fun k q hq => hP k q (up hq)) ⟨fun i j p q hp hq he => hD.1 i j p q (up hp) (up hq) he, fun k q hq => hD.2 k q (up hq)⟩ hS ⟨hA.1, fun i hi => (hA.2 i hi).imp id (fun h => ?_)⟩ hl
  rcases List.mem_append.mp h with h | h
  · exact h
  · rw [List.mem_singleton.mp h] at hi
    exact absurd hi hx
end
