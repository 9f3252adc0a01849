-- ahead: what other shows and overruns would bring
/-- the same but for what is written anew, the row behind all shows, and the overrun of one show -/
def Su (n q0 : Nat) (V M : VV) : Prop := ∀ i j, ¬ (5 ≤ i ∧ i ≤ 19) → ¬ (218 ≤ i ∧ i ≤ 221) → ¬ (i = 213 ∧ (9 * n ≤ j ∨ j = q0)) → M i j = V i j
section
variable {V M M2 : VV} {n q0 T : Nat}
theorem su_r : Su n q0 V V := fun _ _ _ _ _ => rfl
theorem Su.f (h : Su n q0 V M) {i : Nat} (h1 : ¬ (5 ≤ i ∧ i ≤ 19)) (h2 : ¬ (218 ≤ i ∧ i ≤ 221)) (h3 : i ≠ 213) : M i = V i := funext fun j => h i j h1 h2 fun z => h3 z.1
theorem Su.sq (h : Su n q0 V M) (q : Sq M M2) : Su n q0 V M2 := fun i j a b c => by rw [q i a]; exact h i j a b c
theorem Su.z (h : Su n q0 V M) : M 201 = V 201 := h.f (by decide) (by decide) (by decide)
theorem PR.su (hP : PR V n) (h : Su n q0 V M) : PR M n :=
  ⟨P2.cg hP.2.1 (fun i a b => h.f (by omega) (by omega) (by omega)) (fun j _ => congrFun h.z j) hP.1, Rw.cg (fun j _ => congrFun h.z j) hP.2⟩
theorem Su.lay (h : Su n q0 V M) {k g d st ln sp o id : Int32} : Su n q0 V (layV M n k g d st ln sp o id) := fun i j a b c => by
  by_cases e : i = 213
  · subst e
    have hj : ¬ (9 * n ≤ j ∨ j = q0) := fun z => c ⟨rfl, z⟩
    unfold layV
    rw [up_nk (by omega), up_nk (by omega), up_nk (by omega), up_nk (by omega), up_nk (by omega), up_nk (by omega), up_nk (by omega), up_nk (by omega), up_nk (by omega)]
    exact h 213 j a b c
  · unfold layV
    rw [up_no e, up_no e, up_no e, up_no e, up_no e, up_no e, up_no e, up_no e, up_no e]
    exact h i j a b c
theorem lay_at {M : VV} {n : Nat} {k g d st ln sp o id : Int32} : GF (layV M n k g d st ln sp o id) 0 n = k ∧ GF (layV M n k g d st ln sp o id) 1 n = g ∧ GF (layV M n k g d st ln sp o id) 2 n = d ∧ GF (layV M n k g d st ln sp o id) 3 n = st ∧ GF (layV M n k g d st ln sp o id) 4 n = ln ∧ GF (layV M n k g d st ln sp o id) 5 n = sp ∧ GF (layV M n k g d st ln sp o id) 6 n = 0 ∧ GF (layV M n k g d st ln sp o id) 7 n = o ∧ GF (layV M n k g d st ln sp o id) 8 n = id := by
  unfold GF layV
  refine ⟨?_, ?_, ?_, ?_, ?_, ?_, ?_, ?_, ?_⟩
  · rw [up_nk (by omega), up_nk (by omega), up_nk (by omega), up_nk (by omega), up_nk (by omega), up_nk (by omega), up_nk (by omega), up_nk (by omega), Nat.add_zero, up_ss]
  · rw [up_nk (by omega), up_nk (by omega), up_nk (by omega), up_nk (by omega), up_nk (by omega), up_nk (by omega), up_nk (by omega), up_ss]
  · rw [up_nk (by omega), up_nk (by omega), up_nk (by omega), up_nk (by omega), up_nk (by omega), up_nk (by omega), up_ss]
  · rw [up_nk (by omega), up_nk (by omega), up_nk (by omega), up_nk (by omega), up_nk (by omega), up_ss]
  · rw [up_nk (by omega), up_nk (by omega), up_nk (by omega), up_nk (by omega), up_ss]
  · rw [up_nk (by omega), up_nk (by omega), up_nk (by omega), up_ss]
  · rw [up_nk (by omega), up_nk (by omega), up_ss]
  · rw [up_nk (by omega), up_ss]
  · rw [up_ss]
theorem lay_lo {M : VV} {n s c : Nat} {k g d st ln sp o id : Int32} (hs : s < n) (hc : c < 9) : GF (layV M n k g d st ln sp o id) c s = GF M c s := by
  unfold GF layV
  rw [up_nk (by omega), up_nk (by omega), up_nk (by omega), up_nk (by omega), up_nk (by omega), up_nk (by omega), up_nk (by omega), up_nk (by omega), up_nk (by omega)]
theorem lay_no {M : VV} {n i : Nat} {k g d st ln sp o id : Int32} (h : i ≠ 213) : layV M n k g d st ln sp o id i = M i := by
  unfold layV
  rw [up_nf h, up_nf h, up_nf h, up_nf h, up_nf h, up_nf h, up_nf h, up_nf h, up_nf h]
theorem refR_fg {F R : Nat → Nat → Int32} {G G2 : Nat → Int32} (h : FA F R n) (hG : GEq G G2) {al al2 kd g d st ln sp : Int32} {o o2 : Nat} (ha : al = al2) (ho : kd = 2 → o = o2 ∧ o < n) : refR F G al n kd g d st ln sp o = refR R G2 al2 n kd g d st ln sp o2 := by
  have e1 : orTo (hitS F d st ln) n = orTo (hitS R d st ln) n := or_cg fun s hs => by unfold hitS; rw [h 2 (by decide) s hs, h 3 (by decide) s hs, h 4 (by decide) s hs]
  have e2 : orTo (exR F (G 6) n d st sp) 24 = orTo (exR R (G2 6) n d st sp) 24 := or_cg fun x _ => by unfold exR; rw [planR_fg h, hG 6 (by decide)]
  unfold refR
  rw [e1, e2, hG 0 (by decide), hG 1 (by decide), hG 5 (by decide), wolS_fg h, ha]
  by_cases k2 : kd = 2
  · obtain ⟨rfl, q⟩ := ho k2
    have e3 : earlS F (G 4) o = earlS R (G2 4) o := by unfold earlS; rw [h 2 (by decide) o q, h 3 (by decide) o q, h 4 (by decide) o q, hG 4 (by decide)]
    rw [e3, h 0 (by decide) o q]
  · rw [if_neg (show ¬ (kd = 2 ∧ F 0 o = 2) from fun z => k2 z.1), if_neg (show ¬ (kd = 2 ∧ R 0 o2 = 2) from fun z => k2 z.1), if_neg (show ¬ (kd = 2 ∧ 1440 * d + st < earlS F (G 4) o) from fun z => k2 z.1), if_neg (show ¬ (kd = 2 ∧ 1440 * d + st < earlS R (G2 4) o2) from fun z => k2 z.1)]
theorem refR_n {F : Nat → Nat → Int32} {G : Nat → Int32} {al kd g d st ln sp : Int32} {n o : Nat} : refR F G al n kd g d st ln sp o = 0 ∨ 0 < refR F G al n kd g d st ln sp o := by
  unfold refR
  repeat' split
  all_goals decide
theorem Su.fa (h : Su n (9 * n) V M) (ht : Tie V n T) : FA (GF M) (RF V) n := fun k hk s hs => (h 213 (9 * s + k) (by decide) (by decide) (by omega)).trans (ht.f hs hk)
theorem Su.se (h : Su n q0 V M) (ht : Tie V n T) : GEq (M 210) (V 201) := fun k hk => (congrFun (h.f (by decide) (by decide) (by decide)) k).trans (ht.se k hk)
theorem Su.al (h : Su n q0 V M) (ht : Tie V n T) {g : Nat} (hg : g < 6) : M 211 (5 * g) + M 211 (5 * g + 1) = alN V g := by
  have e : M 211 = V 211 := h.f (by decide) (by decide) (by decide)
  rw [e, ht.gr (by omega), ht.gr (by omega)]
  rfl
theorem Su.d1 (h : Su n q0 V M) (ht : Tie V n T) : M 212 1 = nI n := (congrFun (h.f (by decide) (by decide) (by decide)) 1).trans ht.d1
theorem Su.i8 (h : Su n (9 * n) V M) {s : Nat} (hs : s < n) : GF M 8 s = GF V 8 s := h 213 (9 * s + 8) (by decide) (by decide) (by omega)
theorem Tie.by2 (ht : Tie V n T) {s : Nat} (hs : s < n) : fstF (fun t => decide (GF V 8 t = GF V 8 s)) n 0 = some s := by
  obtain ⟨id, a, b, c⟩ := ht.id
  have hT := ht.2.1
  have e : ∀ t, t < n → (decide (GF V 8 t = GF V 8 s) = true ↔ t = s) := fun t h1 => by
    rw [decide_eq_true_eq, (a t h1).1, (a s hs).1, nI_eq (by have := (a t h1).2; omega) (by have := (a s hs).2; omega)]
    exact ⟨fun z => b t s h1 hs z, fun z => by rw [z]⟩
  refine fst_is (Nat.zero_le _) (by omega) ((e s hs).mpr rfl) (fun j _ hj => ?_)
  cases q : decide (GF V 8 j = GF V 8 s) with
  | false => rfl
  | true => have := (e j (by omega)).mp q; omega
theorem fstF_cg2 {p q : Nat → Bool} {n : Nat} (h : ∀ j, j < n → p j = q j) : fstF p n 0 = fstF q n 0 := fst_cg fun j _ b => h j (by omega)
end
section
variable {l : Launch} {V M : VV} {L : LL} {N : NN} {I : List Nat} {n T : Nat}
theorem lay_sb (hP : PR V n) (ht : Tie V n T) (hs : Su n (9 * n) V M) {k g d st ln sp o id : Int32} (h0 : k = 0 ∨ k = 1 ∨ k = 2) (h1 : 0 ≤ g.toInt ∧ g.toInt ≤ 5) (h2 : 0 ≤ d.toInt ∧ d.toInt ≤ 6) (h3 : 0 ≤ st.toInt ∧ st.toInt ≤ 1439) (h4 : 5 ≤ ln.toInt ∧ ln.toInt ≤ 240) (h5 : 0 ≤ sp.toInt ∧ sp.toInt ≤ 30) :
    ∀ s, s < n + 1 → ShB (GF (layV M n k g d st ln sp o id)) s := fun s hs2 => by
  by_cases e : s = n
  · subst e
    obtain ⟨a0, a1, a2, a3, a4, a5, a6, _⟩ := lay_at (M := M) (n := s) (k := k) (g := g) (d := d) (st := st) (ln := ln) (sp := sp) (o := o) (id := id)
    unfold ShB
    rw [a0, a1, a2, a3, a4, a5, a6]
    refine ⟨?_, h1, h2, h3, h4, h5, by decide⟩
    rcases h0 with rfl | rfl | rfl <;> decide
  · have hlt : s < n := by omega
    have hb := shB_fg (hs.fa ht) hP.2.2.2.2.1 s hlt
    unfold ShB at hb ⊢
    rw [lay_lo hlt (by decide), lay_lo hlt (by decide), lay_lo hlt (by decide), lay_lo hlt (by decide), lay_lo hlt (by decide), lay_lo hlt (by decide), lay_lo hlt (by decide)]
    exact hb
/-- why a show that is laid behind all others would be refused -/
theorem tl_why (hI : PI I) (hP : PR V n) (ht : Tie V n T) (hs : Su n (9 * n) V M) {k d st ln sp o id : Int32} {g q : Nat} (h0 : k = 0 ∨ k = 1 ∨ k = 2) (hg : g < 6) (h2 : 0 ≤ d.toInt ∧ d.toInt ≤ 6) (h3 : 0 ≤ st.toInt ∧ st.toInt ≤ 1439) (h4 : 5 ≤ ln.toInt ∧ ln.toInt ≤ 240) (h5 : 0 ≤ sp.toInt ∧ sp.toInt ≤ 30) (hk : k = 2 → q < n ∧ o = GF V 8 q) :
    Runs l 3 0 0 yL_why (Cond.code yL_why cL_why 14 (some .int)) [aR 210, aR 211, aR 212, aR 213] (layV M n k (nI g) d st ln sp o id) L N I (Is (some (aI (refR (RF V) (V 201) (alN V g) n k (nI g) d st ln sp q))) (layV M n k (nI g) d st ln sp o id) L N I) := by
  have hs2 : Su n (9 * n) V (layV M n k (nI g) d st ln sp o id) := hs.lay
  obtain ⟨a0, a1, a2, a3, a4, a5, a6, a7, a8⟩ := lay_at (M := M) (n := n) (k := k) (g := nI g) (d := d) (st := st) (ln := ln) (sp := sp) (o := o) (id := id)
  have hn6 := ht.n6
  have := c_L_why (l := l) (L := L) (N := N) (V := layV M n k (nI g) d st ln sp o id) hI (hs2.d1 ht) hn6 (lay_sb hP ht hs h0 (by rw [t_nat (by omega)]; omega) h2 h3 h4 h5) (gb_cg (hs2.se ht) (rw_gb hP.2)) (g := g) (o := q) a1 hg (fun z => (hk (a0.symm.trans z)).1) (fun z => by
    obtain ⟨hq, ho⟩ := hk (a0.symm.trans z)
    rw [← ht.by2 hq]
    exact fstF_cg2 fun j hj => by rw [hs2.i8 hj, a7, ho])
  rw [a0, a2, a3, a4, a5] at this
  rwa [refR_fg (hs2.fa ht) (hs2.se ht) (hs2.al ht hg) (fun z => ⟨rfl, (hk z).1⟩)] at this
theorem tl_dayX (hI : PI I) (h218 : 218 ∉ I) {U : VV} (hF : FA (GF M) (RF U) n) (hG : GEq (M 210) (U 201)) (hd1 : M 212 1 = nI n) (hn6 : n ≤ 6) (hb : ∀ s, s < n → ShB (RF U) s) (hgb : GB (U 201)) {d w : Nat} (hw : w < 8) : Runs l 3 1 28 yL_dayPart (Cond.code yL_dayPart cL_dayPart 10 (some .int)) [aI (nI d), aI (nI w), aR 210, aR 212, aR 213] M L N I (Is (some (aI (dN U n (nI d) w))) M L N I) := by
  have := c_L_dayPart (l := l) (L := L) (N := N) hI h218 hd1 hn6 (shB_fg hF hb) (gb_cg hG hgb) (nI d) w hw
  rwa [dayR_fg hF (fun s a k b => air_cg hF hG a) (clk_cg hF hG (Nat.le_refl n)) (hG 6 (by decide))] at this
end
/-- how many others of a day are dropped: none -/
theorem lost_0 {U : VV} {n s : Nat} {x : Int32} (hs : s < n) (hn : n ≤ 24) (hx : x = sumTo (fun i => if i ≠ s ∧ RF U 2 i = RF U 2 s ∧ airR (RF U) (U 201) 3 i = 2 then 1 else 0) n) : x = 0 ↔ dN U n (RF U 2 s) 4 - b2i (decide (airR (RF U) (U 201) 3 s = 2)) = 0 := by
  rw [dN4 hs hn, hx, sum_cnt (p := fun i => decide (i ≠ s ∧ RF U 2 i = RF U 2 s ∧ airR (RF U) (U 201) 3 i = 2)) (fun t _ => by
    dsimp only [b2i]
    by_cases q : t ≠ s ∧ RF U 2 t = RF U 2 s ∧ airR (RF U) (U 201) 3 t = 2
    · rw [if_pos q, if_pos (decide_eq_true q)]
    · rw [if_neg q, if_neg (fun z => q (of_decide_eq_true z))])]
  have hle := cntN_le (fun i => decide (i ≠ s ∧ RF U 2 i = RF U 2 s ∧ airR (RF U) (U 201) 3 i = 2)) n
  rw [show (0 : Int32) = nI 0 from rfl, nI_eq (by omega) (by decide), cnt_0]
  refine ⟨fun h t ht hts hd => ?_, fun h t ht => ?_⟩
  · have := of_decide_eq_false (h t ht)
    cases e : drR (RF U) (U 201) (clkR (RF U) (U 201) (RF U 2 t) t) t with
    | false => rfl
    | true => exact absurd ⟨hts, hd, air3.mpr e⟩ this
  · refine decide_eq_false fun z => ?_
    have := h t ht z.1 z.2.1
    rw [air3.mp z.2.2] at this; cases this
theorem ov_fa {V M : VV} {n s T : Nat} {b : Int32} (ht : Tie V n T) (hs : s < n) (h : Su n (9 * s + 6) V M) (h6 : M 213 (9 * s + 6) = b) : FA (GF M) (RF (ovR V s b)) n := fun k hk t htn => by
  have hn := ht.n6
  by_cases e : t = s ∧ k = 6
  · obtain ⟨rfl, rfl⟩ := e
    rw [RF_ovs]; exact h6
  · have e2 : RF (ovR V s b) k t = RF V k t := by
      unfold RF ovR
      rw [up_nk (by omega)]
    rw [e2, ← ht.f htn hk]
    exact h 213 (9 * t + k) (by decide) (by decide) (by omega)
theorem ov_ge {V M : VV} {n s T : Nat} {b : Int32} (ht : Tie V n T) (h : Su n (9 * s + 6) V M) : GEq (M 210) ((ovR V s b) 201) := fun k hk => by rw [ov_g (by omega)]; exact h.se ht k hk
theorem by_t {k : Nat} (hk : k ≤ 181) : (nI k - 60).toInt = k - 60 := by
  rw [t_sub (by rw [t_nat (by omega)]; have : (60 : Int32).toInt = 60 := rfl; omega) (by rw [t_nat (by omega)]; have : (60 : Int32).toInt = 60 := rfl; omega), t_nat (by omega)]
  rfl
theorem by_61 (k : Nat) : nI (k + 1) - 61 = nI k - 60 := by
  have e : nI (k + 1) = nI k + 1 := nI_succ k
  rw [e, Int32.sub_eq_add_neg, Int32.sub_eq_add_neg, Int32.add_assoc]
  rfl
theorem repN_cg {V V1 : VV} (h : V1 201 = V 201) {n g o : Nat} : ∀ {k i : Nat}, repN V1 n g o k i = repN V n g o k i
  | 0, _ => rfl
  | k + 1, i => by
    have e : ∀ d st, rfoN V1 n g o d st = rfoN V n g o d st := fun d st => by unfold rfoN alN; rw [RF_z h, h]
    unfold repN
    rw [e, repN_cg h]
theorem lay_id {M W : VV} {n : Nat} {k g d st ln sp o id : Int32} (h : M 213 = layV W n k g d st ln sp o id 213) : layV M n k g d st ln sp o id = M := by
  have e : ∀ j, layV M n k g d st ln sp o id 213 j = M 213 j := fun j => by
    rw [h]
    by_cases hj : 9 * n ≤ j ∧ j ≤ 9 * n + 8
    · rcases (show j = 9 * n ∨ j = 9 * n + 1 ∨ j = 9 * n + 2 ∨ j = 9 * n + 3 ∨ j = 9 * n + 4 ∨ j = 9 * n + 5 ∨ j = 9 * n + 6 ∨ j = 9 * n + 7 ∨ j = 9 * n + 8 by omega) with rfl | rfl | rfl | rfl | rfl | rfl | rfl | rfl | rfl <;> simp [layV, up]
    · rw [← h]
      unfold layV
      rw [up_nk (by omega), up_nk (by omega), up_nk (by omega), up_nk (by omega), up_nk (by omega), up_nk (by omega), up_nk (by omega), up_nk (by omega), up_nk (by omega)]
  funext i
  by_cases hi : i = 213
  · subst hi; exact funext e
  · exact lay_no hi
