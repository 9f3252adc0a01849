-- the class's calls that change something: the row of numbers afterwards, what is saved
def Mt2 (V V2 : VV) (N2 : NN) (I2 : List Nat) (m : Nat) (Z : (Nat → Int32) → Prop) (lr : Int32) : Prop :=
  (∀ i, 210 ≤ i → V2 i = V i) ∧ ∃ V3 : VV, (∀ i, ¬ (200 ≤ i ∧ i ≤ 209) → V3 i = V2 i) ∧ Inv V3 N2 I2 ∧ Z (V3 201) ∧ (m < 6 → V3 200 2 = nI (m + 1) ∧ ∀ j, j < 232 → V3 202 (232 * m + j) = V 201 j) ∧ V3 0 6 = lr
def MutR (l : Launch) (D mc ms : Nat) (y : MethodName) (w0 : Cond) (args : List AV) (V : VV) (L : LL) (N : NN) (I : List Nat) (m : Nat) (r : Int32) (Z : (Nat → Int32) → Prop) (lr : Int32) : Prop :=
  ∃ P : PP, Runs l D mc ms y w0 args V L N I P ∧ ∀ r1 V2 L2 N2 I2, P r1 V2 L2 N2 I2 → r1 = .inl (some (aI r)) ∧ L2 = L ∧ Mt2 V V2 N2 I2 m Z lr
theorem sv_top {U : VV} {m j : Nat} (hm : m < 6) (hj : j < 232) : svR U m 202 (232 * m + j) = U 201 j := by
  unfold svR
  rw [if_neg (by omega), up_no (by decide)]
  unfold cpSv
  rw [if_pos ⟨rfl, by omega, by omega⟩, show 232 * m + j - 232 * m = j by omega]
theorem svM_lt {m : Nat} (hm : m < 6) : svM m = m := if_neg (by omega)
theorem cf_out {V : VV} {s d i : Nat} (h : i < d ∨ d + 16 < i) : cfV V s d i = V i := by
  unfold cfV
  have hc : ∀ {W : VV} {a b k : Nat}, i ≠ b → cpy W a b k i = W i := fun {W a b k} hb => cpy_no hb
  rw [hc (by omega), hc (by omega), hc (by omega), hc (by omega), hc (by omega), hc (by omega), hc (by omega), hc (by omega), up_nf (by omega), up_nf (by omega), hc (by omega), hc (by omega), hc (by omega), hc (by omega), hc (by omega), hc (by omega)]
section
variable {l : Launch} {V : VV} {L : LL} {N : NN} {I : List Nat} {n o m l0 : Nat}
theorem one_mut {V1 : VV} {N2 : NN} {I2 : List Nat} (h : InvX V N I n o m l0) (hsv : SavP V N o m V1 N2) (hIN : IN N2 I2) {ra p q : Nat} {v : Int32} (hra : 21 ≤ ra ∧ ra ≤ 36)
    (hc : (ra = 21 ∧ p < 8 ∧ q = p) ∨ (ra = 22 ∧ p < 6 ∧ q = 8 + 5 * p) ∨ (ra = 35 ∧ p < n ∧ q = 40 + 8 * p + 6)) (hc2 : (q < 8 ∧ isValB q v = true) ∨ (8 ≤ q ∧ q < 38) ∨ ∃ s, s < n ∧ q = 40 + 8 * s + 6 ∧ -60 ≤ v.toInt ∧ v.toInt ≤ 120) :
    Mt2 V (up V1 ra p v) N2 I2 m (fun z => ∀ j, z j = if j = q then v else V 201 j) (V 0 6) := by
  have e1 : ∀ i, i ≠ 1 → (i < 40 ∨ 157 ≤ i) → V1 i = V i := fun i a b => hsv.no b a
  have hI := one_inv h hsv hIN (ra := ra) (p := p) (q := q) (v := v) hra rfl rfl (one_p2 h hsv rfl hc) (one_rw h hsv (by omega) rfl hc2)
  have e201 : (up (up V1 ra p v) 200 0 0) 201 = V 201 := by rw [up_nf (by decide), up_nf (by omega), e1 201 (by decide) (by decide)]
  refine ⟨fun i hi => by rw [up_nf (by omega), e1 i (by omega) (by omega)], up (svR (up (up V1 ra p v) 200 0 0) m) 201 q v, fun i hi => ?_, hI.2, fun j => ?_, fun hm => ⟨?_, fun j hj => ?_⟩, ?_⟩
  · rw [up_nf (by omega), svR_i (by omega) (by omega), up_nf (by omega)]
  · by_cases w : j = q
    · rw [if_pos w, w, up_ss]
    · rw [if_neg w, up_nk w, svR_i (by decide) (by decide), e201]
  · rw [up_no (by decide), svR_2, svM_lt hm]
  · rw [up_no (by decide), sv_top hm hj, e201]
  · rw [up_no (by decide), svR_i (by decide) (by decide), up_nf (by decide), up_nf (by omega), e1 0 (by decide) (by decide)]
theorem m_set (h : InvX V N I n o m l0) {s : Nat} (hs : s < 8) {y : Int32} (hy : isValB s y = true) : MutR l 6 15 246 yX6_set (Cond.code yX6_set cX6_set 4 (some .int)) [aR 0, aI (nI s), aI y] V L N I m (V 201 s) (fun z => ∀ j, z j = if j = s then y else V 201 j) (V 0 6) := by
  refine ⟨_, c_X6_set h.2.2.1 (nI s) y, fun r V2 L2 N2 I2 hp => ?_⟩
  have hcl : (nI s).toNatClampNeg = s := nI_clamp (by omega)
  rcases ei_c hp with ⟨_, hp⟩ | ⟨b, _⟩
  · rcases ei_c hp with ⟨_, hp⟩ | ⟨b, _⟩
    · obtain ⟨V1, hsv, hV2, rfl, rfl, hIN⟩ := hp
      rw [hcl] at hV2
      subst hV2
      exact ⟨by rw [hcl]; exact congrArg (fun z => Sum.inl (some (aI z))) (h.1.1 s hs), rfl, one_mut h hsv hIN (by decide) (Or.inl ⟨rfl, hs, rfl⟩) (Or.inl ⟨hs, hy⟩)⟩
    · exact tf (by rw [hcl]; exact hy) b
  · exact tf (win_n (w := s) (k := 7) (by omega) (by decide)) b
theorem m_quota (h : InvX V N I n o m l0) {g : Nat} (hg : g < 6) {y : Int32} (hy : withinB y 0 2000 = true) : MutR l 6 15 246 yX6_setQuota (Cond.code yX6_setQuota cX6_setQuota 4 (some .int)) [aR 0, aI (nI g), aI y] V L N I m (V 201 (8 + 5 * g)) (fun z => ∀ j, z j = if j = 8 + 5 * g then y else V 201 j) (V 0 6) := by
  refine ⟨_, c_X6_setQuota h.2.2.1 (nI g) y, fun r V2 L2 N2 I2 hp => ?_⟩
  have hcl : (nI g).toNatClampNeg = g := nI_clamp (by omega)
  rcases ei_c hp with ⟨_, hp⟩ | ⟨b, _⟩
  · rcases ei_c hp with ⟨_, hp⟩ | ⟨b, _⟩
    · obtain ⟨V1, hsv, hV2, rfl, rfl, hIN⟩ := hp
      rw [hcl] at hV2
      subst hV2
      exact ⟨by rw [hcl]; exact congrArg (fun z => Sum.inl (some (aI z))) (h.1.2.1 g hg 0 (by decide)), rfl, one_mut h hsv hIN (by decide) (Or.inr (Or.inl ⟨rfl, hg, rfl⟩)) (Or.inr (Or.inl ⟨by omega, by omega⟩))⟩
    · exact tf hy b
  · exact tf (win_n (w := g) (k := 5) (by omega) (by decide)) b
theorem m_over (h : InvX V N I n o m l0) {s : Nat} (hs : s < n) (h0 : RF V 0 s = 0) {y : Int32} (hy : -60 ≤ y.toInt ∧ y.toInt ≤ 120) : MutR l 6 15 246 yX6_overrun (Cond.code yX6_overrun cX6_overrun 4 (some .int)) [aR 0, aI (nI s), aI y] V L N I m (RF V 6 s) (fun z => ∀ j, z j = if j = 40 + 8 * s + 6 then y else V 201 j) (V 0 6) := by
  have hn24 := h.2.1.1
  refine ⟨_, c_X6_overrun h.2.2.1 h.1.2.2.2.1 hn24 (nI s) y, fun r V2 L2 N2 I2 hp => ?_⟩
  have hcl : (nI s).toNatClampNeg = s := nI_clamp (by omega)
  have e29 : V 29 s = RF V 0 s := h.1.2.2.2.2 0 (by decide) s hs
  rcases ei_c hp with ⟨_, hp⟩ | ⟨b, _⟩
  · rcases ei_c hp with ⟨_, hp⟩ | ⟨b, _⟩
    · rcases ei_c hp with ⟨_, hp⟩ | ⟨b, _⟩
      · obtain ⟨V1, hsv, hV2, rfl, rfl, hIN⟩ := hp
        rw [hcl] at hV2
        subst hV2
        exact ⟨by rw [hcl]; exact congrArg (fun z => Sum.inl (some (aI z))) (h.1.2.2.2.2 6 (by decide) s hs), rfl, one_mut h hsv hIN (by decide) (Or.inr (Or.inr ⟨rfl, hs, rfl⟩)) (Or.inr (Or.inr ⟨s, hs, rfl, hy⟩))⟩
      · exact tf (decide_eq_true (by rw [hcl, e29]; exact h0)) b
    · exact tf (win_t.mpr (show ((-60 : Int32)).toInt ≤ y.toInt ∧ y.toInt ≤ ((120 : Int32)).toInt from hy)) b
  · exact tf (num_n hs hn24) b
/-- the row behind a removal -/
def rmZ (V : VV) (n p : Nat) : VV := delR (rmR n V n p 1).1 ((rmR n V n p 1).2.1 - 1) p
theorem m_remove (h : InvX V N I n o m l0) {p : Nat} (hp : p < n) : MutR l 6 15 246 yX6_remove (Cond.code yX6_remove cX6_remove 2 (some .int)) [aR 0, aI (nI p)] V L N I m (nI (rmR n V n p 1).2.2.2) (fun z => z = rmZ V n p 201) (V 0 6) := by
  have hn24 := h.2.1.1
  refine ⟨_, c_X6_remove h.2.2.1 h.1.2.2.2.1 hn24 (nI p), fun r V2 L2 N2 I2 hp2 => ?_⟩
  have hcl : (nI p).toNatClampNeg = p := nI_clamp (by omega)
  rcases ei_c hp2 with ⟨_, hp2⟩ | ⟨b, _⟩
  · obtain ⟨V1, hsv, hV2, rfl, rfl, hIN⟩ := hp2
    rw [hcl] at hV2
    have e1 : ∀ i, i ≠ 1 → (i < 40 ∨ 157 ≤ i) → V1 i = V i := fun i a b => hsv.no b a
    have hk : p + (n - 1 - p) + 1 = n := by omega
    have hP1 : P2 V1 20 (V 201) n := P2.cg hn24 (fun i a b => e1 i (by omega) (by omega)) (fun j _ => rfl) h.1
    have rB := rm_rel (p := p) (k := n - 1 - p) (V := V1) (U := V) (n := n) (c := 1) (by omega) hP1 h.2.1 (fun s a b => by omega)
    rw [hk] at rB
    obtain ⟨j1, j2, j3, j4, j5, j6, j7, j8, j9, i10⟩ := rB
    obtain ⟨n2, hn2⟩ : ∃ n2, (remL p (n - 1 - p) V1 n).2 = n2 + 1 := ⟨(remL p (n - 1 - p) V1 n).2 - 1, by omega⟩
    have f2 : ∀ i, i < 20 ∨ 36 < i → V2 i = V1 i := fun i hi => by rw [hV2, del_nf (by omega) (by omega)]; exact i10 i hi
    have e201 : V2 201 = V 201 := (f2 201 (by omega)).trans (e1 201 (by decide) (by decide))
    rw [hn2, Nat.add_sub_cancel] at hV2
    rw [hn2] at j1 j2 j4 j7 j8 j5
    have hZ : rmZ V n p = delR (rmR n V n p 1).1 n2 p := by unfold rmZ; rw [j2, Nat.add_sub_cancel]
    have hP3 : P2 V2 20 (rmZ V n p 201) n2 := by
      have := del_rel (p := p) j1
      rw [← hV2] at this
      rw [hZ]; exact this
    have hR3 : Rw (rmZ V n p 201) n2 := by rw [hZ]; exact del_row j7 (by omega) (fun s hs => j8 s (by omega))
    have eS : ∀ i, i ≠ 202 → i ≠ 200 → svR (up V2 200 0 0) m i = V2 i := fun i a b => by rw [svR_i a b, up_nf b]
    refine ⟨?_, rfl, fun i hi => by rw [f2 i (by omega), e1 i (by omega) (by omega)], fun i => if i = 201 then rmZ V n p 201 else svR (up V2 200 0 0) m i, fun i hi => ?_, ?_, if_pos rfl, fun hm => ⟨?_, fun j hj => ?_⟩, ?_⟩
    · rw [hcl, hn2, Nat.add_sub_cancel, nI_subn (by omega)]
      exact congrArg (fun z => Sum.inl (some (aI (nI z)))) (by omega)
    · dsimp only
      rw [if_neg (by omega), eS i (by omega) (by omega)]
    · refine mut_fr (n2 := n2) h hsv hIN (fun i hi => f2 i (by omega)) (fun i a b _ => if_neg b) (fun j _ => by rw [if_neg (by decide)]) ?_ ?_
      · rw [if_pos rfl]
        exact P2.cg (by omega) (fun i a b => by rw [if_neg (by omega), eS i (by omega) (by omega)]) (fun _ _ => rfl) hP3
      · rw [if_pos rfl]; exact hR3
    · dsimp only
      rw [if_neg (by decide), svR_2, svM_lt hm]
    · dsimp only
      rw [if_neg (by decide), sv_top hm hj, up_nf (by decide), e201]
    · dsimp only
      rw [if_neg (by decide), eS 0 (by decide) (by decide), f2 0 (by omega), e1 0 (by decide) (by decide)]
  · exact tf (num_n hp hn24) b
theorem m_close (h : InvX V N I n o m l0) (hw : (V 201 38).toInt < 1000) : MutR l 6 15 246 yX6_closeWeek (Cond.code yX6_closeWeek cX6_closeWeek 2 (some .int)) [aR 0] V L N I m (V 201 38 + 1) (fun z => z = cwR V n 201) (V 0 6) := by
  have hn24 := h.2.1.1
  have hw2 : V 20 6 = V 201 38 := h.1.2.2.1
  refine ⟨_, c_X6_closeWeek h.2.2.1 h.1.2.2.2.1 hn24 h.d, fun r V2 L2 N2 I2 hp => ?_⟩
  rcases ei_c hp with ⟨b1, hp⟩ | ⟨b, _⟩
  · obtain ⟨V1, Va, hsv, hA, hV2, rfl, rfl, hIN⟩ := hp
    have e1 : ∀ i, i ≠ 1 → (i < 40 ∨ 157 ≤ i) → V1 i = V i := fun i a b => hsv.no b a
    have ez1 : V1 201 = V 201 := e1 201 (by decide) (by decide)
    have hq : Pq Va n := pq_of (P2.cg hn24 (fun i a b => e1 i (by omega) (by omega)) (fun j _ => congrFun ez1 j) h.1) (Rw.cg (fun j _ => congrFun ez1 j) h.2.1) hA
    have f2 : ∀ i, i < 6 ∨ (11 < i ∧ i < 20) ∨ 36 < i → V2 i = V1 i := fun i hi => by
      rw [hV2]
      unfold bwV
      rw [up_nf (by omega)]
      have : zeroV (clN n Va 6) n i = clN n Va 6 i := by funext j; unfold zeroV; rw [if_neg (by omega)]
      rw [this, clN_nf (by omega)]
      exact hA.1 i (by omega)
    have e201 : V2 201 = V 201 := (f2 201 (by omega)).trans ez1
    have eza : Va 201 = V 201 := (hA.1 201 (by decide)).trans ez1
    have hcl := cl_rel (V := Va) (U := V) (n := n) (P2.cg hn24 (fun _ _ _ => rfl) (fun j _ => congrFun eza.symm j) hq.1) (by rw [← eza]; exact rw_gb hq.2.1) (fun g hg => by
      rw [awS_sm eza.symm]
      exact wog_b (bth_of hq.1 hq.2.1) hq.2.2 rfl rfl) (g := 6) (Nat.le_refl 6)
    have hbw := bw_rel hcl
    have hcw := cw_row (U := V) (n := n) h.2.1
    rw [← hV2] at hbw
    have eS : ∀ i, i ≠ 202 → i ≠ 200 → svR (up V2 200 0 0) m i = V2 i := fun i a b => by rw [svR_i a b, up_nf b]
    refine ⟨by rw [hw2], rfl, fun i hi => by rw [f2 i (by omega), e1 i (by omega) (by omega)], fun i => if i = 201 then cwR V n 201 else svR (up V2 200 0 0) m i, fun i hi => ?_, ?_, if_pos rfl, fun hm => ⟨?_, fun j hj => ?_⟩, ?_⟩
    · dsimp only
      rw [if_neg (by omega), eS i (by omega) (by omega)]
    · refine mut_fr (n2 := n) h hsv hIN (fun i hi => f2 i (by omega)) (fun i a b _ => if_neg b) (fun j _ => by rw [if_neg (by decide)]) ?_ ?_
      · rw [if_pos rfl]
        exact P2.cg hn24 (fun i a b => by rw [if_neg (by omega), eS i (by omega) (by omega)]) (fun _ _ => rfl) hbw
      · rw [if_pos rfl]; exact hcw
    · dsimp only
      rw [if_neg (by decide), svR_2, svM_lt hm]
    · dsimp only
      rw [if_neg (by decide), sv_top hm hj, up_nf (by decide), e201]
    · dsimp only
      rw [if_neg (by decide), eS 0 (by decide) (by decide), f2 0 (by omega), e1 0 (by decide) (by decide)]
  · exact tf (decide_eq_true (by rw [hw2, t_lt]; exact hw)) b
/-- the row behind a new show -/
def NewZ (V : VV) (n : Nat) (fr : Nat → Int32) (x : Int32) (z : Nat → Int32) : Prop :=
  (∀ j, j < 39 → z j = V 201 j) ∧ (∀ s, s ≤ n → ∀ k, k < 7 → zF z k s = insB (RF V) fr (plcR (keyS (RF V)) x n) k s) ∧ (∀ s, s ≤ n → zF z 7 s = adj1 (plcR (keyS (RF V)) x n) (insB (RF V) fr (plcR (keyS (RF V)) x n) 7 s)) ∧ z 39 = nI (n + 1)
theorem new_mut {V2 : VV} {N2 : NN} {I2 : List Nat} (hV : ∀ i, 210 ≤ i → V2 i = V i) {kind g d st ln sp og : Int32} (z1 : V2 201 = V 201) (hI : Inv (addedV (tapeV (up V2 200 0 0) kind g d st ln sp og) m n) N2 I2) (h0 : V2 0 6 = 0) :
    plN (tapeV (up V2 200 0 0) kind g d st ln sp og) n = plcR (keyS (RF V)) (1440 * d + st) n ∧ Mt2 V V2 N2 I2 m (NewZ V n (fun k => if k = 0 then kind else if k = 1 then g else if k = 2 then d else if k = 3 then st else if k = 4 then ln else if k = 5 then sp else if k = 6 then 0 else og) (1440 * d + st)) 0 := by
  obtain ⟨t0, t1, t2, t3, t4, t5, t6, t7⟩ := tape_at (V := up V2 200 0 0) (k := kind) (g := g) (d := d) (s := st) (l := ln) (sp := sp) (o := og)
  have hT : ∀ i, i ≠ 204 → i ≠ 200 → tapeV (up V2 200 0 0) kind g d st ln sp og i = V2 i := fun i a b => by rw [tape_nf a, up_nf b]
  have hp : plN (tapeV (up V2 200 0 0) kind g d st ln sp og) n = plcR (keyS (RF V)) (1440 * d + st) n := by
    unfold plN
    rw [t2, t3, RF_z ((hT 201 (by decide) (by decide)).trans z1)]
  have hle := plcR_le (key := keyS (RF V)) (x := 1440 * d + st) n
  refine ⟨hp, hV, addedV (tapeV (up V2 200 0 0) kind g d st ln sp og) m n, fun i hi => ?_, hI, ?_, fun hm => ⟨?_, fun j hj => ?_⟩, ?_⟩
  · unfold addedV
    rw [insR_no (by omega), svR_i (by omega) (by omega), up_nf (by omega), up_nf (by omega), hT i (by omega) (by omega)]
  · unfold addedV
    rw [hp]
    generalize hS : svR (up (up (tapeV (up V2 200 0 0) kind g d st ln sp og) 200 4 0) 200 0 0) m = S
    have s201 : S 201 = V 201 := by rw [← hS, svR_i (by decide) (by decide), up_nf (by decide), up_nf (by decide), hT 201 (by decide) (by decide), z1]
    have s204 : ∀ k, k < 8 → S 204 k = (if k = 0 then kind else if k = 1 then g else if k = 2 then d else if k = 3 then st else if k = 4 then ln else if k = 5 then sp else if k = 6 then 0 else og) := fun k hk => by
      rw [← hS, svR_i (by decide) (by decide), up_nf (by decide), up_nf (by decide)]
      rcases (show k = 0 ∨ k = 1 ∨ k = 2 ∨ k = 3 ∨ k = 4 ∨ k = 5 ∨ k = 6 ∨ k = 7 by omega) with rfl | rfl | rfl | rfl | rfl | rfl | rfl | rfl
      · exact t0
      · exact t1
      · exact t2
      · exact t3
      · exact t4
      · exact t5
      · exact t6
      · exact t7
    refine ⟨fun j hj => by rw [insR_lo hj, s201], fun s hs k hk => ?_, fun s hs => ?_, insR_39⟩
    · rw [insR_k hk hle hs, RF_z s201]
      exact insB_cg (n := n) (fun _ _ => rfl) (s204 k (by omega)) hle hs
    · rw [insR_7 hle hs, RF_z s201]
      exact congrArg (adj1 _) (insB_cg (n := n) (fun _ _ => rfl) (s204 7 (by decide)) hle hs)
  · unfold addedV
    rw [insR_no (by decide), svR_2, svM_lt hm]
  · unfold addedV
    rw [insR_no (by decide), sv_top hm hj, up_nf (by decide), up_nf (by decide), hT 201 (by decide) (by decide), z1]
  · unfold addedV
    rw [insR_no (by decide), svR_i (by decide) (by decide), up_nf (by decide), up_nf (by decide), hT 0 (by decide) (by decide), h0]
theorem epr_06 {Vb V2 : VV} {L L2 : LL} {N N2 : NN} {I I2 : List Nat} {r : RR} {R : Int32} (hR : R = 0) (hp : EpR Vb L N I o m n R r V2 L2 N2 I2) : L2 = L ∧ V2 0 6 = 0 ∧ ∀ i, 210 ≤ i → V2 i = Vb i := by
  unfold EpR at hp
  rw [if_pos hR] at hp
  obtain ⟨V1, hsv, hV2, _, rfl, _⟩ := hp
  have e1 : ∀ i, i ≠ 1 → (i < 40 ∨ 157 ≤ i) → V1 i = up Vb 0 6 0 i := fun i a b => hsv.no b a
  refine ⟨rfl, ?_, fun i hi => ?_⟩
  · rw [hV2, ins_nf (by omega) (by omega), e1 0 (by decide) (by decide), up_ss]
  · rw [hV2, ins_nf (by omega) (by omega), e1 i (by omega) (by omega), up_nf (by omega)]
theorem m_add (h : InvX V N I n o m l0) {x d st ln sp : Int32} {g : Nat} (hx : x = 0 ∨ x = 1) (hg : g < 6) (hr : rightB (nI g) d st ln sp = true) (h0 : refR (RF V) (V 201) (alN V g) n (1 - x) (nI g) d st ln sp 0 = 0) :
    MutR l 7 15 246 yX6_add (Cond.code yX6_add cX6_add 7 (some .int)) [aR 0, aI x, aI (nI g), aI d, aI st, aI ln, aI sp] V L N I m (nI (plcR (keyS (RF V)) (1440 * d + st) n)) (NewZ V n (fun k => if k = 0 then 1 - x else if k = 1 then nI g else if k = 2 then d else if k = 3 then st else if k = 4 then ln else if k = 5 then sp else if k = 6 then 0 else -1) (1440 * d + st)) 0 := by
  have hn24 := h.2.1.1
  have hkd : kdB x = 1 - x := by rcases hx with rfl | rfl <;> decide
  have hs : Sx V (becomeV V (kdB x) (nI g) d st ln sp (-1)) := sx_bec
  refine ⟨_, c_X6_add h.2.2.1 h.1.2.2.2.1 hn24 x (nI g) d st ln sp, fun r V2 L2 N2 I2 hp => ?_⟩
  rcases ei_c hp with ⟨_, hp⟩ | ⟨b, _⟩
  · have hcl : (nI g).toNatClampNeg = g := nI_clamp (by omega)
    rw [hcl] at hp
    obtain ⟨c0, c1, c2, c3, c4, c5, c6⟩ := bec_at (V := V) (k := kdB x) (g := nI g) (d := d) (s := st) (l := ln) (sp := sp) (o := -1)
    obtain ⟨z1, m2, hIN, hcase⟩ := ent_step (q2 := 0) h hs c0 c1 c2 c3 c4 c5 c6 hr rfl hg (Or.inr ⟨by rcases hx with rfl | rfl <;> decide, rfl⟩) hp
    rw [hkd] at hcase
    have hrf : rfN (tapeV (up V2 200 0 0) (1 - x) (nI g) d st ln sp (-1)) n g 0 = 0 := by
      obtain ⟨t0, t1, t2, t3, t4, t5, t6, t7⟩ := tape_at (V := up V2 200 0 0) (k := 1 - x) (g := nI g) (d := d) (s := st) (l := ln) (sp := sp) (o := -1)
      have e201 : tapeV (up V2 200 0 0) (1 - x) (nI g) d st ln sp (-1) 201 = V 201 := by rw [tape_nf (by decide), up_nf (by decide), z1]
      unfold rfN
      rw [t0, t2, t3, t4, t5, RF_z e201, e201]
      exact h0
    rcases hcase with ⟨q1, q3, q4, q5⟩ | ⟨q1, q3, q4⟩
    · have hR : rfS (becomeV V (kdB x) (nI g) d st ln sp (-1)) n g 0 = 0 := by
        by_cases hR : rfS (becomeV V (kdB x) (nI g) d st ln sp (-1)) n g 0 = 0
        · exact hR
        · unfold EpR at hp
          rw [if_neg hR] at hp
          rw [q3] at hp
          cases hp.1
      obtain ⟨eL, e06, e210⟩ := epr_06 hR hp
      have hb : ∀ i, 210 ≤ i → becomeV V (kdB x) (nI g) d st ln sp (-1) i = V i := fun i hi => sq_bec i (by omega)
      obtain ⟨w1, w2⟩ := new_mut (fun i hi => (e210 i hi).trans (hb i hi)) z1 q5 e06
      exact ⟨by rw [q3, w1], eL, w2⟩
    · exact absurd hrf q1
  · rw [range_eq] at b
    exact tf hr b
theorem m_repeat (h : InvX V N I n o m l0) {q g : Nat} {d st : Int32} (hq : q < n) (hg : g < 6) (hgq : RF V 1 q = nI g) (hr : rightB (nI g) d st (RF V 4 q) 0 = true) (h0 : refR (RF V) (V 201) (alN V g) n 2 (nI g) d st (RF V 4 q) 0 q = 0) :
    MutR l 7 15 246 yX6_repeat (Cond.code yX6_repeat cX6_repeat 4 (some .int)) [aR 0, aI (nI q), aI d, aI st] V L N I m (nI (plcR (keyS (RF V)) (1440 * d + st) n)) (NewZ V n (fun k => if k = 0 then 2 else if k = 1 then nI g else if k = 2 then d else if k = 3 then st else if k = 4 then RF V 4 q else if k = 5 then 0 else if k = 6 then 0 else nI q) (1440 * d + st)) 0 := by
  have hn24 := h.2.1.1
  have e30 : V 30 q = RF V 1 q := h.1.2.2.2.2 1 (by decide) q hq
  have e33 : V 33 q = RF V 4 q := h.1.2.2.2.2 4 (by decide) q hq
  have hcl : (nI q).toNatClampNeg = q := nI_clamp (by omega)
  have hsr : Sx V (rpV V q d st) := fun i j z => by
    unfold rpV
    rw [up_no (fun q => z (by unfold Scr; omega)), up_no (fun q => z (by unfold Scr; omega))]
    exact sx_bec i j z
  refine ⟨_, c_X6_repeat h.2.2.1 h.1.2.2.2.1 hn24 h.g (nI q) d st, fun r V2 L2 N2 I2 hp => ?_⟩
  rcases ei_c hp with ⟨_, hp⟩ | ⟨b, _⟩
  · rcases ei_c hp with ⟨_, hp⟩ | ⟨b, _⟩
    · rw [hcl] at hp
      obtain ⟨c0, c1, c2, c3, c4, c5, c6⟩ := bec_at (V := V) (k := 2) (g := 0) (d := d) (s := st) (l := 0) (sp := 0) (o := nI q)
      have f0 : rpV V q d st 5 0 = 2 := by unfold rpV; rw [up_nk (by decide), up_nk (by decide)]; exact c0
      have f1 : rpV V q d st 5 1 = nI g := by unfold rpV; rw [up_nk (by decide), up_ss]; exact e30.trans hgq
      have f2 : rpV V q d st 5 2 = d := by unfold rpV; rw [up_nk (by decide), up_nk (by decide)]; exact c2
      have f3 : rpV V q d st 5 3 = st := by unfold rpV; rw [up_nk (by decide), up_nk (by decide)]; exact c3
      have f4 : rpV V q d st 5 4 = RF V 4 q := by unfold rpV; rw [up_ss]; exact e33
      have f5 : rpV V q d st 5 5 = 0 := by unfold rpV; rw [up_nk (by decide), up_nk (by decide)]; exact c5
      have f6 : rpV V q d st 5 6 = nI q := by unfold rpV; rw [up_nk (by decide), up_nk (by decide)]; exact c6
      have hgc : (V 30 q).toNatClampNeg = g := by rw [e30, hgq]; exact nI_clamp (by omega)
      rw [hgc] at hp
      obtain ⟨z1, m2, hIN, hcase⟩ := ent_step (q2 := q) h hsr f0 f1 f2 f3 f4 f5 f6 hr rfl hg (Or.inl ⟨rfl, rfl, hq, rfl⟩) hp
      have hrf : rfN (tapeV (up V2 200 0 0) 2 (nI g) d st (RF V 4 q) 0 (nI q)) n g q = 0 := by
        obtain ⟨t0, t1, t2, t3, t4, t5, t6, t7⟩ := tape_at (V := up V2 200 0 0) (k := 2) (g := nI g) (d := d) (s := st) (l := RF V 4 q) (sp := 0) (o := nI q)
        have e201 : tapeV (up V2 200 0 0) 2 (nI g) d st (RF V 4 q) 0 (nI q) 201 = V 201 := by rw [tape_nf (by decide), up_nf (by decide), z1]
        unfold rfN
        rw [t0, t2, t3, t4, t5, RF_z e201, e201]
        exact h0
      rcases hcase with ⟨q1, q3, q4, q5⟩ | ⟨q1, q3, q4⟩
      · have hR : rfS (rpV V q d st) n g q = 0 := by
          by_cases hR : rfS (rpV V q d st) n g q = 0
          · exact hR
          · unfold EpR at hp
            rw [if_neg hR] at hp
            rw [q3] at hp
            cases hp.1
        obtain ⟨eL, e06, e210⟩ := epr_06 hR hp
        have hb : ∀ i, 210 ≤ i → rpV V q d st i = V i := fun i hi => by unfold rpV; rw [up_nf (by omega), up_nf (by omega)]; exact sq_bec i (by omega)
        obtain ⟨w1, w2⟩ := new_mut (fun i hi => (e210 i hi).trans (hb i hi)) z1 q5 e06
        exact ⟨by rw [q3, w1], eL, w2⟩
      · exact absurd hrf q1
    · rw [hcl, range_eq, e30, e33, hgq] at b
      exact tf hr b
  · exact tf (num_n hq hn24) b
/-- one change taken back -/
theorem m_undo (h : InvX V N I n o m l0) (hm0 : 0 < m) : ∃ P, Runs l 6 15 246 yX6_undo (Cond.code yX6_undo cX6_undo 1 (some .int)) [aR 0] V L N I P ∧ ∀ r1 V2 L2 N2 I2, P r1 V2 L2 N2 I2 → r1 = .inl (some (aI (nI (m - 1)))) ∧ L2 = L ∧ N2 = N ∧ I2 = I ∧ (∀ i, 210 ≤ i → V2 i = V i) ∧ ∃ V3 : VV, (∀ i, ¬ (200 ≤ i ∧ i ≤ 209) → V3 i = V2 i) ∧ Inv V3 N I ∧ (∀ j, j < 232 → V3 201 j = V 202 (232 * (m - 1) + j)) ∧ V3 0 6 = V 0 6 := by
  obtain ⟨h1, h2, h3, h4, h5, h6, h7, h8, h9, h10, a, h11⟩ := id h
  refine ⟨_, c_X6_undo h3 (fun hm => (h4 (m - 1) (by omega)).1), fun r V2 L2 N2 I2 hp => ?_⟩
  rcases ei_c hp with ⟨_, hp⟩ | ⟨b, _⟩
  · obtain ⟨rfl, hV2, rfl, rfl, rfl⟩ := hp
    have hsl : 40 + 20 * rsP o m = slot o (m - 1) := rfl
    have hsb : 40 ≤ slot o (m - 1) ∧ slot o (m - 1) ≤ 140 := by unfold slot; omega
    rw [hsl] at hV2
    have f2 : ∀ i, i ≠ 1 → i < 20 ∨ 36 < i → V2 i = V i := fun i a b => by rw [hV2, cf_out (by omega), up_nf a]
    refine ⟨rfl, rfl, rfl, rfl, fun i hi => f2 i (by omega) (by omega), fun i => if i = 201 then (fun j => V 202 (232 * (m - 1) + j)) else up V2 200 2 (nI (m - 1)) i, fun i hi => ?_, ?_, fun j hj => ?_, ?_⟩
    · dsimp only
      rw [if_neg (by omega), up_nf (by omega)]
    · generalize hV3 : (fun i => if i = 201 then (fun j => V 202 (232 * (m - 1) + j)) else up V2 200 2 (nI (m - 1)) i : VV) = V3
      have f4 : ∀ i, i ≠ 201 → i ≠ 200 → V3 i = V2 i := fun i a b => by rw [← hV3]; dsimp only; rw [if_neg a, up_nf b]
      have f5 : ∀ j, j ≠ 2 → V3 200 j = V 200 j := fun j b => by rw [← hV3]; dsimp only; rw [if_neg (by decide), up_nk b, f2 200 (by decide) (by omega)]
      have f52 : V3 200 2 = nI (m - 1) := by rw [← hV3]; dsimp only; rw [if_neg (by decide), up_ss]
      have hzz : ∀ j, j < 232 → V3 201 j = V 202 (232 * (m - 1) + j) := fun j hj => by rw [← hV3]; dsimp only; rw [if_pos rfl]
      have hE : PlEq (up V 1 2 (nI (m - 1))) (slot o (m - 1)) V2 20 := by rw [hV2]; exact plEq_cf (by omega)
      have hE2 : PlEq V (slot o (m - 1)) V2 20 := by
        have e : ∀ i, slot o (m - 1) ≤ i → (up V 1 2 (nI (m - 1))) i = V i := fun i hi => up_nf (by omega)
        obtain ⟨q1, q2, q3, q4, q5⟩ := hE
        refine ⟨fun j hj => ?_, fun k hk j hj => ?_, ?_, ?_, fun k hk j hj => ?_⟩
        · rw [q1 j hj, e _ (by omega)]
        · rw [q2 k hk j hj, e _ (by omega)]
        · rw [q3, e _ (by omega)]
        · rw [q4, e _ (by omega)]
        · rw [q5 k hk j hj, e _ (by omega)]
      obtain ⟨n2, w1, w2⟩ := un_rel (V3 := V3) h3.2.2.1 h3.2.2.2.2 hm0 h4 hE2 (fun i a b => f4 i (by omega) (by omega)) hzz
      have g1 : ∀ j, V3 1 j = if j = 2 then nI (m - 1) else V 1 j := fun j => by
        rw [f4 1 (by decide) (by decide), hV2, cf_out (by omega)]
        by_cases w : j = 2
        · rw [if_pos w, w, up_ss]
        · rw [if_neg w, up_nk w]
      have g : ∀ i, i ≠ 1 → i ≠ 200 → i ≠ 201 → i < 20 ∨ 36 < i → V3 i = V i := fun i a b c d => (f4 i c b).trans (f2 i a d)
      refine ⟨n2, o, m - 1, l0, w2, w1, ⟨h3.1, by rw [g1, if_neg (by decide)]; exact h3.2.1, h3.2.2.1, by rw [g1, if_pos rfl], by have := h3.2.2.2.2; omega⟩, ?_, f52, ?_, ?_, ?_, h9, fun i hi => ?_, a, ?_⟩
      · have := SvI.cg (V1 := V3) (fun i a b => g i (by omega) (by omega) (by omega) (by omega)) (g 202 (by decide) (by decide) (by decide) (by omega)) h4
        exact fun j hj => this j (by omega)
      · rw [g 0 (by decide) (by decide) (by decide) (by omega), f5 4 (by decide)]; exact h6
      · rw [g 3 (by decide) (by decide) (by decide) (by omega)]; exact h7
      · rw [f5 5 (by decide)]; exact h8
      · rw [g 4 (by decide) (by decide) (by decide) (by omega), g 203 (by decide) (by decide) (by decide) (by omega)]; exact h10 i hi
      · rw [g 3 (by decide) (by decide) (by decide) (by omega)]; exact h11
    · dsimp only
      rw [if_pos rfl]
    · dsimp only
      rw [if_neg (by decide), up_no (by decide), f2 0 (by decide) (by omega)]
  · exact tf (decide_eq_true hm0) b
end
