theorem x_topd {E : EE} {pc a b : Nat} {ls : List (Option AV)} {st : List AV} {V : VV} {L : LL} {N : NN} {I : List Nat} {x : UInt64} (y : UInt64) (h : x = y) (K : Wx E pc ls (aD y :: st) V L N I a b) : Wx E (pc) (ls) (aD x :: st) V L N I a b := by subst h; exact K
theorem htL_no {L : LL} {v : Int64} {i : Nat} (h : i ≠ 18) : htL L v i = L i := by
  unfold htL upL; funext j; rw [if_neg h]
def hwA (V : VV) (n : Nat) (L : LL) : Nat → LL
  | 0 => L
  | k + 1 => htL (hwA V n L k) (wnV V n k).toInt64
def hwZ (V : VV) (L : LL) : Nat → LL
  | 0 => L
  | k + 1 => htL (hwZ V L k) (V 21 k).toInt64
def hwC (V : VV) (n g : Nat) (L : LL) : Nat → LL
  | 0 => L
  | w + 1 => htL (hwC V n g L w) (gpV V n g w).toInt64
def hwG (V : VV) (n : Nat) (L : LL) : Nat → LL
  | 0 => L
  | g + 1 => hwC V n g (hwG V n L g) 9
def hwS (V : VV) (n : Nat) (L : LL) : Nat → LL
  | 0 => L
  | s + 1 => htS V n s (hwS V n L s)
def hwD (V : VV) (n : Nat) (L : LL) : Nat → LL
  | 0 => L
  | d + 1 => hdB V n d (hdA V n d (hwD V n L d) 8) 24
def hwE (V : VV) (n : Nat) (L : LL) : Nat → LL
  | 0 => L
  | g + 1 => htL (hwE V n L g) (tapeT (CF V) (V 21) (V 22 g + V 23 g) n (nI g) 3 30).toInt64
def hwT (V : VV) (L : LL) : Nat → LL
  | 0 => L
  | k + 1 => htL (hwT V L k) (V 4 k).toInt64
def shS (V : VV) (n : Nat) : UInt64 := FP.ddiv (FP.i2d (wkS (CF V) (AF 6 V) n 2)) (FP.i2d (7 * (V 21 1 - V 21 0)))
def hw6 (V : VV) (n : Nat) (L : LL) : LL := hwE V n (hwD V n (hwS V n (hwG V n (hwZ V (hwA V n (upL L 18 0 2099) 8) 8) 6) n) 7) 6
def hw7 (V : VV) (n : Nat) (L : LL) : LL := htL (htL (htL (hw6 V n L) (shS V n).toInt64) (V 0 6).toInt64) (V 3 1).toInt64
def hwL (V : VV) (n l0 : Nat) (L : LL) : LL := hwT V (hw7 V n L) l0
theorem spV_sm {V V1 : VV} (h : SmA 12 V V1) {s w : Nat} : spV V1 s w = spV V s w := by
  unfold spV fateS dlyB drpB AF
  rw [h (6 + 1 + 0) (by decide), h (6 + 1 + 2) (by decide), h (6 + 1 + 3) (by decide)]
  by_cases h1 : w < 8
  · rw [if_pos h1, if_pos h1, h (29 + w) (by omega)]
  · rw [if_neg h1, if_neg h1]
    by_cases h2 : w < 11
    · rw [if_pos h2, if_pos h2, h (w - 1) (by omega)]
    · rw [if_neg h2, if_neg h2]
theorem htA_sm {V V1 : VV} (h : SmA 12 V V1) {s : Nat} {L : LL} : ∀ {k : Nat}, htA V1 s L k = htA V s L k
  | 0 => rfl
  | k + 1 => by rw [htA, htA, htA_sm h, spV_sm h]
theorem htS_sm {V V1 : VV} (h : SmA 12 V V1) {n s : Nat} {L : LL} : htS V1 n s L = htS V n s L := by
  unfold htS htR rpT
  rw [htA_sm h, sma_cf h, h 21 (by decide), h 22 (by decide), h 23 (by decide), h 29 (by decide), h 30 (by decide), grt_sm h]
theorem af_sm {V V1 : VV} (h : SmA 12 V V1) : ∀ k, k < 5 → AF 6 V1 k = AF 6 V k := fun k hk => h (6 + 1 + k) (by omega)
theorem spS_cg {F A B : Nat → Nat → Int32} {n : Nat} {d x : Int32} (h : ∀ k, k < 5 → A k = B k) : spS F A n d x = spS F B n d x := by
  unfold spS drpB
  rw [h 0 (by decide), h 1 (by decide)]
theorem hrsS_cg {F A B : Nat → Nat → Int32} {lim : Int32} {n : Nat} {d : Int32} (h : ∀ k, k < 5 → A k = B k) : hrsS F A lim n d = hrsS F B lim n d := by
  unfold hrsS
  refine congrArg (fun f => sumTo f 24) (funext fun x => ?_)
  rw [spS_cg h]
theorem partS_cg {F A B : Nat → Nat → Int32} {w s : Nat} (h : ∀ k, k < 5 → A k = B k) : partS F A w s = partS F B w s := by
  unfold partS dlyB drpB
  rw [h 0 (by decide), h 1 (by decide), h 2 (by decide)]
theorem dayS_cg {F A B : Nat → Nat → Int32} {lim : Int32} {n d w : Nat} (h : ∀ k, k < 5 → A k = B k) : dayS F A lim n d w = dayS F B lim n d w := by
  unfold dayS
  rw [h 4 (by decide), hrsS_cg h]
  refine congrArg (fun f => if w = 6 then _ else if w = 7 then _ else sumTo f n) (funext fun s => ?_)
  rw [partS_cg h]
theorem wkS_cg {F A B : Nat → Nat → Int32} {n w : Nat} (h : ∀ k, k < 5 → A k = B k) : wkS F A n w = wkS F B n w := by
  unfold wkS
  refine congrArg (fun f => sumTo f n) (funext fun s => ?_)
  rw [partS_cg h]
theorem hdA_sm {V V1 : VV} (h : SmA 12 V V1) {n d : Nat} {L : LL} : ∀ {k : Nat}, hdA V1 n d L k = hdA V n d L k
  | 0 => rfl
  | k + 1 => by rw [hdA, hdA, hdA_sm h, sma_cf h, h 21 (by decide), dayS_cg (af_sm h)]
theorem hdB_sm {V V1 : VV} (h : SmA 12 V V1) {n d : Nat} {L : LL} : ∀ {k : Nat}, hdB V1 n d L k = hdB V n d L k
  | 0 => rfl
  | k + 1 => by rw [hdB, hdB, hdB_sm h, sma_cf h, spS_cg (af_sm h)]
theorem shS_sm {V V1 : VV} (h : SmA 12 V V1) {n : Nat} : shS V1 n = shS V n := by
  unfold shS; rw [sma_cf h, h 21 (by decide), wkS_cg (af_sm h)]
theorem hw_no {V : VV} {n : Nat} {i : Nat} (h : i ≠ 18) :
    (∀ {L : LL} {k : Nat}, hwA V n L k i = L i) ∧ (∀ {L : LL} {k : Nat}, hwZ V L k i = L i) ∧ (∀ {L : LL} {k : Nat}, hwG V n L k i = L i) ∧ (∀ {L : LL} {k : Nat}, hwS V n L k i = L i) ∧ (∀ {L : LL} {k : Nat}, hwD V n L k i = L i) ∧ (∀ {L : LL} {k : Nat}, hwE V n L k i = L i) ∧ ∀ {L : LL} {k : Nat}, hwT V L k i = L i := by
  have hC : ∀ {g : Nat} {L : LL} {k : Nat}, hwC V n g L k i = L i := by
    intro g L k; induction k with
    | zero => rfl
    | succ k ih => rw [hwC, htL_no h, ih]
  have hA1 : ∀ {s : Nat} {L : LL} {k : Nat}, htA V s L k i = L i := by
    intro g L k; induction k with
    | zero => rfl
    | succ k ih => rw [htA, htL_no h, ih]
  have hS1 : ∀ {s : Nat} {L : LL}, htS V n s L i = L i := by
    intro s L; unfold htS htR
    split
    · rw [htL_no h, htL_no h, hA1]
    · rw [htL_no h, hA1]
  have hdA1 : ∀ {d : Nat} {L : LL} {k : Nat}, hdA V n d L k i = L i := by
    intro g L k; induction k with
    | zero => rfl
    | succ k ih => rw [hdA, htL_no h, ih]
  have hdB1 : ∀ {d : Nat} {L : LL} {k : Nat}, hdB V n d L k i = L i := by
    intro g L k; induction k with
    | zero => rfl
    | succ k ih => rw [hdB, htL_no h, htL_no h, ih]
  refine ⟨fun {L k} => ?_, fun {L k} => ?_, fun {L k} => ?_, fun {L k} => ?_, fun {L k} => ?_, fun {L k} => ?_, fun {L k} => ?_⟩ <;> induction k with
  | zero => rfl
  | succ k ih => first
    | rw [hwA, htL_no h, ih]
    | rw [hwZ, htL_no h, ih]
    | rw [hwG, hC, ih]
    | rw [hwS, hS1, ih]
    | rw [hwD, hdB1, hdA1, ih]
    | rw [hwE, htL_no h, ih]
    | rw [hwT, htL_no h, ih]
theorem hwL_no {V : VV} {n l0 : Nat} {L : LL} {i : Nat} (h : i ≠ 18) : hwL V n l0 L i = L i := by
  obtain ⟨h1, h2, h3, h4, h5, h6, h7⟩ := hw_no (V := V) (n := n) h
  unfold hwL hw7 hw6
  rw [h7, htL_no h, htL_no h, htL_no h, h6, h5, h4, h3, h2, h1]
  unfold upL; funext j; rw [if_neg h]
set_option maxRecDepth 100000 in
set_option maxHeartbeats 4000000 in
theorem c_X6_digest {l : Launch} {V : VV} {L : LL} {N : NN} {I : List Nat} (hI : PI I) (h18n : 18 ∉ I) {n : Nat} (hn : V 20 7 = nI n) (hn24 : n ≤ 24) (hdy : ∀ s, s < n → ∃ d, d < 7 ∧ V 31 s = nI d) (hsg : ∀ s, s < n → ∃ g, g < 6 ∧ V 30 s = nI g) {l0 : Nat} (hl0 : V 3 1 = nI l0) (hl60 : l0 ≤ 60) (hk0 : 0 < 7 * (V 21 1 - V 21 0)) (h2 : ∀ V1, AirI 6 V V1 (V 35) n → vf_n64 (shS V1 n) ∧ (shS V1 n = 0 ∨ ∃ c q, le1 c q ∧ shS V1 n = dN64 c q)) : Runs l 7 1 1 yX6_digest (Cond.code yX6_digest cX6_digest 4 (some .long)) [aR 0] V L N I (fun r1 V2 L2 N2 I2 => ∃ V1, AirI 6 V V1 (V 35) n ∧ SmA 12 V1 V2 ∧ r1 = .inl (some (aL (hwL V1 n l0 L 18 0))) ∧ (∀ i, i ≠ 18 → L2 i = L i) ∧ N2 = N ∧ I2 = I) := by
  refine run_of RX6 (by decide +kernel) rfl (Nat.le_of_ble_eq_true rfl) (fun E hE C hQ hN => ?_)
  subst hE
  refine x_aload_n (pc := 0) C dX6_digest_0 rfl ?_
  refine x_getR (pc := 1) (o := 0) (j := 6) C f_X6_40 dX6_digest_1 (hI 0 rfl) ⟨rfl, rfl⟩ ?_
  refine x_aload_n (pc := 4) C dX6_digest_4 rfl ?_
  refine x_getR (pc := 5) (o := 0) (j := 20) C f_X6_10 dX6_digest_5 (hI 0 rfl) ⟨rfl, rfl⟩ ?_
  refine x_pV1 (pc := 8) (o := 6) C v_X6_140 dX6_digest_8 (c_X0_play hI hn hn24 hdy) (hI 6 rfl) rfl (by decide) rfl ⟨by decide, by decide⟩ (fun V1 hV1 => ?_)
  have hn1 : V1 20 7 = nI n := (congrFun (airI_20 hV1) 7).trans hn
  have hdy1 : ∀ s, s < n → ∃ d, d < 7 ∧ V1 31 s = nI d := by rw [hV1.1 31 (by decide)]; exact hdy
  have hsg1 : ∀ s, s < n → ∃ g, g < 6 ∧ V1 30 s = nI g := by rw [hV1.1 30 (by decide)]; exact hsg
  have hl1 : V1 3 1 = nI l0 := by rw [hV1.1 3 (by decide)]; exact hl0
  refine x_newH (pc := 11) (ik := 250) (ic := 252) C h18n (u0_in 420 (by decide +kernel) rfl) (show CJk RX6 252 "StudioAirtime" yX1_init cX1_init 1 from ⟨⟨List.mem_of_getElem? (i := 342) (by decide +kernel), u0_in 423 (by decide +kernel) rfl, u0_in 96 (by decide +kernel) rfl, u0_in 424 (by decide +kernel) rfl⟩, rfl, by decide, by decide +kernel⟩) dX6_digest_11 dX6_digest_14 dX6_digest_15 (by decide) rfl (by decide) ⟨by decide, by decide⟩ ?_
  have hI : PI (I ++ [18]) := fun i h => List.mem_append_left _ (hI i h)
  have h18 : 18 ∈ I ++ [18] := List.mem_append_right _ List.mem_cons_self
  refine y_astore_n (pc := 18) C dX6_digest_18 (by decide) rfl ?_
  refine x_iconst (pc := 19) C (0) dX6_digest_19 (by decide) ?_
  refine y_istore_n (pc := 20) C dX6_digest_20 (by decide) rfl ?_
  suffices key : ∀ (k i : Nat) , k + i = 8 → (True) → Wx E 21 [some (aR 0), some (aR 18), some (aI (nI i)), none] [] V1 (hwA V1 n (upL L 18 0 2099) i) N (I ++ [18]) 1 1 by
    exact key (8) 0  (by omega) (trivial)
  intro k
  induction k with
  | zero =>
    intro i  hk hinv
    refine x_iload_n (pc := 21) C dX6_digest_21 rfl ?_
    refine x_bipush (pc := 22) C (7) dX6_digest_22 (by decide) ?_
    refine x_icmp_gt (pc := 24) (tgt := 43) C dX6_digest_24 (by decide) (fun h24 => ?_) (fun h24 => absurd (by exact nI_lt (a := 7) (b := i) (by omega) (by omega)) h24)
    obtain rfl : i = 8 := by omega
    refine x_iconst (pc := 43) C (0) dX6_digest_43 (by decide) ?_
    refine y_istore_n (pc := 44) C dX6_digest_44 (by decide) rfl ?_
    suffices key : ∀ (k i : Nat) , k + i = 8 → (True) → Wx E 45 [some (aR 0), some (aR 18), some (aI (nI i)), none] [] V1 (hwZ V1 (hwA V1 n (upL L 18 0 2099) 8) i) N (I ++ [18]) 1 1 by
      exact key (8) 0  (by omega) (trivial)
    intro k
    induction k with
    | zero =>
      intro i  hk hinv
      refine x_iload_n (pc := 45) C dX6_digest_45 rfl ?_
      refine x_bipush (pc := 46) C (8) dX6_digest_46 (by decide) ?_
      refine x_icmp_ge (pc := 48) (tgt := 71) C dX6_digest_48 (by decide) (fun h48 => ?_) (fun h48 => absurd (by exact nI_le (a := 8) (b := i) (by omega) (by omega)) h48)
      obtain rfl : i = 8 := by omega
      refine x_iconst (pc := 71) C (0) dX6_digest_71 (by decide) ?_
      refine y_istore_n (pc := 72) C dX6_digest_72 (by decide) rfl ?_
      suffices keyg : ∀ (kg g : Nat), kg + g = 6 → Wx E 73 [some (aR 0), some (aR 18), some (aI (nI g)), none] [] V1 (hwG V1 n (hwZ V1 (hwA V1 n (upL L 18 0 2099) 8) 8) g) N (I ++ [18]) 1 1 by
        exact keyg 6 0 rfl
      intro kg
      induction kg with
      | zero =>
        intro g hkg
        refine x_iload_n (pc := 73) C dX6_digest_73 rfl ?_
        refine x_bipush (pc := 74) C (6) dX6_digest_74 (by decide) ?_
        refine x_icmp_ge (pc := 76) (tgt := 110) C dX6_digest_76 (by decide) (fun h76 => ?_) (fun h76 => absurd (by exact nI_le (a := 6) (b := g) (by omega) (by omega)) h76)
        obtain rfl : g = 6 := by omega
        refine x_iconst (pc := 110) C (0) dX6_digest_110 (by decide) ?_
        refine y_istore_n (pc := 111) C dX6_digest_111 (by decide) rfl ?_
        suffices key : ∀ (k i : Nat) (V2 : VV), k + i = n → (SmA 12 V1 V2) → Wx E 112 [some (aR 0), some (aR 18), some (aI (nI i)), none] [] V2 (hwS V1 n (hwG V1 n (hwZ V1 (hwA V1 n (upL L 18 0 2099) 8) 8) 6) i) N (I ++ [18]) 1 1 by
          exact key (n) 0 V1 (by omega) (sma_r)
        intro k
        induction k with
        | zero =>
          intro i V2 hk hinv
          refine x_iload_n (pc := 112) C dX6_digest_112 rfl ?_
          have hV2 := hinv
          refine x_aload_n (pc := 113) C dX6_digest_113 rfl ?_
          refine x_getR (pc := 114) (o := 0) (j := 20) C f_X6_10 dX6_digest_114 (hI 0 rfl) ⟨rfl, rfl⟩ ?_
          refine x_getI (pc := 117) (o := 20) C f_X6_257 dX6_digest_117 (hI 20 rfl) ⟨rfl, rfl, rfl⟩ ?_
          refine x_topi (nI n) (by rw [hV2 20 (by decide)]; exact hn1) ?_
          refine x_icmp_ge (pc := 120) (tgt := 135) C dX6_digest_120 (by decide) (fun h120 => ?_) (fun h120 => absurd (by exact nI_le (a := n) (b := i) (by omega) (by omega)) h120)
          rw [show i = n by omega]
          have hn2 : V2 20 7 = nI n := by rw [hV2 20 (by decide)]; exact hn1
          have hk2 : 0 < 7 * (V2 21 1 - V2 21 0) := by rw [hV2 21 (by decide), hV1.1 21 (by decide)]; exact hk0
          refine x_iconst (pc := 135) C (0) dX6_digest_135 (by decide) ?_
          refine y_istore_n (pc := 136) C dX6_digest_136 (by decide) rfl ?_
          suffices key : ∀ (k i : Nat) , k + i = 7 → (True) → Wx E 137 [some (aR 0), some (aR 18), some (aI (nI i)), none] [] V2 (hwD V1 n (hwS V1 n (hwG V1 n (hwZ V1 (hwA V1 n (upL L 18 0 2099) 8) 8) 6) n) i) N (I ++ [18]) 1 1 by
            exact key (7) 0  (by omega) (trivial)
          intro k
          induction k with
          | zero =>
            intro i  hk hinv
            refine x_iload_n (pc := 137) C dX6_digest_137 rfl ?_
            refine x_bipush (pc := 138) C (7) dX6_digest_138 (by decide) ?_
            refine x_icmp_ge (pc := 140) (tgt := 155) C dX6_digest_140 (by decide) (fun h140 => ?_) (fun h140 => absurd (by exact nI_le (a := 7) (b := i) (by omega) (by omega)) h140)
            obtain rfl : i = 7 := by omega
            refine x_iconst (pc := 155) C (0) dX6_digest_155 (by decide) ?_
            refine y_istore_n (pc := 156) C dX6_digest_156 (by decide) rfl ?_
            suffices key : ∀ (k i : Nat) , k + i = 6 → (True) → Wx E 157 [some (aR 0), some (aR 18), some (aI (nI i)), none] [] V2 (hwE V1 n (hwD V1 n (hwS V1 n (hwG V1 n (hwZ V1 (hwA V1 n (upL L 18 0 2099) 8) 8) 6) n) 7) i) N (I ++ [18]) 1 1 by
              exact key (6) 0  (by omega) (trivial)
            intro k
            induction k with
            | zero =>
              intro i  hk hinv
              refine x_iload_n (pc := 157) C dX6_digest_157 rfl ?_
              refine x_bipush (pc := 158) C (6) dX6_digest_158 (by decide) ?_
              refine x_icmp_ge (pc := 160) (tgt := 185) C dX6_digest_160 (by decide) (fun h160 => ?_) (fun h160 => absurd (by exact nI_le (a := 6) (b := i) (by omega) (by omega)) h160)
              obtain rfl : i = 6 := by omega
              refine x_aload_n (pc := 185) C dX6_digest_185 rfl ?_
              refine x_aload_n (pc := 186) C dX6_digest_186 rfl ?_
              refine x_hV0 (pc := 187) (o := 0) C v_X6_246 dX6_digest_187 (c_X6_shareOnAir (V := V2) hI hn2 hn24 hk2 (by rw [show FP.ddiv _ _ = shS V2 n from rfl, shS_sm hV2]; exact (h2 V1 hV1).1)) (hI 0 rfl) rfl (by decide) h18 rfl ⟨Nat.le_refl _, Nat.le_refl _⟩ ?_
              refine x_topd (shS V1 n) (shS_sm hV2) ?_
              refine x_hS1 (pc := 190) C s_X6_265 dX6_digest_190 (c_X6_bitsOf _ (h2 V1 hV1).2) (by decide) h18 rfl ⟨Nat.le_refl _, Nat.le_refl _⟩ ?_
              refine x_hV1 (pc := 193) (o := 18) C v_X6_253 dX6_digest_193 (c_X1_take h18 _) h18 rfl (by decide) h18 rfl ⟨Nat.le_refl _, Nat.le_refl _⟩ ?_
              refine x_aload_n (pc := 196) C dX6_digest_196 rfl ?_
              refine x_aload_n (pc := 197) C dX6_digest_197 rfl ?_
              refine x_getI (pc := 198) (o := 0) C f_X6_47 dX6_digest_198 (hI 0 rfl) ⟨rfl, rfl, rfl⟩ ?_
              refine x_topi (V1 0 6) (by rw [hV2 0 (by decide)]) ?_
              refine x_i2l (pc := 201) C dX6_digest_201 ?_
              refine x_hV1 (pc := 202) (o := 18) C v_X6_253 dX6_digest_202 (c_X1_take h18 _) h18 rfl (by decide) h18 rfl ⟨Nat.le_refl _, Nat.le_refl _⟩ ?_
              refine x_aload_n (pc := 205) C dX6_digest_205 rfl ?_
              refine x_aload_n (pc := 206) C dX6_digest_206 rfl ?_
              refine x_getR (pc := 207) (o := 0) (j := 3) C f_X6_26 dX6_digest_207 (hI 0 rfl) ⟨rfl, rfl⟩ ?_
              refine x_getI (pc := 210) (o := 3) C f_X6_156 dX6_digest_210 (hI 3 rfl) ⟨rfl, rfl, rfl⟩ ?_
              refine x_topi (V1 3 1) (by rw [hV2 3 (by decide)]) ?_
              refine x_i2l (pc := 213) C dX6_digest_213 ?_
              refine x_hV1 (pc := 214) (o := 18) C v_X6_253 dX6_digest_214 (c_X1_take h18 _) h18 rfl (by decide) h18 rfl ⟨Nat.le_refl _, Nat.le_refl _⟩ ?_
              refine x_iconst (pc := 217) C (0) dX6_digest_217 (by decide) ?_
              refine y_istore_n (pc := 218) C dX6_digest_218 (by decide) rfl ?_
              suffices key : ∀ (k i : Nat) , k + i = l0 → (True) → Wx E 219 [some (aR 0), some (aR 18), some (aI (nI i)), none] [] V2 (hwT V1 (hw7 V1 n L) i) N (I ++ [18]) 1 1 by
                exact key (l0) 0  (by omega) (trivial)
              intro k
              induction k with
              | zero =>
                intro i  hk hinv
                refine x_iload_n (pc := 219) C dX6_digest_219 rfl ?_
                refine x_aload_n (pc := 220) C dX6_digest_220 rfl ?_
                refine x_getR (pc := 221) (o := 0) (j := 3) C f_X6_26 dX6_digest_221 (hI 0 rfl) ⟨rfl, rfl⟩ ?_
                refine x_getI (pc := 224) (o := 3) C f_X6_156 dX6_digest_224 (hI 3 rfl) ⟨rfl, rfl, rfl⟩ ?_
                refine x_topi (nI l0) (by rw [hV2 3 (by decide)]; exact hl1) ?_
                refine x_icmp_ge (pc := 227) (tgt := 250) C dX6_digest_227 (by decide) (fun h227 => ?_) (fun h227 => absurd (by exact nI_le (a := l0) (b := i) (by omega) (by omega)) h227)
                refine x_aload_n (pc := 250) C dX6_digest_250 rfl ?_
                refine x_getL (pc := 251) (o := 18) C f_X6_269 dX6_digest_251 h18 ⟨rfl, rfl, rfl⟩ ?_
                rw [show i = l0 by omega]
                refine x_drop (x := 18) (by rw [hQ.2]; exact fun q => q.elim (fun e => absurd e (by decide)) (fun e => h18n e)) ?_
                exact x_lret (pc := 254) C hQ dX6_digest_254 (⟨V1, hV1, hV2, rfl, fun i hi => hwL_no hi, rfl, rfl⟩) (Nat.le_of_ble_eq_true rfl) (Nat.le_of_ble_eq_true rfl)
              | succ k ih =>
                intro i  hk hinv
                refine x_iload_n (pc := 219) C dX6_digest_219 rfl ?_
                refine x_aload_n (pc := 220) C dX6_digest_220 rfl ?_
                refine x_getR (pc := 221) (o := 0) (j := 3) C f_X6_26 dX6_digest_221 (hI 0 rfl) ⟨rfl, rfl⟩ ?_
                refine x_getI (pc := 224) (o := 3) C f_X6_156 dX6_digest_224 (hI 3 rfl) ⟨rfl, rfl, rfl⟩ ?_
                refine x_topi (nI l0) (by rw [hV2 3 (by decide)]; exact hl1) ?_
                refine x_icmp_ge (pc := 227) (tgt := 250) C dX6_digest_227 (by decide) (fun h227 => absurd h227 (by exact nI_ge (a := i) (b := l0) (by omega) (by omega))) (fun h227 => ?_)
                refine x_aload_n (pc := 230) C dX6_digest_230 rfl ?_
                refine x_aload_n (pc := 231) C dX6_digest_231 rfl ?_
                refine x_getR (pc := 232) (o := 0) (j := 3) C f_X6_26 dX6_digest_232 (hI 0 rfl) ⟨rfl, rfl⟩ ?_
                refine x_getR (pc := 235) (o := 3) (j := 4) C f_X6_161 dX6_digest_235 (hI 3 rfl) ⟨rfl, rfl⟩ ?_
                refine x_iload_n (pc := 238) C dX6_digest_238 rfl ?_
                refine x_iald (pc := 239) (o := 4) C dX6_digest_239 (hI 4 rfl) ⟨rfl, rfl⟩ (show _ < 60 by omega) (by decide) ?_
                refine x_topi (V1 4 i) (by rw [hV2 4 (by decide)]) ?_
                refine x_i2l (pc := 240) C dX6_digest_240 ?_
                refine x_hV1 (pc := 241) (o := 18) C v_X6_253 dX6_digest_241 (c_X1_take h18 _) h18 rfl (by decide) h18 rfl ⟨Nat.le_refl _, Nat.le_refl _⟩ ?_
                refine y_iinc (pc := 244) C (nI (i + 1)) dX6_digest_244 rfl (by exact nI_1 i) (by decide) rfl ?_
                refine x_goto (pc := 247) (tgt := 219) C dX6_digest_247 (by decide) ?_
                exact ih (i + 1)  (by omega) (trivial)
            | succ k ih =>
              intro i  hk hinv
              refine x_iload_n (pc := 157) C dX6_digest_157 rfl ?_
              refine x_bipush (pc := 158) C (6) dX6_digest_158 (by decide) ?_
              refine x_icmp_ge (pc := 160) (tgt := 185) C dX6_digest_160 (by decide) (fun h160 => absurd h160 (by exact nI_ge (a := i) (b := 6) (by omega) (by omega))) (fun h160 => ?_)
              refine x_aload_n (pc := 163) C dX6_digest_163 rfl ?_
              refine x_aload_n (pc := 164) C dX6_digest_164 rfl ?_
              refine x_getR (pc := 165) (o := 0) (j := 20) C f_X6_10 dX6_digest_165 (hI 0 rfl) ⟨rfl, rfl⟩ ?_
              refine x_iload_n (pc := 168) C dX6_digest_168 rfl ?_
              refine x_iconst (pc := 169) C (3) dX6_digest_169 (by decide) ?_
              refine x_bipush (pc := 170) C (30) dX6_digest_170 (by decide) ?_
              refine x_hV3 (pc := 172) (o := 20) C v_X6_227 dX6_digest_172 (c_X3_firstTapeTime (V := V2) hI hn2 hn24 i (by omega) 3 30) (hI 20 rfl) rfl (by decide) h18 rfl ⟨Nat.le_refl _, Nat.le_refl _⟩ ?_
              refine x_topi (tapeT (CF V1) (V1 21) (V1 22 i + V1 23 i) n (nI i) 3 30) (by rw [sma_cf hV2, hV2 21 (by decide), hV2 22 (by decide), hV2 23 (by decide)]) ?_
              refine x_i2l (pc := 175) C dX6_digest_175 ?_
              refine x_hV1 (pc := 176) (o := 18) C v_X6_253 dX6_digest_176 (c_X1_take h18 _) h18 rfl (by decide) h18 rfl ⟨Nat.le_refl _, Nat.le_refl _⟩ ?_
              refine y_iinc (pc := 179) C (nI (i + 1)) dX6_digest_179 rfl (by exact nI_1 i) (by decide) rfl ?_
              refine x_goto (pc := 182) (tgt := 157) C dX6_digest_182 (by decide) ?_
              exact ih (i + 1)  (by omega) (trivial)
          | succ k ih =>
            intro i  hk hinv
            refine x_iload_n (pc := 137) C dX6_digest_137 rfl ?_
            refine x_bipush (pc := 138) C (7) dX6_digest_138 (by decide) ?_
            refine x_icmp_ge (pc := 140) (tgt := 155) C dX6_digest_140 (by decide) (fun h140 => absurd h140 (by exact nI_ge (a := i) (b := 7) (by omega) (by omega))) (fun h140 => ?_)
            refine x_aload_n (pc := 143) C dX6_digest_143 rfl ?_
            refine x_aload_n (pc := 144) C dX6_digest_144 rfl ?_
            refine x_iload_n (pc := 145) C dX6_digest_145 rfl ?_
            refine x_hV2 (pc := 146) (o := 0) C v_X6_262 dX6_digest_146 (c_X6_takeDay (V := V2) hI h18 hn2 hn24 i (by omega)) (hI 0 rfl) rfl (by decide) h18 rfl ⟨Nat.le_refl _, Nat.le_refl _⟩ ?_
            rw [hdB_sm hV2, hdA_sm hV2]
            refine y_iinc (pc := 149) C (nI (i + 1)) dX6_digest_149 rfl (by exact nI_1 i) (by decide) rfl ?_
            refine x_goto (pc := 152) (tgt := 137) C dX6_digest_152 (by decide) ?_
            exact ih (i + 1)  (by omega) (trivial)
        | succ k ih =>
          intro i V2 hk hinv
          refine x_iload_n (pc := 112) C dX6_digest_112 rfl ?_
          have hV2 := hinv
          refine x_aload_n (pc := 113) C dX6_digest_113 rfl ?_
          refine x_getR (pc := 114) (o := 0) (j := 20) C f_X6_10 dX6_digest_114 (hI 0 rfl) ⟨rfl, rfl⟩ ?_
          refine x_getI (pc := 117) (o := 20) C f_X6_257 dX6_digest_117 (hI 20 rfl) ⟨rfl, rfl, rfl⟩ ?_
          refine x_topi (nI n) (by rw [hV2 20 (by decide)]; exact hn1) ?_
          refine x_icmp_ge (pc := 120) (tgt := 135) C dX6_digest_120 (by decide) (fun h120 => absurd h120 (by exact nI_ge (a := i) (b := n) (by omega) (by omega))) (fun h120 => ?_)
          refine x_aload_n (pc := 123) C dX6_digest_123 rfl ?_
          refine x_aload_n (pc := 124) C dX6_digest_124 rfl ?_
          refine x_iload_n (pc := 125) C dX6_digest_125 rfl ?_
          refine x_hpV2 (pc := 126) (o := 0) C v_X6_258 dX6_digest_126 (c_X6_takeShow (V := V2) hI h18 (by rw [hV2 20 (by decide)]; exact hn1) hn24 (by rw [hV2 31 (by decide)]; exact hdy1) (by rw [hV2 30 (by decide)]; exact hsg1) i (by omega)) (hI 0 rfl) rfl (by decide) h18 rfl ⟨Nat.le_refl _, Nat.le_refl _⟩ (fun V3 hV3 => ?_)
          rw [htS_sm hV2]
          refine y_iinc (pc := 129) C (nI (i + 1)) dX6_digest_129 rfl (by exact nI_1 i) (by decide) rfl ?_
          refine x_goto (pc := 132) (tgt := 112) C dX6_digest_132 (by decide) ?_
          exact ih (i + 1) _ (by omega) (sma_t hinv hV3)
      | succ kg ihg =>
        intro g hkg
        refine x_iload_n (pc := 73) C dX6_digest_73 rfl ?_
        refine x_bipush (pc := 74) C (6) dX6_digest_74 (by decide) ?_
        refine x_icmp_ge (pc := 76) (tgt := 110) C dX6_digest_76 (by decide) (fun h76 => absurd h76 (by exact nI_ge (a := g) (b := 6) (by omega) (by omega))) (fun h76 => ?_)
        refine x_iconst (pc := 79) C (0) dX6_digest_79 (by decide) ?_
        refine y_istore_n (pc := 80) C dX6_digest_80 (by decide) rfl ?_
        suffices key : ∀ (k i : Nat) , k + i = 9 → (True) → Wx E 81 [some (aR 0), some (aR 18), some (aI (nI g)), some (aI (nI i))] [] V1 (hwC V1 n g (hwG V1 n (hwZ V1 (hwA V1 n (upL L 18 0 2099) 8) 8) g) i) N (I ++ [18]) 1 1 by
          exact key (9) 0  (by omega) (trivial)
        intro k
        induction k with
        | zero =>
          intro i  hk hinv
          refine x_iload_n (pc := 81) C dX6_digest_81 rfl ?_
          refine x_bipush (pc := 82) C (8) dX6_digest_82 (by decide) ?_
          refine x_icmp_gt (pc := 84) (tgt := 104) C dX6_digest_84 (by decide) (fun h84 => ?_) (fun h84 => absurd (by exact nI_lt (a := 8) (b := i) (by omega) (by omega)) h84)
          obtain rfl : i = 9 := by omega
          refine y_iinc (pc := 104) C (nI (g + 1)) dX6_digest_104 rfl (nI_1 g) (by decide) rfl ?_
          refine x_goto (pc := 107) (tgt := 73) C dX6_digest_107 (by decide) ?_
          refine x_fgt 3 ?_
          exact ihg (g + 1) (by omega)
        | succ k ih =>
          intro i  hk hinv
          refine x_iload_n (pc := 81) C dX6_digest_81 rfl ?_
          refine x_bipush (pc := 82) C (8) dX6_digest_82 (by decide) ?_
          refine x_icmp_gt (pc := 84) (tgt := 104) C dX6_digest_84 (by decide) (fun h84 => absurd h84 (by exact Int32.not_lt.mpr (nI_le (a := i) (b := 8) (by omega) (by omega)))) (fun h84 => ?_)
          refine x_aload_n (pc := 87) C dX6_digest_87 rfl ?_
          refine x_aload_n (pc := 88) C dX6_digest_88 rfl ?_
          refine x_iload_n (pc := 89) C dX6_digest_89 rfl ?_
          refine x_iload_n (pc := 90) C dX6_digest_90 rfl ?_
          refine x_hV2 (pc := 91) (o := 0) C v_X6_202 dX6_digest_91 (c_X6_groupProperty (V := V1) hI hn1 hn24 g i (by omega) (by omega)) (hI 0 rfl) rfl (by decide) h18 rfl ⟨Nat.le_refl _, Nat.le_refl _⟩ ?_
          refine x_i2l (pc := 94) C dX6_digest_94 ?_
          refine x_hV1 (pc := 95) (o := 18) C v_X6_253 dX6_digest_95 (c_X1_take h18 _) h18 rfl (by decide) h18 rfl ⟨Nat.le_refl _, Nat.le_refl _⟩ ?_
          refine y_iinc (pc := 98) C (nI (i + 1)) dX6_digest_98 rfl (by exact nI_1 i) (by decide) rfl ?_
          refine x_goto (pc := 101) (tgt := 81) C dX6_digest_101 (by decide) ?_
          exact ih (i + 1)  (by omega) (trivial)
    | succ k ih =>
      intro i  hk hinv
      refine x_iload_n (pc := 45) C dX6_digest_45 rfl ?_
      refine x_bipush (pc := 46) C (8) dX6_digest_46 (by decide) ?_
      refine x_icmp_ge (pc := 48) (tgt := 71) C dX6_digest_48 (by decide) (fun h48 => absurd h48 (by exact nI_ge (a := i) (b := 8) (by omega) (by omega))) (fun h48 => ?_)
      refine x_aload_n (pc := 51) C dX6_digest_51 rfl ?_
      refine x_aload_n (pc := 52) C dX6_digest_52 rfl ?_
      refine x_getR (pc := 53) (o := 0) (j := 20) C f_X6_10 dX6_digest_53 (hI 0 rfl) ⟨rfl, rfl⟩ ?_
      refine x_getR (pc := 56) (o := 20) (j := 21) C f_X6_78 dX6_digest_56 (hI 20 rfl) ⟨rfl, rfl⟩ ?_
      refine x_iload_n (pc := 59) C dX6_digest_59 rfl ?_
      refine x_iald (pc := 60) (o := 21) C dX6_digest_60 (hI 21 rfl) ⟨rfl, rfl⟩ (show _ < 8 by omega) (by decide) ?_
      refine x_i2l (pc := 61) C dX6_digest_61 ?_
      refine x_hV1 (pc := 62) (o := 18) C v_X6_253 dX6_digest_62 (c_X1_take h18 _) h18 rfl (by decide) h18 rfl ⟨Nat.le_refl _, Nat.le_refl _⟩ ?_
      refine y_iinc (pc := 65) C (nI (i + 1)) dX6_digest_65 rfl (by exact nI_1 i) (by decide) rfl ?_
      refine x_goto (pc := 68) (tgt := 45) C dX6_digest_68 (by decide) ?_
      exact ih (i + 1)  (by omega) (trivial)
  | succ k ih =>
    intro i  hk hinv
    refine x_iload_n (pc := 21) C dX6_digest_21 rfl ?_
    refine x_bipush (pc := 22) C (7) dX6_digest_22 (by decide) ?_
    refine x_icmp_gt (pc := 24) (tgt := 43) C dX6_digest_24 (by decide) (fun h24 => absurd h24 (by exact Int32.not_lt.mpr (nI_le (a := i) (b := 7) (by omega) (by omega)))) (fun h24 => ?_)
    refine x_aload_n (pc := 27) C dX6_digest_27 rfl ?_
    refine x_aload_n (pc := 28) C dX6_digest_28 rfl ?_
    refine x_iload_n (pc := 29) C dX6_digest_29 rfl ?_
    refine x_hV1 (pc := 30) (o := 0) C v_X6_221 dX6_digest_30 (c_X6_countOf (V := V1) hI hn1 hn24 i (by omega)) (hI 0 rfl) rfl (by decide) h18 rfl ⟨by decide, by decide⟩ ?_
    refine x_i2l (pc := 33) C dX6_digest_33 ?_
    refine x_hV1 (pc := 34) (o := 18) C v_X6_253 dX6_digest_34 (c_X1_take h18 _) h18 rfl (by decide) h18 rfl ⟨by decide, by decide⟩ ?_
    refine y_iinc (pc := 37) C (nI (i + 1)) dX6_digest_37 rfl (by exact nI_1 i) (by decide) rfl ?_
    refine x_goto (pc := 40) (tgt := 21) C dX6_digest_40 (by decide) ?_
    exact ih (i + 1)  (by omega) (trivial)
