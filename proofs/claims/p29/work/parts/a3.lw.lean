set_option maxRecDepth 100000 in
set_option maxHeartbeats 4000000 in
theorem c_L_why {l : Launch} {V : VV} {L : LL} {N : NN} {I : List Nat} (hI : PI I) {n : Nat} (hn : V 212 1 = nI n) (hn6 : n ≤ 6) (hB : ∀ s, s < n + 1 → ShB (GF V) s) (hG : GB (V 210)) {g o : Nat} (hg : GF V 1 n = nI g) (hg6 : g < 6) (ho : GF V 0 n = 2 → o < n) (hk : GF V 0 n = 2 → fstF (fun s => decide (GF V 8 s = GF V 7 n)) n 0 = some o) : Runs l 3 0 0 yL_why (Cond.code yL_why cL_why 14 (some .int)) [aR 210, aR 211, aR 212, aR 213] V L N I (Is (some (aI (refR (GF V) (V 210) (V 211 (5 * g) + V 211 (5 * g + 1)) n (GF V 0 n) (nI g) (GF V 2 n) (GF V 3 n) (GF V 4 n) (GF V 5 n) o))) (V) (L) N I) := by
  refine run_of RL (by decide +kernel) rfl (Nat.le_of_ble_eq_true rfl) (fun E hE C hQ hN => ?_)
  subst hE
  obtain ⟨_, _, b2, b3, b4, b5, _⟩ := hB n (Nat.lt_succ_self n)
  obtain ⟨l, hl, hl2⟩ := nat_of (x := GF V 4 n) (by omega)
  obtain ⟨p, hp, hp2⟩ := nat_of b5.1
  obtain ⟨S, hS, hS2⟩ := nat_of b3.1
  have J84 : ∀ x9 : Int32, (GF V 0 n = 2 → x9 = nI o ∧ ¬ GF V 0 o = 2) → Wx E 84 [some (aR 210), some (aR 211), some (aR 212), some (aR 213), some (aI (nI (9 * n))), some (aI (GF V 0 n)), some (aI (GF V 2 n)), some (aI (GF V 3 n)), some (aI (GF V 3 n + GF V 4 n)), some (aI x9), none, none, none, none] [] V L N I 0 0 := by
    intro x9 hx9
    refine x_iload (pc := 84) C dL_why_84 rfl ?_
    refine x_aload_n (pc := 86) C dL_why_86 rfl ?_
    refine x_iconst (pc := 87) C (0) dL_why_87 (by decide) ?_
    refine x_topi (nI 0) (by decide) ?_
    refine x_iald (pc := 88) (o := 210) C dL_why_88 (hI 210 rfl) ⟨rfl, rfl⟩ (show _ < 8 by decide) (by decide) ?_
    refine x_topi (V 210 0) (rfl) ?_
    refine x_icmp_lt (pc := 89) (tgt := 100) C dL_why_89 (by decide) (fun h89 => ?_) (fun h89 => ?_)
    · refine x_iconst (pc := 100) C (3) dL_why_100 (by decide) ?_
      exact x_iret (pc := 101) C hQ dL_why_101 (is_i (by rw [refR, if_neg (show ¬ n = 24 by omega), if_neg (fun z => (hx9 z.1).2 z.2), if_pos (by first | exact Or.inl h89 | exact Or.inr (Int32.not_le.mp h97))])) (Nat.le_of_ble_eq_true rfl) (Nat.le_of_ble_eq_true rfl)
    · refine x_iload (pc := 92) C dL_why_92 rfl ?_
      refine x_aload_n (pc := 94) C dL_why_94 rfl ?_
      refine x_iconst (pc := 95) C (1) dL_why_95 (by decide) ?_
      refine x_topi (nI 1) (by decide) ?_
      refine x_iald (pc := 96) (o := 210) C dL_why_96 (hI 210 rfl) ⟨rfl, rfl⟩ (show _ < 8 by decide) (by decide) ?_
      refine x_topi (V 210 1) (rfl) ?_
      refine x_icmp_le (pc := 97) (tgt := 102) C dL_why_97 (by decide) (fun h97 => ?_) (fun h97 => ?_)
      · refine x_iload (pc := 102) C dL_why_102 rfl ?_
        refine y_istore (pc := 104) C dL_why_104 (by decide) rfl ?_
        refine x_loc (ls2 := [some (aR 210), some (aR 211), some (aR 212), some (aR 213), some (aI (nI (9 * n))), some (aI (GF V 0 n)), some (aI (GF V 2 n)), some (aI (GF V 3 n)), some (aI (GF V 3 n + GF V 4 n)), some (aI x9), some (aI (GF V 3 n + nI 0)), none, none, none]) (by rw [nI_0, Int32.add_zero]; rfl) ?_
        suffices keyk : ∀ (k j : Nat) , k + j = l → (∀ q, q < j → (fstF (takB (GF V) (GF V 2 n) (GF V 3 n + nI q)) n 0).isSome = false) → Wx E 106 [some (aR 210), some (aR 211), some (aR 212), some (aR 213), some (aI (nI (9 * n))), some (aI (GF V 0 n)), some (aI (GF V 2 n)), some (aI (GF V 3 n)), some (aI (GF V 3 n + GF V 4 n)), some (aI x9), some (aI (GF V 3 n + nI j)), none, none, none] [] V L N I 0 0 by
          exact keyk (l) (0)  (by omega) (fun q hq => absurd hq (Nat.not_lt_zero q))
        intro k
        induction k with
        | zero =>
          intro j  hk hinv
          refine x_iload (pc := 106) C dL_why_106 rfl ?_
          refine x_iload (pc := 108) C dL_why_108 rfl ?_
          refine x_icmp_ge (pc := 110) (tgt := 133) C dL_why_110 (by decide) (fun h110 => ?_) (fun h110 => absurd (by rw [hl]; exact (mn_le b3.1 b3.2 (by omega) (by omega)).mpr (by omega)) h110)
          have hnh : ¬ orTo (hitS (GF V) (GF V 2 n) (GF V 3 n) (GF V 4 n)) n = true := by
            rw [hl]; intro z
            obtain ⟨q, hq, hq2⟩ := (hit_tak (fun s hs => hB s (by omega)) b3.1 b3.2 (by omega) (by omega)).mp z
            rw [hinv q (by omega)] at hq2; cases hq2
          have J193 : (GF V 0 n = 2 → ¬ 1440 * GF V 2 n + GF V 3 n < earlS (GF V) (V 210 4) o) → Wx E 193 [some (aR 210), some (aR 211), some (aR 212), some (aR 213), some (aI (nI (9 * n))), some (aI (GF V 0 n)), some (aI (GF V 2 n)), some (aI (GF V 3 n)), some (aI (GF V 3 n + GF V 4 n)), none, none, none, none, none] [] V L N I 0 0 := by
            intro hne
            refine x_iconst (pc := 193) C (0) dL_why_193 (by decide) ?_
            refine y_istore (pc := 194) C dL_why_194 (by decide) rfl ?_
            refine x_iconst (pc := 196) C (0) dL_why_196 (by decide) ?_
            refine y_istore (pc := 197) C dL_why_197 (by decide) rfl ?_
            suffices keyk : ∀ (k i : Nat) (s : Int32), k + i = n + 1 → (s = sumTo (fun k => if GF V 1 k = GF V 1 n then worthF (V 210 5) (GF V 0 k) (GF V 4 k) else 0) i) → Wx E 199 [some (aR 210), some (aR 211), some (aR 212), some (aR 213), some (aI (nI (9 * n))), some (aI (GF V 0 n)), some (aI (GF V 2 n)), some (aI (GF V 3 n)), some (aI (GF V 3 n + GF V 4 n)), none, some (aI s), some (aI (nI i)), none, none] [] V L N I 0 0 by
              exact keyk (n + 1) (0) _ (by omega) (rfl)
            intro k
            induction k with
            | zero =>
              intro i s hk hinv
              refine x_iload (pc := 199) C dL_why_199 rfl ?_
              refine x_aload_n (pc := 201) C dL_why_201 rfl ?_
              refine x_iconst (pc := 202) C (1) dL_why_202 (by decide) ?_
              refine x_topi (nI 1) (by decide) ?_
              refine x_iald (pc := 203) (o := 212) C dL_why_203 (hI 212 rfl) ⟨rfl, rfl⟩ (show _ < 3 by decide) (by decide) ?_
              refine x_topi (nI n) hn ?_
              refine x_icmp_gt (pc := 204) (tgt := 260) C dL_why_204 (by decide) (fun h204 => ?_) (fun h204 => absurd (by exact nI_lt (a := n) (b := i) (by omega) (by omega)) h204)
              have hw : s = (wolS (GF V) (V 210 5) n (nI g) + worthF (V 210 5) (GF V 0 n) (GF V 4 n)) := by rw [hinv, show i = n + 1 by omega, sumTo, if_pos rfl]; refine congrArg (fun f => f + _) (sumTo_congr fun k hk => by rw [hg])
              refine x_iload (pc := 260) C dL_why_260 rfl ?_
              refine x_aload_n (pc := 262) C dL_why_262 rfl ?_
              refine x_iload (pc := 263) C dL_why_263 rfl ?_
              refine x_iconst (pc := 265) C (1) dL_why_265 (by decide) ?_
              refine x_iadd (pc := 266) C dL_why_266 ?_
              refine x_topi (nI (9 * n + 1)) (nI_add (9 * n) (1)) ?_
              refine x_iald (pc := 267) (o := 213) C dL_why_267 (hI 213 rfl) ⟨rfl, rfl⟩ (show _ < 63 by omega) (by decide) ?_
              refine x_topi (GF V 1 n) (rfl) ?_
              refine x_topi (nI g) hg ?_
              refine x_aload_n (pc := 268) C dL_why_268 rfl ?_
              refine x_gS2 (pc := 269) C [] (fun _ h => nomatch h) s_L_22 dL_why_269 (c_L_allowance hI g hg6) (by decide) rfl ⟨Nat.le_refl _, Nat.le_refl _⟩ ?_
              refine x_icmp_le (pc := 272) (tgt := 278) C dL_why_272 (by decide) (fun h272 => ?_) (fun h272 => ?_)
              · refine x_iconst (pc := 278) C (0) dL_why_278 (by decide) ?_
                refine y_istore (pc := 279) C dL_why_279 (by decide) rfl ?_
                refine x_fgt 10 ?_
                suffices keyk : ∀ (k x : Nat) , k + x = 24 → (∀ y, y < x → (exR (GF V) (V 210 6) n (GF V 2 n) (GF V 3 n) (GF V 5 n)) y = false) → Wx E 281 [some (aR 210), some (aR 211), some (aR 212), some (aR 213), some (aI (nI (9 * n))), some (aI (GF V 0 n)), some (aI (GF V 2 n)), some (aI (GF V 3 n)), some (aI (GF V 3 n + GF V 4 n)), none, none, some (aI (nI x)), none, none] [] V L N I 0 0 by
                  exact keyk (24) (0)  (by omega) (fun y hy => absurd hy (Nat.not_lt_zero y))
                intro k
                induction k with
                | zero =>
                  intro x  hk hinv
                  refine x_iload (pc := 281) C dL_why_281 rfl ?_
                  refine x_bipush (pc := 283) C (24) dL_why_283 (by decide) ?_
                  refine x_icmp_ge (pc := 285) (tgt := 362) C dL_why_285 (by decide) (fun h285 => ?_) (fun h285 => absurd (by exact nI_le (a := 24) (b := x) (by omega) (by omega)) h285)
                  refine x_iconst (pc := 362) C (0) dL_why_362 (by decide) ?_
                  exact x_iret (pc := 363) C hQ dL_why_363 (is_i (by rw [refR, if_neg (show ¬ n = 24 by omega), if_neg (fun z => (hx9 z.1).2 z.2), if_neg (not_or.mpr ⟨h89, Int32.not_lt.mpr h97⟩), if_neg hnh, if_neg (fun z => hne z.1 z.2), if_neg (by rw [← hw]; exact Int32.not_lt.mpr h272), if_neg (or_no fun y hy => hinv y (by omega))])) (Nat.le_of_ble_eq_true rfl) (Nat.le_of_ble_eq_true rfl)
                | succ k ih =>
                  intro x  hk hinv
                  refine x_iload (pc := 281) C dL_why_281 rfl ?_
                  refine x_bipush (pc := 283) C (24) dL_why_283 (by decide) ?_
                  refine x_icmp_ge (pc := 285) (tgt := 362) C dL_why_285 (by decide) (fun h285 => absurd h285 (by exact nI_ge (a := x) (b := 24) (by omega) (by omega))) (fun h285 => ?_)
                  refine x_iconst (pc := 288) C (0) dL_why_288 (by decide) ?_
                  refine y_istore (pc := 289) C dL_why_289 (by decide) rfl ?_
                  refine x_iconst (pc := 291) C (0) dL_why_291 (by decide) ?_
                  refine y_istore (pc := 292) C dL_why_292 (by decide) rfl ?_
                  suffices keyk2 : ∀ (k2 j : Nat) (s2 : Int32), k2 + j = (GF V 5 n).toNatClampNeg → (s2 = sumTo (fun j => if (GF V 3 n + nI j) / 60 = nI x then 1 else 0) j) → Wx E 294 [some (aR 210), some (aR 211), some (aR 212), some (aR 213), some (aI (nI (9 * n))), some (aI (GF V 0 n)), some (aI (GF V 2 n)), some (aI (GF V 3 n)), some (aI (GF V 3 n + GF V 4 n)), none, none, some (aI (nI x)), some (aI s2), some (aI (nI j))] [] V L N I 0 0 by
                    exact keyk2 ((GF V 5 n).toNatClampNeg) (0) _ (by omega) (rfl)
                  intro k2
                  induction k2 with
                  | zero =>
                    intro j s2 hk2 hinv2
                    refine x_iload (pc := 294) C dL_why_294 rfl ?_
                    refine x_aload_n (pc := 296) C dL_why_296 rfl ?_
                    refine x_iload (pc := 297) C dL_why_297 rfl ?_
                    refine x_iconst (pc := 299) C (5) dL_why_299 (by decide) ?_
                    refine x_iadd (pc := 300) C dL_why_300 ?_
                    refine x_topi (nI (9 * n + 5)) (nI_add (9 * n) (5)) ?_
                    refine x_iald (pc := 301) (o := 213) C dL_why_301 (hI 213 rfl) ⟨rfl, rfl⟩ (show _ < 63 by omega) (by decide) ?_
                    refine x_topi (GF V 5 n) (rfl) ?_
                    refine x_icmp_ge (pc := 302) (tgt := 334) C dL_why_302 (by decide) (fun h302 => ?_) (fun h302 => absurd (by exact cl_ge (by omega) (by have := cl_b (GF V 5 n); omega)) h302)
                    have ho : s2 = inHourR (GF V 3 n) (GF V 5 n) (nI x) := by rw [hinv2, show j = p by have := (cl_t hp2).2; omega, hS, hp]; exact cnt_in (by omega) (by omega) (by omega)
                    refine x_iload (pc := 334) C dL_why_334 rfl ?_
                    refine x_iload (pc := 336) C dL_why_336 rfl ?_
                    refine x_aload_n (pc := 338) C dL_why_338 rfl ?_
                    refine x_aload_n (pc := 339) C dL_why_339 rfl ?_
                    refine x_gS4 (pc := 340) C [] (fun _ h => nomatch h) s_L_26 dL_why_340 (c_L_planned hI hn hn6 (fun s hs => hB s (by omega)) _ x (by omega)) (by decide) rfl ⟨Nat.le_refl _, Nat.le_refl _⟩ ?_
                    refine x_iload (pc := 343) C dL_why_343 rfl ?_
                    refine x_iadd (pc := 345) C dL_why_345 ?_
                    refine x_aload_n (pc := 346) C dL_why_346 rfl ?_
                    refine x_bipush (pc := 347) C (6) dL_why_347 (by decide) ?_
                    refine x_topi (nI 6) (by decide) ?_
                    refine x_iald (pc := 349) (o := 210) C dL_why_349 (hI 210 rfl) ⟨rfl, rfl⟩ (show _ < 8 by decide) (by decide) ?_
                    refine x_topi (V 210 6) (rfl) ?_
                    refine x_icmp_le (pc := 350) (tgt := 356) C dL_why_350 (by decide) (fun h350 => ?_) (fun h350 => ?_)
                    · refine y_iinc (pc := 356) C (nI (x + 1)) dL_why_356 rfl (by exact nI_1 x) (by decide) rfl ?_
                      refine x_goto (pc := 359) (tgt := 281) C dL_why_359 (by decide) ?_
                      refine x_fgt 12 ?_
                      refine x_fgt 13 ?_
                      exact ih (x + 1) (by omega) (fun y hy => by
                        by_cases e : y = x
                        · rw [e]; exact decide_eq_false (by rw [← ho]; exact Int32.not_lt.mpr h350)
                        · exact hinv y (by omega))
                    · refine x_bipush (pc := 353) C (7) dL_why_353 (by decide) ?_
                      exact x_iret (pc := 355) C hQ dL_why_355 (is_i (by rw [refR, if_neg (show ¬ n = 24 by omega), if_neg (fun z => (hx9 z.1).2 z.2), if_neg (not_or.mpr ⟨h89, Int32.not_lt.mpr h97⟩), if_neg hnh, if_neg (fun z => hne z.1 z.2), if_neg (by rw [← hw]; exact Int32.not_lt.mpr h272), if_pos (or_ex.mpr ⟨x, by omega, decide_eq_true (by rw [← ho]; exact Int32.not_le.mp h350)⟩)])) (Nat.le_of_ble_eq_true rfl) (Nat.le_of_ble_eq_true rfl)
                  | succ k2 ih2 =>
                    intro j s2 hk2 hinv2
                    refine x_iload (pc := 294) C dL_why_294 rfl ?_
                    refine x_aload_n (pc := 296) C dL_why_296 rfl ?_
                    refine x_iload (pc := 297) C dL_why_297 rfl ?_
                    refine x_iconst (pc := 299) C (5) dL_why_299 (by decide) ?_
                    refine x_iadd (pc := 300) C dL_why_300 ?_
                    refine x_topi (nI (9 * n + 5)) (nI_add (9 * n) (5)) ?_
                    refine x_iald (pc := 301) (o := 213) C dL_why_301 (hI 213 rfl) ⟨rfl, rfl⟩ (show _ < 63 by omega) (by decide) ?_
                    refine x_topi (GF V 5 n) (rfl) ?_
                    refine x_icmp_ge (pc := 302) (tgt := 334) C dL_why_302 (by decide) (fun h302 => absurd h302 (by exact cl_lt (by omega))) (fun h302 => ?_)
                    refine x_iload (pc := 305) C dL_why_305 rfl ?_
                    refine x_iload (pc := 307) C dL_why_307 rfl ?_
                    refine x_iload (pc := 309) C dL_why_309 rfl ?_
                    refine x_iadd (pc := 311) C dL_why_311 ?_
                    refine x_bipush (pc := 312) C (60) dL_why_312 (by decide) ?_
                    refine x_idiv (pc := 314) C dL_why_314 (by decide) ?_
                    refine x_iload (pc := 315) C dL_why_315 rfl ?_
                    refine x_icmp_ne (pc := 317) (tgt := 324) C dL_why_317 (by decide) (fun h317 => ?_) (fun h317 => ?_)
                    · refine x_iconst (pc := 324) C (0) dL_why_324 (by decide) ?_
                      refine x_iadd (pc := 325) C dL_why_325 ?_
                      refine y_istore (pc := 326) C dL_why_326 (by decide) rfl ?_
                      refine y_iinc (pc := 328) C (nI (j + 1)) dL_why_328 rfl (by exact nI_1 j) (by decide) rfl ?_
                      refine x_goto (pc := 331) (tgt := 294) C dL_why_331 (by decide) ?_
                      exact ih2 (j + 1) _ (by omega) (by rw [hinv2, Int32.add_zero, sumTo, if_neg h317, Int32.add_zero])
                    · refine x_iconst (pc := 320) C (1) dL_why_320 (by decide) ?_
                      refine x_goto (pc := 321) (tgt := 325) C dL_why_321 (by decide) ?_
                      refine x_iadd (pc := 325) C dL_why_325 ?_
                      refine y_istore (pc := 326) C dL_why_326 (by decide) rfl ?_
                      refine y_iinc (pc := 328) C (nI (j + 1)) dL_why_328 rfl (by exact nI_1 j) (by decide) rfl ?_
                      refine x_goto (pc := 331) (tgt := 294) C dL_why_331 (by decide) ?_
                      exact ih2 (j + 1) _ (by omega) (by rw [hinv2, sumTo, if_pos h317])
              · refine x_bipush (pc := 275) C (6) dL_why_275 (by decide) ?_
                exact x_iret (pc := 277) C hQ dL_why_277 (is_i (by rw [refR, if_neg (show ¬ n = 24 by omega), if_neg (fun z => (hx9 z.1).2 z.2), if_neg (not_or.mpr ⟨h89, Int32.not_lt.mpr h97⟩), if_neg hnh, if_neg (fun z => hne z.1 z.2), if_pos (by rw [← hw]; exact Int32.not_le.mp h272)])) (Nat.le_of_ble_eq_true rfl) (Nat.le_of_ble_eq_true rfl)
            | succ k ih =>
              intro i s hk hinv
              refine x_iload (pc := 199) C dL_why_199 rfl ?_
              refine x_aload_n (pc := 201) C dL_why_201 rfl ?_
              refine x_iconst (pc := 202) C (1) dL_why_202 (by decide) ?_
              refine x_topi (nI 1) (by decide) ?_
              refine x_iald (pc := 203) (o := 212) C dL_why_203 (hI 212 rfl) ⟨rfl, rfl⟩ (show _ < 3 by decide) (by decide) ?_
              refine x_topi (nI n) hn ?_
              refine x_icmp_gt (pc := 204) (tgt := 260) C dL_why_204 (by decide) (fun h204 => absurd h204 (by exact nI_nlt (a := n) (b := i) (by omega) (by omega))) (fun h204 => ?_)
              refine x_iload (pc := 207) C dL_why_207 rfl ?_
              refine x_aload_n (pc := 209) C dL_why_209 rfl ?_
              refine x_bipush (pc := 210) C (9) dL_why_210 (by decide) ?_
              refine x_iload (pc := 212) C dL_why_212 rfl ?_
              refine x_imul (pc := 214) C dL_why_214 ?_
              refine x_topi (nI (9 * i)) (pk_mul (9) (i)) ?_
              refine x_iconst (pc := 215) C (1) dL_why_215 (by decide) ?_
              refine x_iadd (pc := 216) C dL_why_216 ?_
              refine x_topi (nI (9 * i + 1)) (nI_add (9 * i) (1)) ?_
              refine x_iald (pc := 217) (o := 213) C dL_why_217 (hI 213 rfl) ⟨rfl, rfl⟩ (show _ < 63 by omega) (by decide) ?_
              refine x_topi (GF V 1 i) (rfl) ?_
              refine x_aload_n (pc := 218) C dL_why_218 rfl ?_
              refine x_iload (pc := 219) C dL_why_219 rfl ?_
              refine x_iconst (pc := 221) C (1) dL_why_221 (by decide) ?_
              refine x_iadd (pc := 222) C dL_why_222 ?_
              refine x_topi (nI (9 * n + 1)) (nI_add (9 * n) (1)) ?_
              refine x_iald (pc := 223) (o := 213) C dL_why_223 (hI 213 rfl) ⟨rfl, rfl⟩ (show _ < 63 by omega) (by decide) ?_
              refine x_topi (GF V 1 n) (rfl) ?_
              refine x_icmp_ne (pc := 224) (tgt := 250) C dL_why_224 (by decide) (fun h224 => ?_) (fun h224 => ?_)
              · refine x_iconst (pc := 250) C (0) dL_why_250 (by decide) ?_
                refine x_iadd (pc := 251) C dL_why_251 ?_
                refine y_istore (pc := 252) C dL_why_252 (by decide) rfl ?_
                refine y_iinc (pc := 254) C (nI (i + 1)) dL_why_254 rfl (by exact nI_1 i) (by decide) rfl ?_
                refine x_goto (pc := 257) (tgt := 199) C dL_why_257 (by decide) ?_
                exact ih (i + 1) _ (by omega) (by rw [hinv, Int32.add_zero, sumTo, if_neg h224, Int32.add_zero])
              · refine x_aload_n (pc := 227) C dL_why_227 rfl ?_
                refine x_bipush (pc := 228) C (9) dL_why_228 (by decide) ?_
                refine x_iload (pc := 230) C dL_why_230 rfl ?_
                refine x_imul (pc := 232) C dL_why_232 ?_
                refine x_topi (nI (9 * i)) (pk_mul (9) (i)) ?_
                refine x_iald (pc := 233) (o := 213) C dL_why_233 (hI 213 rfl) ⟨rfl, rfl⟩ (show _ < 63 by omega) (by decide) ?_
                refine x_topi (GF V 0 i) (rfl) ?_
                refine x_aload_n (pc := 234) C dL_why_234 rfl ?_
                refine x_bipush (pc := 235) C (9) dL_why_235 (by decide) ?_
                refine x_iload (pc := 237) C dL_why_237 rfl ?_
                refine x_imul (pc := 239) C dL_why_239 ?_
                refine x_topi (nI (9 * i)) (pk_mul (9) (i)) ?_
                refine x_iconst (pc := 240) C (4) dL_why_240 (by decide) ?_
                refine x_iadd (pc := 241) C dL_why_241 ?_
                refine x_topi (nI (9 * i + 4)) (nI_add (9 * i) (4)) ?_
                refine x_iald (pc := 242) (o := 213) C dL_why_242 (hI 213 rfl) ⟨rfl, rfl⟩ (show _ < 63 by omega) (by decide) ?_
                refine x_topi (GF V 4 i) (rfl) ?_
                refine x_aload_n (pc := 243) C dL_why_243 rfl ?_
                refine x_gS3 (pc := 244) C [] (fun _ h => nomatch h) s_L_18 dL_why_244 (c_L_worth hI _ _ (shb_k (hB i (by omega)))) (by decide) rfl ⟨Nat.le_refl _, Nat.le_refl _⟩ ?_
                refine x_goto (pc := 247) (tgt := 251) C dL_why_247 (by decide) ?_
                refine x_iadd (pc := 251) C dL_why_251 ?_
                refine y_istore (pc := 252) C dL_why_252 (by decide) rfl ?_
                refine y_iinc (pc := 254) C (nI (i + 1)) dL_why_254 rfl (by exact nI_1 i) (by decide) rfl ?_
                refine x_goto (pc := 257) (tgt := 199) C dL_why_257 (by decide) ?_
                exact ih (i + 1) _ (by omega) (by rw [hinv, sumTo, if_pos h224])
          refine x_iload (pc := 133) C dL_why_133 rfl ?_
          refine x_iconst (pc := 135) C (2) dL_why_135 (by decide) ?_
          refine x_icmp_ne (pc := 136) (tgt := 193) C dL_why_136 (by decide) (fun h136 => ?_) (fun h136 => ?_)
          · refine x_fgt 9 ?_
            refine x_fgt 10 ?_
            exact J193 (fun z => absurd z h136)
          · obtain ⟨rfl, h0o⟩ := hx9 h136
            have hon := ho h136
            refine x_sipush (pc := 139) C (1440) dL_why_139 (by decide) ?_
            refine x_iload (pc := 142) C dL_why_142 rfl ?_
            refine x_imul (pc := 144) C dL_why_144 ?_
            refine x_iload (pc := 145) C dL_why_145 rfl ?_
            refine x_iadd (pc := 147) C dL_why_147 ?_
            refine x_sipush (pc := 148) C (1440) dL_why_148 (by decide) ?_
            refine x_aload_n (pc := 151) C dL_why_151 rfl ?_
            refine x_bipush (pc := 152) C (9) dL_why_152 (by decide) ?_
            refine x_iload (pc := 154) C dL_why_154 rfl ?_
            refine x_imul (pc := 156) C dL_why_156 ?_
            refine x_topi (nI (9 * o)) (pk_mul (9) (o)) ?_
            refine x_iconst (pc := 157) C (2) dL_why_157 (by decide) ?_
            refine x_iadd (pc := 158) C dL_why_158 ?_
            refine x_topi (nI (9 * o + 2)) (nI_add (9 * o) (2)) ?_
            refine x_iald (pc := 159) (o := 213) C dL_why_159 (hI 213 rfl) ⟨rfl, rfl⟩ (show _ < 63 by omega) (by decide) ?_
            refine x_topi (GF V 2 o) (rfl) ?_
            refine x_imul (pc := 160) C dL_why_160 ?_
            refine x_isub (pc := 161) C dL_why_161 ?_
            refine x_aload_n (pc := 162) C dL_why_162 rfl ?_
            refine x_bipush (pc := 163) C (9) dL_why_163 (by decide) ?_
            refine x_iload (pc := 165) C dL_why_165 rfl ?_
            refine x_imul (pc := 167) C dL_why_167 ?_
            refine x_topi (nI (9 * o)) (pk_mul (9) (o)) ?_
            refine x_iconst (pc := 168) C (3) dL_why_168 (by decide) ?_
            refine x_iadd (pc := 169) C dL_why_169 ?_
            refine x_topi (nI (9 * o + 3)) (nI_add (9 * o) (3)) ?_
            refine x_iald (pc := 170) (o := 213) C dL_why_170 (hI 213 rfl) ⟨rfl, rfl⟩ (show _ < 63 by omega) (by decide) ?_
            refine x_topi (GF V 3 o) (rfl) ?_
            refine x_isub (pc := 171) C dL_why_171 ?_
            refine x_aload_n (pc := 172) C dL_why_172 rfl ?_
            refine x_bipush (pc := 173) C (9) dL_why_173 (by decide) ?_
            refine x_iload (pc := 175) C dL_why_175 rfl ?_
            refine x_imul (pc := 177) C dL_why_177 ?_
            refine x_topi (nI (9 * o)) (pk_mul (9) (o)) ?_
            refine x_iconst (pc := 178) C (4) dL_why_178 (by decide) ?_
            refine x_iadd (pc := 179) C dL_why_179 ?_
            refine x_topi (nI (9 * o + 4)) (nI_add (9 * o) (4)) ?_
            refine x_iald (pc := 180) (o := 213) C dL_why_180 (hI 213 rfl) ⟨rfl, rfl⟩ (show _ < 63 by omega) (by decide) ?_
            refine x_topi (GF V 4 o) (rfl) ?_
            refine x_isub (pc := 181) C dL_why_181 ?_
            refine x_bipush (pc := 182) C (60) dL_why_182 (by decide) ?_
            refine x_aload_n (pc := 184) C dL_why_184 rfl ?_
            refine x_iconst (pc := 185) C (4) dL_why_185 (by decide) ?_
            refine x_topi (nI 4) (by decide) ?_
            refine x_iald (pc := 186) (o := 210) C dL_why_186 (hI 210 rfl) ⟨rfl, rfl⟩ (show _ < 8 by decide) (by decide) ?_
            refine x_topi (V 210 4) (rfl) ?_
            refine x_imul (pc := 187) C dL_why_187 ?_
            refine x_icmp_ge (pc := 188) (tgt := 193) C dL_why_188 (by decide) (fun h188 => ?_) (fun h188 => ?_)
            · refine x_fgt 9 ?_
              refine x_fgt 10 ?_
              exact J193 (fun _ => (early_iff b2.1 b2.2 b3.1 b3.2 (hB o (by have := ho h136; omega)) hG).mp h188)
            · refine x_iconst (pc := 191) C (5) dL_why_191 (by decide) ?_
              exact x_iret (pc := 192) C hQ dL_why_192 (is_i (by rw [refR, if_neg (show ¬ n = 24 by omega), if_neg (fun z => h0o z.2), if_neg (not_or.mpr ⟨h89, Int32.not_lt.mpr h97⟩), if_neg hnh, if_pos ⟨h136, Decidable.not_not.mp fun z => h188 ((early_iff b2.1 b2.2 b3.1 b3.2 (hB o (by have := ho h136; omega)) hG).mpr z)⟩])) (Nat.le_of_ble_eq_true rfl) (Nat.le_of_ble_eq_true rfl)
        | succ k ih =>
          intro j  hk hinv
          refine x_iload (pc := 106) C dL_why_106 rfl ?_
          refine x_iload (pc := 108) C dL_why_108 rfl ?_
          refine x_icmp_ge (pc := 110) (tgt := 133) C dL_why_110 (by decide) (fun h110 => absurd h110 (by rw [hl]; exact fun z => absurd ((mn_le b3.1 b3.2 (by omega) (by omega)).mp z) (by omega))) (fun h110 => ?_)
          refine x_iload (pc := 113) C dL_why_113 rfl ?_
          refine x_iload (pc := 115) C dL_why_115 rfl ?_
          refine x_aload_n (pc := 117) C dL_why_117 rfl ?_
          refine x_aload_n (pc := 118) C dL_why_118 rfl ?_
          refine x_gS4 (pc := 119) C [] (fun _ h => nomatch h) s_L_14 dL_why_119 (c_L_taken hI hn hn6 _ _) (by decide) rfl ⟨Nat.le_refl _, Nat.le_refl _⟩ ?_
          refine x_if_eq (pc := 122) (tgt := 127) C dL_why_122 (by decide) (fun h122 => ?_) (fun h122 => ?_)
          · refine y_iinc (pc := 127) C (GF V 3 n + nI (j + 1)) dL_why_127 rfl (by rw [Int32.add_assoc]; exact congrArg (fun z => GF V 3 n + z) (nI_1 j)) (by decide) rfl ?_
            refine x_goto (pc := 130) (tgt := 106) C dL_why_130 (by decide) ?_
            exact ih (j + 1)  (by omega) (fun q hq => if e : q = j then (by rw [e]; exact b2i_f h122) else hinv q (by omega))
          · refine x_iconst (pc := 125) C (4) dL_why_125 (by decide) ?_
            exact x_iret (pc := 126) C hQ dL_why_126 (is_i (by rw [refR, if_neg (show ¬ n = 24 by omega), if_neg (fun z => (hx9 z.1).2 z.2), if_neg (not_or.mpr ⟨h89, Int32.not_lt.mpr h97⟩), if_pos (by rw [hl]; exact (hit_tak (fun s hs => hB s (by omega)) b3.1 b3.2 (by omega) (by omega)).mpr ⟨j, by omega, b2i_t h122⟩)])) (Nat.le_of_ble_eq_true rfl) (Nat.le_of_ble_eq_true rfl)
      · refine x_iconst (pc := 100) C (3) dL_why_100 (by decide) ?_
        exact x_iret (pc := 101) C hQ dL_why_101 (is_i (by rw [refR, if_neg (show ¬ n = 24 by omega), if_neg (fun z => (hx9 z.1).2 z.2), if_pos (by first | exact Or.inl h89 | exact Or.inr (Int32.not_le.mp h97))])) (Nat.le_of_ble_eq_true rfl) (Nat.le_of_ble_eq_true rfl)
  refine x_bipush (pc := 0) C (9) dL_why_0 (by decide) ?_
  refine x_aload_n (pc := 2) C dL_why_2 rfl ?_
  refine x_iconst (pc := 3) C (1) dL_why_3 (by decide) ?_
  refine x_topi (nI 1) (by decide) ?_
  refine x_iald (pc := 4) (o := 212) C dL_why_4 (hI 212 rfl) ⟨rfl, rfl⟩ (show _ < 3 by decide) (by decide) ?_
  refine x_topi (nI n) hn ?_
  refine x_imul (pc := 5) C dL_why_5 ?_
  refine x_topi (nI (9 * n)) (pk_mul (9) (n)) ?_
  refine y_istore (pc := 6) C dL_why_6 (by decide) rfl ?_
  refine x_aload_n (pc := 8) C dL_why_8 rfl ?_
  refine x_iload (pc := 9) C dL_why_9 rfl ?_
  refine x_iald (pc := 11) (o := 213) C dL_why_11 (hI 213 rfl) ⟨rfl, rfl⟩ (show _ < 63 by omega) (by decide) ?_
  refine x_topi (GF V 0 n) (rfl) ?_
  refine y_istore (pc := 12) C dL_why_12 (by decide) rfl ?_
  refine x_aload_n (pc := 14) C dL_why_14 rfl ?_
  refine x_iload (pc := 15) C dL_why_15 rfl ?_
  refine x_iconst (pc := 17) C (2) dL_why_17 (by decide) ?_
  refine x_iadd (pc := 18) C dL_why_18 ?_
  refine x_topi (nI (9 * n + 2)) (nI_add (9 * n) (2)) ?_
  refine x_iald (pc := 19) (o := 213) C dL_why_19 (hI 213 rfl) ⟨rfl, rfl⟩ (show _ < 63 by omega) (by decide) ?_
  refine x_topi (GF V 2 n) (rfl) ?_
  refine y_istore (pc := 20) C dL_why_20 (by decide) rfl ?_
  refine x_aload_n (pc := 22) C dL_why_22 rfl ?_
  refine x_iload (pc := 23) C dL_why_23 rfl ?_
  refine x_iconst (pc := 25) C (3) dL_why_25 (by decide) ?_
  refine x_iadd (pc := 26) C dL_why_26 ?_
  refine x_topi (nI (9 * n + 3)) (nI_add (9 * n) (3)) ?_
  refine x_iald (pc := 27) (o := 213) C dL_why_27 (hI 213 rfl) ⟨rfl, rfl⟩ (show _ < 63 by omega) (by decide) ?_
  refine x_topi (GF V 3 n) (rfl) ?_
  refine y_istore (pc := 28) C dL_why_28 (by decide) rfl ?_
  refine x_iload (pc := 30) C dL_why_30 rfl ?_
  refine x_aload_n (pc := 32) C dL_why_32 rfl ?_
  refine x_iload (pc := 33) C dL_why_33 rfl ?_
  refine x_iconst (pc := 35) C (4) dL_why_35 (by decide) ?_
  refine x_iadd (pc := 36) C dL_why_36 ?_
  refine x_topi (nI (9 * n + 4)) (nI_add (9 * n) (4)) ?_
  refine x_iald (pc := 37) (o := 213) C dL_why_37 (hI 213 rfl) ⟨rfl, rfl⟩ (show _ < 63 by omega) (by decide) ?_
  refine x_topi (GF V 4 n) (rfl) ?_
  refine x_iadd (pc := 38) C dL_why_38 ?_
  refine y_istore (pc := 39) C dL_why_39 (by decide) rfl ?_
  refine x_iload (pc := 41) C dL_why_41 rfl ?_
  refine x_iconst (pc := 43) C (2) dL_why_43 (by decide) ?_
  refine x_icmp_ne (pc := 44) (tgt := 62) C dL_why_44 (by decide) (fun h44 => ?_) (fun h44 => ?_)
  · refine x_iconst (pc := 62) C (-1) dL_why_62 (by decide) ?_
    refine y_istore (pc := 63) C dL_why_63 (by decide) rfl ?_
    refine x_iload (pc := 65) C dL_why_65 rfl ?_
    refine x_iconst (pc := 67) C (2) dL_why_67 (by decide) ?_
    refine x_icmp_ne (pc := 68) (tgt := 84) C dL_why_68 (by decide) (fun h68 => ?_) (fun h68 => absurd h68 (by exact h44))
    exact J84 _ (fun z => absurd z h44)
  · have hon := ho h44
    refine x_aload_n (pc := 47) C dL_why_47 rfl ?_
    refine x_iload (pc := 48) C dL_why_48 rfl ?_
    refine x_bipush (pc := 50) C (7) dL_why_50 (by decide) ?_
    refine x_iadd (pc := 52) C dL_why_52 ?_
    refine x_topi (nI (9 * n + 7)) (nI_add (9 * n) (7)) ?_
    refine x_iald (pc := 53) (o := 213) C dL_why_53 (hI 213 rfl) ⟨rfl, rfl⟩ (show _ < 63 by omega) (by decide) ?_
    refine x_topi (GF V 7 n) (rfl) ?_
    refine x_aload_n (pc := 54) C dL_why_54 rfl ?_
    refine x_aload_n (pc := 55) C dL_why_55 rfl ?_
    refine x_gS3 (pc := 56) C [] (fun _ h => nomatch h) s_L_8 dL_why_56 (c_L_byId hI hn hn6 _) (by decide) rfl ⟨Nat.le_refl _, Nat.le_refl _⟩ ?_
    refine x_topi (nI o) (by rw [hk h44]; rfl) ?_
    refine x_goto (pc := 59) (tgt := 63) C dL_why_59 (by decide) ?_
    refine y_istore (pc := 63) C dL_why_63 (by decide) rfl ?_
    refine x_iload (pc := 65) C dL_why_65 rfl ?_
    refine x_iconst (pc := 67) C (2) dL_why_67 (by decide) ?_
    refine x_icmp_ne (pc := 68) (tgt := 84) C dL_why_68 (by decide) (fun h68 => absurd (by exact h44) h68) (fun h68 => ?_)
    refine x_aload_n (pc := 71) C dL_why_71 rfl ?_
    refine x_bipush (pc := 72) C (9) dL_why_72 (by decide) ?_
    refine x_iload (pc := 74) C dL_why_74 rfl ?_
    refine x_imul (pc := 76) C dL_why_76 ?_
    refine x_topi (nI (9 * o)) (pk_mul (9) (o)) ?_
    refine x_iald (pc := 77) (o := 213) C dL_why_77 (hI 213 rfl) ⟨rfl, rfl⟩ (show _ < 63 by omega) (by decide) ?_
    refine x_topi (GF V 0 o) (rfl) ?_
    refine x_iconst (pc := 78) C (2) dL_why_78 (by decide) ?_
    refine x_icmp_ne (pc := 79) (tgt := 84) C dL_why_79 (by decide) (fun h79 => ?_) (fun h79 => ?_)
    · exact J84 _ (fun _ => ⟨rfl, h79⟩)
    · refine x_iconst (pc := 82) C (2) dL_why_82 (by decide) ?_
      exact x_iret (pc := 83) C hQ dL_why_83 (is_i (by rw [refR, if_neg (show ¬ n = 24 by omega), if_pos ⟨h68, h79⟩])) (Nat.le_of_ble_eq_true rfl) (Nat.le_of_ble_eq_true rfl)
