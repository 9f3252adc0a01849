set_option maxRecDepth 100000 in
set_option maxHeartbeats 4000000 in
theorem c_L_ahead {l : Launch} {V : VV} {L : LL} {N : NN} {I : List Nat} (hI : PI I) (hx : ∀ i, 218 ≤ i → i ∉ I) {n T : Nat} (hP : PR V n) (ht : Tie V n T) (x y : Int32) : Runs l 7 210 5500 yL_ahead (Cond.code yL_ahead cL_ahead 20 (some .boolean)) [aR 0, aI x, aI y, aR 210, aR 211, aR 212, aR 213] V L N I (Pm (some (aI 1)) (fun V1 => ∀ i j, ¬ (5 ≤ i ∧ i ≤ 19) → ¬ (i = 213 ∧ (9 * n ≤ j ∨ j = 9 * n)) → V1 i j = V i j) L N I) := by
  refine run_of RL (by decide +kernel) rfl (Nat.le_of_ble_eq_true rfl) (fun E hE C hQ hN => ?_)
  subst hE
  have hn6 := ht.n6
  have hsb : ∀ s, s < n → ShB (RF V) s := hP.2.2.2.2.1
  have hgb := rw_gb hP.2
  have hPI := hI
  have hE : ¬ eI E 218 := by rw [hQ.2]; exact fun q => q.elim (fun e => absurd e (by decide)) (fun e => hx 218 (by omega) e)
  have h218 : 218 ∉ I := hx 218 (by omega)
  obtain ⟨gg, hgg, egg⟩ := at_n x (n := 6) (by decide) (by decide)
  obtain ⟨dd, hdd, edd⟩ := at_n (x >>> ((3 : Int32) &&& 31)) (n := 7) (by decide) (by decide)
  obtain ⟨l1, hl1, el1⟩ := at_n y (n := 120) (by decide) (by decide)
  obtain ⟨ss, hss, ess⟩ := at_n (y >>> ((7 : Int32) &&& 31)) (n := 1440) (by decide) (by decide)
  have tS : (nI ss).toInt = ss := t_nat (by omega)
  have tL : (nI (5 + l1)).toInt = ((5 + l1 : Nat) : Int) := t_nat (by omega)
  have tD : (nI dd).toInt = dd := t_nat (by omega)
  have tG : (nI gg).toInt = gg := t_nat (by omega)
  have hr : ∀ st : Nat, st < 1440 → rightB (nI gg) (nI dd) (nI st) (nI (5 + l1)) 0 = true := fun st hst => by
    have tS : (nI st).toInt = st := t_nat (by omega)
    unfold rightB
    rw [win_t.mpr (show _ ≤ (nI gg).toInt ∧ _ by rw [tG]; have e1 : (0 : Int32).toInt = 0 := rfl; have e2 : (5 : Int32).toInt = 5 := rfl; omega), win_t.mpr (show _ ≤ (nI dd).toInt ∧ _ by rw [tD]; have e1 : (0 : Int32).toInt = 0 := rfl; have e2 : (6 : Int32).toInt = 6 := rfl; omega), win_t.mpr (show _ ≤ (nI st).toInt ∧ _ by rw [tS]; have e1 : (0 : Int32).toInt = 0 := rfl; have e2 : (1439 : Int32).toInt = 1439 := rfl; omega), win_t.mpr (show _ ≤ (nI (5 + l1)).toInt ∧ _ by rw [tL]; have e1 : (5 : Int32).toInt = 5 := rfl; have e2 : (240 : Int32).toInt = 240 := rfl; omega), decide_eq_true (show (0 : Int32) ≤ nI (5 + l1) by rw [t_le, tL, t_0]; omega)]
    rfl
  have J306 : ∀ (Va : VV) (s : Nat), Su n (9 * n) V Va → s < n → Wx E 306 [some (aR 0), some (aI x), some (aI y), some (aR 210), some (aR 211), some (aR 212), some (aR 213), some (aI (nI (gg))), some (aI (nI (dd))), some (aI (nI (5 + l1))), some (aI (nI (ss))), none, some (aI (nI (s))), none, none, none, none, none, none, none] [] Va L N I 3 18 := by
    intro Va s hs hsn
    obtain ⟨ds, hds, eds⟩ : ∃ d, d < 7 ∧ RF V 2 s = nI d := rw_d hP.2 hsn
    have hG0 : ∀ c, c < 9 → GF Va c s = GF V c s := fun c hc => hs 213 (9 * s + c) (by decide) (by decide) (by omega)
    have hw6 : GF Va 6 s = RF V 6 s := (hG0 6 (by decide)).trans (ht.f hsn (by decide))
    refine x_aload (pc := 306) C dL_ahead_306 rfl ?_
    refine x_bipush (pc := 308) C (9) dL_ahead_308 (by decide) ?_
    refine x_iload (pc := 310) C dL_ahead_310 rfl ?_
    refine x_imul (pc := 312) C dL_ahead_312 ?_
    refine x_topi (nI (9 * s)) (pk_mul (9) (s)) ?_
    refine x_iald (pc := 313) (o := 213) C dL_ahead_313 (hI 213 rfl) ⟨rfl, rfl⟩ (show _ < 63 by omega) (by decide) ?_
    refine x_topi (RF V 0 s) ((hG0 0 (by decide)).trans (ht.f hsn (by decide))) ?_
    refine x_if_eq (pc := 314) (tgt := 319) C dL_ahead_314 (by decide) (fun h314 => ?_) (fun h314 => ?_)
    · have h0 : RF V 0 s = 0 := h314
      have J565 : ∀ (Vz : VV), Su n (9 * s + 6) V Vz → ∀ w16 : Int32, Wx E 565 [some (aR 0), some (aI x), some (aI y), some (aR 210), some (aR 211), some (aR 212), some (aR 213), some (aI (nI (gg))), some (aI (nI (dd))), some (aI (nI (5 + l1))), some (aI (nI (ss))), none, some (aI (nI (s))), none, some (aI (RF V 6 s)), some (aI (mosS V n s 181)), some (aI w16), none, none, none] [] Vz L N I 201 5360 := by
        intro Vz hz w16
        refine x_aload (pc := 565) C dL_ahead_565 rfl ?_
        refine x_bipush (pc := 567) C (9) dL_ahead_567 (by decide) ?_
        refine x_iload (pc := 569) C dL_ahead_569 rfl ?_
        refine x_imul (pc := 571) C dL_ahead_571 ?_
        refine x_topi (nI (9 * s)) (pk_mul (9) (s)) ?_
        refine x_bipush (pc := 572) C (6) dL_ahead_572 (by decide) ?_
        refine x_iadd (pc := 574) C dL_ahead_574 ?_
        refine x_topi (nI (9 * s + 6)) (nI_add (9 * s) (6)) ?_
        refine x_iload (pc := 575) C dL_ahead_575 rfl ?_
        refine x_iast (pc := 577) (o := 213) C dL_ahead_577 (hI 213 rfl) ⟨rfl, rfl⟩ (show _ < 63 by omega) (by decide) ?_
        have hz2 : Su n (9 * n) V (up Vz 213 (9 * s + 6) (RF V 6 s)) := fun i j a b c => by
          by_cases e : i = 213 ∧ j = 9 * s + 6
          · rw [e.1, e.2, up_ss]; exact (ht.f hsn (by decide)).symm
          · exact if e1 : i = 213 then (by unfold up; rw [if_pos e1, if_neg (fun z => e ⟨e1, z⟩)]; exact hz i j a b (by omega)) else (by unfold up; rw [if_neg e1]; exact hz i j a b (by omega))
        refine x_aload_n (pc := 578) C dL_ahead_578 rfl ?_
        refine x_iload (pc := 579) C dL_ahead_579 rfl ?_
        refine x_aV1 (pc := 581) (o := 0) C [] (fun _ h => nomatch h) v_L_96 dL_ahead_581 (k_greatest hI (hP.su hz2) hsn (by rw [RF_z hz2.z]; exact h0)) (hI 0 rfl) rfl (by decide) rfl ⟨by omega, by omega⟩ (fun Mz qz => ?_)
        have hq2 := hz2.sq qz
        refine x_topi (mosS V n s 181) (mosS_sm hz2.z) ?_
        refine x_iload (pc := 584) C dL_ahead_584 rfl ?_
        refine x_icmp_ne (pc := 586) (tgt := 593) C dL_ahead_586 (by decide) (fun h586 => absurd (by rfl) h586) (fun h586 => ?_)
        refine x_iconst (pc := 589) C (1) dL_ahead_589 (by decide) ?_
        refine x_goto (pc := 590) (tgt := 594) C dL_ahead_590 (by decide) ?_
        refine x_vcg (V' := fun i j => if 218 ≤ i ∧ i ≤ 221 then V i j else Mz i j) (fun i hi => funext fun j => by rw [if_neg (fun z => hx i z.1 hi)]) ?_
        exact x_zret (pc := 594) C hQ dL_ahead_594 (by decide) (pm_i rfl (fun i j a c => if e : 218 ≤ i ∧ i ≤ 221 then (by rw [if_pos e]) else (by rw [if_neg e]; exact hq2 i j a e c))) (Nat.le_of_ble_eq_true rfl) (Nat.le_of_ble_eq_true rfl)
      obtain ⟨b1, hb1, eb1⟩ := at_n (x >>> ((9 : Int32) &&& 31)) (n := 181) (by decide) (by decide)
      have tb1 := by_t (k := b1) (by omega)
      have J481 : ∀ (Vz : VV), Su n (9 * s + 6) V Vz → ∀ w16 : Int32, Wx E 481 [some (aR 0), some (aI x), some (aI y), some (aR 210), some (aR 211), some (aR 212), some (aR 213), some (aI (nI (gg))), some (aI (nI (dd))), some (aI (nI (5 + l1))), some (aI (nI (ss))), none, some (aI (nI (s))), none, some (aI (RF V 6 s)), some (aI (mosS V n s 181)), some (aI w16), none, none, none] [] Vz L N I 184 5086 := by
        intro Vz hz w16
        have hz1 : Su n (9 * s + 6) V (up Vz 213 (9 * s + 6) (nI b1 - 60)) := fun i j a b c => by
          exact if e1 : i = 213 then (by unfold up; rw [if_pos e1, if_neg (fun z => c ⟨e1, Or.inr z⟩)]; exact hz i j a b c) else (by unfold up; rw [if_neg e1]; exact hz i j a b c)
        refine x_aload (pc := 481) C dL_ahead_481 rfl ?_
        refine x_bipush (pc := 483) C (9) dL_ahead_483 (by decide) ?_
        refine x_iload (pc := 485) C dL_ahead_485 rfl ?_
        refine x_imul (pc := 487) C dL_ahead_487 ?_
        refine x_topi (nI (9 * s)) (pk_mul (9) (s)) ?_
        refine x_bipush (pc := 488) C (6) dL_ahead_488 (by decide) ?_
        refine x_iadd (pc := 490) C dL_ahead_490 ?_
        refine x_topi (nI (9 * s + 6)) (nI_add (9 * s) (6)) ?_
        refine x_iload_n (pc := 491) C dL_ahead_491 rfl ?_
        refine x_bipush (pc := 492) C (9) dL_ahead_492 (by decide) ?_
        refine x_ishr (pc := 494) C dL_ahead_494 ?_
        refine x_sipush (pc := 495) C (181) dL_ahead_495 (by decide) ?_
        refine x_gS2 (pc := 498) C [] (fun _ h => nomatch h) s_L_47 dL_ahead_498 (c_L_at _ 181 (by decide)) (by decide) rfl ⟨by omega, by omega⟩ ?_
        refine x_topi (nI b1) eb1 ?_
        refine x_bipush (pc := 501) C (60) dL_ahead_501 (by decide) ?_
        refine x_isub (pc := 503) C dL_ahead_503 ?_
        refine x_iast (pc := 504) (o := 213) C dL_ahead_504 (hI 213 rfl) ⟨rfl, rfl⟩ (show _ < 63 by omega) (by decide) ?_
        refine x_iconst (pc := 505) C (0) dL_ahead_505 (by decide) ?_
        refine y_istore (pc := 506) C dL_ahead_506 (by decide) rfl ?_
        suffices keyk : ∀ (k w : Nat) (Vy : VV), k + w = 8 → (Su n (9 * s + 6) V Vy ∧ Vy 213 (9 * s + 6) = nI b1 - 60) → Wx E 508 [some (aR 0), some (aI x), some (aI y), some (aR 210), some (aR 211), some (aR 212), some (aR 213), some (aI (nI (gg))), some (aI (nI (dd))), some (aI (nI (5 + l1))), some (aI (nI (ss))), none, some (aI (nI (s))), none, some (aI (RF V 6 s)), some (aI (mosS V n s 181)), some (aI (nI (w))), none, none, none] [] Vy L N I (184 + 2 * w) (5086 + 34 * w) by
          exact keyk (8) (0) _ (by omega) (⟨hz1, up_ss⟩)
        intro k
        induction k with
        | zero =>
          intro w Vy hk hinv
          have hy0 := hinv.1
          have h66 := hinv.2
          have h62 : Vy 213 (9 * s + 2) = nI ds := (hy0 213 (9 * s + 2) (by decide) (by decide) (by omega)).trans ((ht.f hsn (by decide)).trans eds)
          refine x_iload (pc := 508) C dL_ahead_508 rfl ?_
          refine x_bipush (pc := 510) C (8) dL_ahead_510 (by decide) ?_
          refine x_icmp_ge (pc := 512) (tgt := 565) C dL_ahead_512 (by decide) (fun h512 => ?_) (fun h512 => absurd (by exact nI_le (a := 8) (b := w) (by omega) (by omega)) h512)
          refine x_wid (a' := 201) (b' := 5360) (by omega) (by omega) ?_
          exact J565 _ hinv.1 _
        | succ k ih =>
          intro w Vy hk hinv
          have hy0 := hinv.1
          have h66 := hinv.2
          have h62 : Vy 213 (9 * s + 2) = nI ds := (hy0 213 (9 * s + 2) (by decide) (by decide) (by omega)).trans ((ht.f hsn (by decide)).trans eds)
          refine x_iload (pc := 508) C dL_ahead_508 rfl ?_
          refine x_bipush (pc := 510) C (8) dL_ahead_510 (by decide) ?_
          refine x_icmp_ge (pc := 512) (tgt := 565) C dL_ahead_512 (by decide) (fun h512 => absurd h512 (by exact nI_ge (a := w) (b := 8) (by omega) (by omega))) (fun h512 => ?_)
          refine x_aload_n (pc := 515) C dL_ahead_515 rfl ?_
          refine x_iload (pc := 516) C dL_ahead_516 rfl ?_
          refine x_aload (pc := 518) C dL_ahead_518 rfl ?_
          refine x_bipush (pc := 520) C (9) dL_ahead_520 (by decide) ?_
          refine x_iload (pc := 522) C dL_ahead_522 rfl ?_
          refine x_imul (pc := 524) C dL_ahead_524 ?_
          refine x_topi (nI (9 * s)) (pk_mul (9) (s)) ?_
          refine x_bipush (pc := 525) C (6) dL_ahead_525 (by decide) ?_
          refine x_iadd (pc := 527) C dL_ahead_527 ?_
          refine x_topi (nI (9 * s + 6)) (nI_add (9 * s) (6)) ?_
          refine x_iald (pc := 528) (o := 213) C dL_ahead_528 (hI 213 rfl) ⟨rfl, rfl⟩ (show _ < 63 by omega) (by decide) ?_
          refine x_topi (nI b1 - 60) (h66) ?_
          refine x_iload (pc := 529) C dL_ahead_529 rfl ?_
          refine x_aV3 (pc := 531) (o := 0) C [] (fun _ h => nomatch h) v_L_93 dL_ahead_531 (by have := k_ifOverrun (l := eL E) (L := L) (N := N) hI (hP.su (q0 := 9 * s + 6) hy0) (s := s) (d := ds) (w := w) (b0 := nI b1 - 60) hsn (by rw [RF_z hy0.z]; exact h0) hds (by rw [RF_z hy0.z]; exact eds) (by rw [tb1]; omega) (by omega); rwa [dN_sm (ov_z hy0.z)] at this) (hI 0 rfl) rfl (by decide) rfl ⟨by omega, by omega⟩ (fun My qy => ?_)
          have hy := hy0.sq qy
          have h62y : My 213 (9 * s + 2) = nI ds := (congrFun (qy 213 (by decide)) _).trans h62
          have h66y : My 213 (9 * s + 6) = nI b1 - 60 := (congrFun (qy 213 (by decide)) _).trans h66
          refine x_aload (pc := 534) C dL_ahead_534 rfl ?_
          refine x_bipush (pc := 536) C (9) dL_ahead_536 (by decide) ?_
          refine x_iload (pc := 538) C dL_ahead_538 rfl ?_
          refine x_imul (pc := 540) C dL_ahead_540 ?_
          refine x_topi (nI (9 * s)) (pk_mul (9) (s)) ?_
          refine x_iconst (pc := 541) C (2) dL_ahead_541 (by decide) ?_
          refine x_iadd (pc := 542) C dL_ahead_542 ?_
          refine x_topi (nI (9 * s + 2)) (nI_add (9 * s) (2)) ?_
          refine x_iald (pc := 543) (o := 213) C dL_ahead_543 (hI 213 rfl) ⟨rfl, rfl⟩ (show _ < 63 by omega) (by decide) ?_
          refine x_topi (nI ds) (h62y) ?_
          refine x_iload (pc := 544) C dL_ahead_544 rfl ?_
          refine x_aload_n (pc := 546) C dL_ahead_546 rfl ?_
          refine x_aload (pc := 547) C dL_ahead_547 rfl ?_
          refine x_aload (pc := 549) C dL_ahead_549 rfl ?_
          refine x_gS5 (pc := 551) C [] (fun _ h => nomatch h) s_L_38 dL_ahead_551 (tl_dayX hI h218 (U := ovR V s (nI b1 - 60)) (ov_fa ht hsn hy h66y) (ov_ge ht hy) (hy.d1 ht) hn6 (ov_b hsb (by rw [tb1]; omega)) (gb_cg (fun k hk => ov_g (by omega)) hgb) (by omega)) (by decide) rfl ⟨by omega, by omega⟩ ?_
          refine x_icmp_eq (pc := 554) (tgt := 559) C dL_ahead_554 (by decide) (fun h554 => ?_) (fun h554 => absurd (by rfl) h554)
          refine y_iinc (pc := 559) C (nI (w + 1)) dL_ahead_559 rfl (by exact nI_1 w) (by decide) rfl ?_
          refine x_goto (pc := 562) (tgt := 508) C dL_ahead_562 (by decide) ?_
          refine x_wid (a' := 184 + 2 * (w + 1)) (b' := 5086 + 34 * (w + 1)) (by omega) (by omega) ?_
          exact ih (w + 1) _ (by omega) ⟨hy, h66y⟩
      have hs0 : Su n (9 * s + 6) V Va := fun i j a b c => by
        by_cases e : i = 213 ∧ 9 * n ≤ j
        · exact absurd ⟨e.1, Or.inl e.2⟩ c
        · exact hs i j a b (by omega)
      refine x_aload (pc := 319) C dL_ahead_319 rfl ?_
      refine x_bipush (pc := 321) C (9) dL_ahead_321 (by decide) ?_
      refine x_iload (pc := 323) C dL_ahead_323 rfl ?_
      refine x_imul (pc := 325) C dL_ahead_325 ?_
      refine x_topi (nI (9 * s)) (pk_mul (9) (s)) ?_
      refine x_bipush (pc := 326) C (6) dL_ahead_326 (by decide) ?_
      refine x_iadd (pc := 328) C dL_ahead_328 ?_
      refine x_topi (nI (9 * s + 6)) (nI_add (9 * s) (6)) ?_
      refine x_iald (pc := 329) (o := 213) C dL_ahead_329 (hI 213 rfl) ⟨rfl, rfl⟩ (show _ < 63 by omega) (by decide) ?_
      refine x_topi (RF V 6 s) ((hG0 6 (by decide)).trans (ht.f hsn (by decide))) ?_
      refine y_istore (pc := 330) C dL_ahead_330 (by decide) rfl ?_
      refine x_bipush (pc := 332) C (-101) dL_ahead_332 (by decide) ?_
      refine y_istore (pc := 334) C dL_ahead_334 (by decide) rfl ?_
      refine x_bipush (pc := 336) C (-60) dL_ahead_336 (by decide) ?_
      refine y_istore (pc := 338) C dL_ahead_338 (by decide) rfl ?_
      suffices keyk : ∀ (k q : Nat) (Vy : VV) (mo : Int32), k + q = 181 → (Su n (9 * s + 6) V Vy ∧ mo = mosS V n s q) → Wx E 340 [some (aR 0), some (aI x), some (aI y), some (aR 210), some (aR 211), some (aR 212), some (aR 213), some (aI (nI (gg))), some (aI (nI (dd))), some (aI (nI (5 + l1))), some (aI (nI (ss))), none, some (aI (nI (s))), none, some (aI (RF V 6 s)), some (aI mo), some (aI (nI q - 60)), none, none, none] [] Vy L N I (3 + q) (18 + 28 * q) by
        exact keyk (181) (0) _ _ (by omega) (⟨hs0, rfl⟩)
      intro k
      induction k with
      | zero =>
        intro q Vy mo hk hinv
        refine x_iload (pc := 340) C dL_ahead_340 rfl ?_
        refine x_bipush (pc := 342) C (121) dL_ahead_342 (by decide) ?_
        refine x_icmp_ge (pc := 344) (tgt := 481) C dL_ahead_344 (by decide) (fun h344 => ?_) (fun h344 => absurd (by rw [t_le, by_t (by omega)]; have e1 : (121 : Int32).toInt = 121 := rfl; omega) h344)
        obtain rfl : q = 181 := by omega
        refine x_fgt 17 ?_
        refine x_wid (a' := 184) (b' := 5086) (by omega) (by omega) ?_
        rw [hinv.2]
        exact J481 _ hinv.1 _
      | succ k ih =>
        intro q Vy mo hk hinv
        refine x_iload (pc := 340) C dL_ahead_340 rfl ?_
        refine x_bipush (pc := 342) C (121) dL_ahead_342 (by decide) ?_
        refine x_icmp_ge (pc := 344) (tgt := 481) C dL_ahead_344 (by decide) (fun h344 => absurd h344 (by rw [t_le, by_t (by omega)]; have e1 : (121 : Int32).toInt = 121 := rfl; omega)) (fun h344 => ?_)
        refine x_bipush (pc := 347) C (28) dL_ahead_347 (by decide) ?_
        refine x_topi (nI 28) (by decide) ?_
        refine x_newA (pc := 349) C 218 (Or.inl rfl) rfl h218 [] (fun _ h => nomatch h) dL_ahead_349 rfl ⟨by omega, by omega⟩ ?_
        have hI : PI (I ++ [218]) := fun i h => List.mem_append_left _ (hPI i h)
        have h218i : 218 ∈ I ++ [218] := List.mem_append_right _ List.mem_cons_self
        have hJ : ∀ j, j ∈ [218] → j ∈ I ++ [218] := fun j h => List.mem_append_right _ h
        refine y_astore (pc := 351) C dL_ahead_351 (by decide) rfl ?_
        refine x_aload (pc := 353) C dL_ahead_353 rfl ?_
        refine x_bipush (pc := 355) C (9) dL_ahead_355 (by decide) ?_
        refine x_iload (pc := 357) C dL_ahead_357 rfl ?_
        refine x_imul (pc := 359) C dL_ahead_359 ?_
        refine x_topi (nI (9 * s)) (pk_mul (9) (s)) ?_
        refine x_bipush (pc := 360) C (6) dL_ahead_360 (by decide) ?_
        refine x_iadd (pc := 362) C dL_ahead_362 ?_
        refine x_topi (nI (9 * s + 6)) (nI_add (9 * s) (6)) ?_
        refine x_iload (pc := 363) C dL_ahead_363 rfl ?_
        refine x_iast (pc := 365) (o := 213) C dL_ahead_365 (hI 213 rfl) ⟨rfl, rfl⟩ (show _ < 63 by omega) (by decide) ?_
        obtain ⟨Vu, eVu⟩ : ∃ Vu, Vu = up (upR Vy 218) 213 (9 * s + 6) (nI q - 60) := ⟨_, rfl⟩
        rw [← eVu]
        have hu : Su n (9 * s + 6) V Vu := fun i j a b c => by
          exact if e1 : i = 213 then (by rw [eVu]; unfold up upR; rw [if_pos e1, if_neg (fun z => c ⟨e1, Or.inr z⟩), if_neg (by omega)]; exact hinv.1 i j a b c) else (by rw [eVu]; unfold up upR; rw [if_neg e1, if_neg (by omega)]; exact hinv.1 i j a b c)
        have hu6 : Vu 213 (9 * s + 6) = nI q - 60 := by rw [eVu, up_ss]
        clear eVu
        have huF := ov_fa ht hsn hu hu6
        have huG : GEq (Vu 210) ((ovR V s (nI q - 60)) 201) := ov_ge ht hu
        have tq := by_t (k := q) (by omega)
        have hub := shB_fg huF (ov_b hsb (by rw [tq]; omega))
        refine x_aload (pc := 366) C dL_ahead_366 rfl ?_
        refine x_bipush (pc := 368) C (9) dL_ahead_368 (by decide) ?_
        refine x_iload (pc := 370) C dL_ahead_370 rfl ?_
        refine x_imul (pc := 372) C dL_ahead_372 ?_
        refine x_topi (nI (9 * s)) (pk_mul (9) (s)) ?_
        refine x_iconst (pc := 373) C (2) dL_ahead_373 (by decide) ?_
        refine x_iadd (pc := 374) C dL_ahead_374 ?_
        refine x_topi (nI (9 * s + 2)) (nI_add (9 * s) (2)) ?_
        refine x_iald (pc := 375) (o := 213) C dL_ahead_375 (hI 213 rfl) ⟨rfl, rfl⟩ (show _ < 63 by omega) (by decide) ?_
        refine x_topi (RF V 2 s) ((hu 213 (9 * s + 2) (by decide) (by decide) (by omega)).trans (ht.f hsn (by decide))) ?_
        refine x_aload_n (pc := 376) C dL_ahead_376 rfl ?_
        refine x_aload (pc := 377) C dL_ahead_377 rfl ?_
        refine x_aload (pc := 379) C dL_ahead_379 rfl ?_
        refine x_aload (pc := 381) C dL_ahead_381 rfl ?_
        refine x_gS5 (pc := 383) C [218] hJ s_L_30 dL_ahead_383 (c_L_clock (V := Vu) hI h218i (hu.d1 ht) hn6 hub (RF V 2 s)) (by decide) rfl ⟨by omega, by omega⟩ ?_
        obtain ⟨Vw, eVw⟩ : ∃ Vw, Vw = ckW 218 Vu (RF V 2 s) n := ⟨_, rfl⟩
        rw [← eVw]
        have hv2 : Su n (9 * s + 6) V Vw := fun i j a b c => by rw [eVw, ckW_no (by omega)]; exact hu i j a b c
        have hv213 : ∀ j, j < 9 * n → j ≠ 9 * s + 6 → Vw 213 j = V 213 j := fun j a b => hv2 213 j (by decide) (by decide) (by omega)
        have hA : ∀ t, t < n → RF V 2 t = RF V 2 s → ∀ k, k < 4 → Vw 218 (4 * t + k) = airR (RF (ovR V s (nI q - 60))) ((ovR V s (nI q - 60)) 201) k t := fun t a b k c => by
          rw [eVw]
          have := ckW_at (o := 218) (V := Vu) (n := n) (d := RF V 2 s) (k := k) (s := t) a (by rw [huF 2 (by decide) t a, show RF (ovR V s (nI q - 60)) 2 t = RF V 2 t from RF_ov (by decide) (by omega)]; exact b) c
          rw [air_cg huF huG a] at this
          exact this
        clear eVw
        refine x_pop (pc := 386) C dL_ahead_386 rfl ?_
        refine x_iconst (pc := 387) C (0) dL_ahead_387 (by decide) ?_
        refine y_istore (pc := 388) C dL_ahead_388 (by decide) rfl ?_
        refine x_iconst (pc := 390) C (0) dL_ahead_390 (by decide) ?_
        refine y_istore (pc := 391) C dL_ahead_391 (by decide) rfl ?_
        suffices keyk2 : ∀ (k2 i : Nat) (lo : Int32), k2 + i = n → (lo = sumTo (fun i => if i ≠ s ∧ RF V 2 i = RF V 2 s ∧ airR (RF (ovR V s (nI q - 60))) ((ovR V s (nI q - 60)) 201) 3 i = 2 then 1 else 0) i) → Wx E 393 [some (aR 0), some (aI x), some (aI y), some (aR 210), some (aR 211), some (aR 212), some (aR 213), some (aI (nI (gg))), some (aI (nI (dd))), some (aI (nI (5 + l1))), some (aI (nI (ss))), none, some (aI (nI (s))), none, some (aI (RF V 6 s)), some (aI mo), some (aI (nI q - 60)), some (aR 218), some (aI lo), some (aI (nI (i)))] [] Vw L N (I ++ [218]) (3 + q + 1) (18 + 28 * q + 28) by
          exact keyk2 (n) (0) 0 (by omega) (rfl)
        intro k2
        induction k2 with
        | zero =>
          intro i lo hk2 hinv2
          refine x_iload (pc := 393) C dL_ahead_393 rfl ?_
          refine x_aload (pc := 395) C dL_ahead_395 rfl ?_
          refine x_iconst (pc := 397) C (1) dL_ahead_397 (by decide) ?_
          refine x_topi (nI 1) (by decide) ?_
          refine x_iald (pc := 398) (o := 212) C dL_ahead_398 (hI 212 rfl) ⟨rfl, rfl⟩ (show _ < 3 by decide) (by decide) ?_
          refine x_topi (nI n) (hv2.d1 ht) ?_
          refine x_icmp_ge (pc := 399) (tgt := 461) C dL_ahead_399 (by decide) (fun h399 => ?_) (fun h399 => absurd (by exact nI_le (by omega) (by omega)) h399)
          obtain rfl : i = n := by omega
          have hl0 := lost_0 (U := ovR V s (nI q - 60)) (x := lo) hsn (by omega) (by rw [hinv2]; exact sumTo_congr fun t _ => by rw [show RF (ovR V s (nI q - 60)) 2 t = RF V 2 t from RF_ov (by decide) (by omega), show RF (ovR V s (nI q - 60)) 2 s = RF V 2 s from RF_ov (by decide) (by omega)])
          rw [show RF (ovR V s (nI q - 60)) 2 s = RF V 2 s from RF_ov (by decide) (by omega), ← by_61 q] at hl0
          refine x_iload (pc := 461) C dL_ahead_461 rfl ?_
          refine x_if_ne (pc := 463) (tgt := 471) C dL_ahead_463 (by decide) (fun h463 => ?_) (fun h463 => ?_)
          · refine x_iload (pc := 471) C dL_ahead_471 rfl ?_
            refine y_istore (pc := 473) C dL_ahead_473 (by decide) rfl ?_
            refine y_iinc (pc := 475) C (nI (q + 1) - 60) dL_ahead_475 rfl (by rw [nI_succ, Int32.sub_eq_add_neg, Int32.sub_eq_add_neg, Int32.add_assoc, Int32.add_assoc]; rfl) (by decide) rfl ?_
            refine x_goto (pc := 478) (tgt := 340) C dL_ahead_478 (by decide) ?_
            refine x_fgt 17 ?_
            refine x_fgt 18 ?_
            refine x_fgt 19 ?_
            refine x_drop (x := 218) hE ?_
            refine x_wid (a' := 3 + (q + 1)) (b' := 18 + 28 * (q + 1)) (by omega) (by omega) ?_
            exact ih (q + 1) _ _ (by omega) ⟨hv2, by rw [hinv.2, mosS, if_neg (fun z => h463 (hl0.mpr z))]⟩
          · refine x_iload (pc := 466) C dL_ahead_466 rfl ?_
            refine x_goto (pc := 468) (tgt := 473) C dL_ahead_468 (by decide) ?_
            refine y_istore (pc := 473) C dL_ahead_473 (by decide) rfl ?_
            refine y_iinc (pc := 475) C (nI (q + 1) - 60) dL_ahead_475 rfl (by rw [nI_succ, Int32.sub_eq_add_neg, Int32.sub_eq_add_neg, Int32.add_assoc, Int32.add_assoc]; rfl) (by decide) rfl ?_
            refine x_goto (pc := 478) (tgt := 340) C dL_ahead_478 (by decide) ?_
            refine x_fgt 17 ?_
            refine x_fgt 18 ?_
            refine x_fgt 19 ?_
            refine x_drop (x := 218) hE ?_
            refine x_wid (a' := 3 + (q + 1)) (b' := 18 + 28 * (q + 1)) (by omega) (by omega) ?_
            exact ih (q + 1) _ _ (by omega) ⟨hv2, by rw [mosS, if_pos (hl0.mp h463), by_61]⟩
        | succ k2 ih2 =>
          intro i lo hk2 hinv2
          refine x_iload (pc := 393) C dL_ahead_393 rfl ?_
          refine x_aload (pc := 395) C dL_ahead_395 rfl ?_
          refine x_iconst (pc := 397) C (1) dL_ahead_397 (by decide) ?_
          refine x_topi (nI 1) (by decide) ?_
          refine x_iald (pc := 398) (o := 212) C dL_ahead_398 (hI 212 rfl) ⟨rfl, rfl⟩ (show _ < 3 by decide) (by decide) ?_
          refine x_topi (nI n) (hv2.d1 ht) ?_
          refine x_icmp_ge (pc := 399) (tgt := 461) C dL_ahead_399 (by decide) (fun h399 => absurd h399 (by exact nI_ge (by omega) (by omega))) (fun h399 => ?_)
          refine x_iload (pc := 402) C dL_ahead_402 rfl ?_
          refine x_iload (pc := 404) C dL_ahead_404 rfl ?_
          refine x_iload (pc := 406) C dL_ahead_406 rfl ?_
          refine x_icmp_eq (pc := 408) (tgt := 451) C dL_ahead_408 (by decide) (fun h408 => ?_) (fun h408 => ?_)
          · have e408 : i = s := (nI_eq (by omega) (by omega)).mp h408
            refine x_iconst (pc := 451) C (0) dL_ahead_451 (by decide) ?_
            refine x_iadd (pc := 452) C dL_ahead_452 ?_
            refine y_istore (pc := 453) C dL_ahead_453 (by decide) rfl ?_
            refine y_iinc (pc := 455) C (nI (i + 1)) dL_ahead_455 rfl (by exact nI_1 i) (by decide) rfl ?_
            refine x_goto (pc := 458) (tgt := 393) C dL_ahead_458 (by decide) ?_
            exact ih2 (i + 1) _ (by omega) (by rw [hinv2, Int32.add_zero, sumTo, if_neg (fun z => z.1 e408), Int32.add_zero])
          · have e408 : i ≠ s := fun z => h408 (by rw [z])
            refine x_aload (pc := 411) C dL_ahead_411 rfl ?_
            refine x_bipush (pc := 413) C (9) dL_ahead_413 (by decide) ?_
            refine x_iload (pc := 415) C dL_ahead_415 rfl ?_
            refine x_imul (pc := 417) C dL_ahead_417 ?_
            refine x_topi (nI (9 * i)) (pk_mul (9) (i)) ?_
            refine x_iconst (pc := 418) C (2) dL_ahead_418 (by decide) ?_
            refine x_iadd (pc := 419) C dL_ahead_419 ?_
            refine x_topi (nI (9 * i + 2)) (nI_add (9 * i) (2)) ?_
            refine x_iald (pc := 420) (o := 213) C dL_ahead_420 (hI 213 rfl) ⟨rfl, rfl⟩ (show _ < 63 by omega) (by decide) ?_
            refine x_topi (RF V 2 i) ((hv213 (9 * i + 2) (by omega) (by omega)).trans (ht.f (by omega) (by decide))) ?_
            refine x_aload (pc := 421) C dL_ahead_421 rfl ?_
            refine x_bipush (pc := 423) C (9) dL_ahead_423 (by decide) ?_
            refine x_iload (pc := 425) C dL_ahead_425 rfl ?_
            refine x_imul (pc := 427) C dL_ahead_427 ?_
            refine x_topi (nI (9 * s)) (pk_mul (9) (s)) ?_
            refine x_iconst (pc := 428) C (2) dL_ahead_428 (by decide) ?_
            refine x_iadd (pc := 429) C dL_ahead_429 ?_
            refine x_topi (nI (9 * s + 2)) (nI_add (9 * s) (2)) ?_
            refine x_iald (pc := 430) (o := 213) C dL_ahead_430 (hI 213 rfl) ⟨rfl, rfl⟩ (show _ < 63 by omega) (by decide) ?_
            refine x_topi (RF V 2 s) ((hv213 (9 * s + 2) (by omega) (by omega)).trans (ht.f (by omega) (by decide))) ?_
            refine x_icmp_ne (pc := 431) (tgt := 451) C dL_ahead_431 (by decide) (fun h431 => ?_) (fun h431 => ?_)
            · refine x_iconst (pc := 451) C (0) dL_ahead_451 (by decide) ?_
              refine x_iadd (pc := 452) C dL_ahead_452 ?_
              refine y_istore (pc := 453) C dL_ahead_453 (by decide) rfl ?_
              refine y_iinc (pc := 455) C (nI (i + 1)) dL_ahead_455 rfl (by exact nI_1 i) (by decide) rfl ?_
              refine x_goto (pc := 458) (tgt := 393) C dL_ahead_458 (by decide) ?_
              exact ih2 (i + 1) _ (by omega) (by rw [hinv2, Int32.add_zero, sumTo, if_neg (fun z => h431 z.2.1), Int32.add_zero])
            · refine x_aload (pc := 434) C dL_ahead_434 rfl ?_
              refine x_iconst (pc := 436) C (4) dL_ahead_436 (by decide) ?_
              refine x_iload (pc := 437) C dL_ahead_437 rfl ?_
              refine x_imul (pc := 439) C dL_ahead_439 ?_
              refine x_topi (nI (4 * i)) (pk_mul (4) (i)) ?_
              refine x_iconst (pc := 440) C (3) dL_ahead_440 (by decide) ?_
              refine x_iadd (pc := 441) C dL_ahead_441 ?_
              refine x_topi (nI (4 * i + 3)) (nI_add (4 * i) (3)) ?_
              refine x_iald (pc := 442) (o := 218) C dL_ahead_442 h218i ⟨rfl, rfl⟩ (show _ < 28 by omega) (by decide) ?_
              refine x_topi (airR (RF (ovR V s (nI q - 60))) ((ovR V s (nI q - 60)) 201) 3 i) (hA i (by omega) h431 3 (by decide)) ?_
              refine x_iconst (pc := 443) C (2) dL_ahead_443 (by decide) ?_
              refine x_icmp_ne (pc := 444) (tgt := 451) C dL_ahead_444 (by decide) (fun h444 => ?_) (fun h444 => ?_)
              · refine x_iconst (pc := 451) C (0) dL_ahead_451 (by decide) ?_
                refine x_iadd (pc := 452) C dL_ahead_452 ?_
                refine y_istore (pc := 453) C dL_ahead_453 (by decide) rfl ?_
                refine y_iinc (pc := 455) C (nI (i + 1)) dL_ahead_455 rfl (by exact nI_1 i) (by decide) rfl ?_
                refine x_goto (pc := 458) (tgt := 393) C dL_ahead_458 (by decide) ?_
                exact ih2 (i + 1) _ (by omega) (by rw [hinv2, Int32.add_zero, sumTo, if_neg (fun z => h444 z.2.2), Int32.add_zero])
              · refine x_iconst (pc := 447) C (1) dL_ahead_447 (by decide) ?_
                refine x_goto (pc := 448) (tgt := 452) C dL_ahead_448 (by decide) ?_
                refine x_iadd (pc := 452) C dL_ahead_452 ?_
                refine y_istore (pc := 453) C dL_ahead_453 (by decide) rfl ?_
                refine y_iinc (pc := 455) C (nI (i + 1)) dL_ahead_455 rfl (by exact nI_1 i) (by decide) rfl ?_
                refine x_goto (pc := 458) (tgt := 393) C dL_ahead_458 (by decide) ?_
                exact ih2 (i + 1) _ (by omega) (by rw [hinv2, sumTo, if_pos ⟨e408, h431, h444⟩])
    · refine x_iconst (pc := 317) C (1) dL_ahead_317 (by decide) ?_
      refine x_vcg (V' := fun i j => if 218 ≤ i ∧ i ≤ 221 then V i j else Va i j) (fun i hi => funext fun j => by rw [if_neg (fun z => hx i z.1 hi)]) ?_
      exact x_zret (pc := 318) C hQ dL_ahead_318 (by decide) (pm_i rfl (fun i j a c => if e : 218 ≤ i ∧ i ≤ 221 then (by rw [if_pos e]) else (by rw [if_neg e]; exact hs i j a e c))) (Nat.le_of_ble_eq_true rfl) (Nat.le_of_ble_eq_true rfl)
  have J281 : ∀ (Va : VV) (s i : Nat), Su n (9 * n) V Va → s < n → i ≤ 2016 → (i < 2016 → (repN V n (RF V 1 s).toNatClampNeg s 2016 0) = nI (5 * i)) → (i = 2016 → (repN V n (RF V 1 s).toNatClampNeg s 2016 0) = -1) → Wx E 281 [some (aR 0), some (aI x), some (aI y), some (aR 210), some (aR 211), some (aR 212), some (aR 213), some (aI (nI (gg))), some (aI (nI (dd))), some (aI (nI (5 + l1))), some (aI (nI (ss))), none, some (aI (nI (s))), some (aI (nI (5 * i))), none, none, none, none, none, none] [] Va L N I 2 12 := by
    intro Va s i hs hsn hi hp1 hp2
    refine x_aload_n (pc := 281) C dL_ahead_281 rfl ?_
    refine x_iload (pc := 282) C dL_ahead_282 rfl ?_
    refine x_aV1 (pc := 284) (o := 0) C [] (fun _ h => nomatch h) v_L_90 dL_ahead_284 (k_firstRepeat hI (hP.su hs) hsn) (hI 0 rfl) rfl (by decide) rfl ⟨by omega, by omega⟩ (fun Ma qa => ?_)
    have hq := hs.sq qa
    refine x_topi (repN V n (RF V 1 s).toNatClampNeg s 2016 0) (by rw [RF_z hs.z, repN_cg hs.z]) ?_
    refine x_iload (pc := 287) C dL_ahead_287 rfl ?_
    refine x_sipush (pc := 289) C (10080) dL_ahead_289 (by decide) ?_
    refine x_icmp_ge (pc := 292) (tgt := 300) C dL_ahead_292 (by decide) (fun h292 => ?_) (fun h292 => ?_)
    · have hi2 : i = 2016 := by have := (nI_leI (a := 10080) (b := 5 * i) (by decide) (by omega)).mp h292; omega
      refine x_iconst (pc := 300) C (-1) dL_ahead_300 (by decide) ?_
      refine x_icmp_eq (pc := 301) (tgt := 306) C dL_ahead_301 (by decide) (fun h301 => ?_) (fun h301 => absurd (by first | exact hp1 hi2 | exact hp2 hi2) h301)
      refine x_fgt 13 ?_
      refine x_wid (a' := 3) (b' := 18) (by omega) (by omega) ?_
      exact J306 _ s hq hsn
    · have hi2 : i < 2016 := Nat.lt_of_not_le fun z => h292 (nI_le (a := 10080) (b := 5 * i) (by omega) (by omega))
      refine x_iload (pc := 295) C dL_ahead_295 rfl ?_
      refine x_goto (pc := 297) (tgt := 301) C dL_ahead_297 (by decide) ?_
      refine x_icmp_eq (pc := 301) (tgt := 306) C dL_ahead_301 (by decide) (fun h301 => ?_) (fun h301 => absurd (by first | exact hp1 hi2 | exact hp2 hi2) h301)
      refine x_fgt 13 ?_
      refine x_wid (a' := 3) (b' := 18) (by omega) (by omega) ?_
      exact J306 _ s hq hsn
  have J171 : ∀ (Va : VV) (w11 : Option AV), Su n (9 * n) V Va → Wx E 171 [some (aR 0), some (aI x), some (aI y), some (aR 210), some (aR 211), some (aR 212), some (aR 213), some (aI (nI (gg))), some (aI (nI (dd))), some (aI (nI (5 + l1))), some (aI (nI (ss))), none, none, none, none, none, none, none, none, none] [] Va L N I 2 12 := by
    intro Va w11 hs
    refine x_aload (pc := 171) C dL_ahead_171 rfl ?_
    refine x_iconst (pc := 173) C (1) dL_ahead_173 (by decide) ?_
    refine x_topi (nI 1) (by decide) ?_
    refine x_iald (pc := 174) (o := 212) C dL_ahead_174 (hI 212 rfl) ⟨rfl, rfl⟩ (show _ < 3 by decide) (by decide) ?_
    refine x_topi (nI n) (hs.d1 ht) ?_
    refine x_if_ne (pc := 175) (tgt := 180) C dL_ahead_175 (by decide) (fun h175 => ?_) (fun h175 => ?_)
    · have hn0 : 0 < n := Nat.pos_of_ne_zero fun z => h175 (by rw [z]; rfl)
      refine x_iload_n (pc := 180) C dL_ahead_180 rfl ?_
      refine x_bipush (pc := 181) C (6) dL_ahead_181 (by decide) ?_
      refine x_ishr (pc := 183) C dL_ahead_183 ?_
      refine x_aload (pc := 184) C dL_ahead_184 rfl ?_
      refine x_iconst (pc := 186) C (1) dL_ahead_186 (by decide) ?_
      refine x_topi (nI 1) (by decide) ?_
      refine x_iald (pc := 187) (o := 212) C dL_ahead_187 (hI 212 rfl) ⟨rfl, rfl⟩ (show _ < 3 by decide) (by decide) ?_
      refine x_topi (nI n) (hs.d1 ht) ?_
      refine x_gS2 (pc := 188) C [] (fun _ h => nomatch h) s_L_47 dL_ahead_188 (c_L_at _ (nI n) (fun z => h175 z)) (by decide) rfl ⟨by omega, by omega⟩ ?_
      obtain ⟨s, hsn, es⟩ := at_n (x >>> ((6 : Int32) &&& 31)) (n := n) hn0 (by omega)
      refine x_topi (nI s) es ?_
      refine y_istore (pc := 191) C dL_ahead_191 (by decide) rfl ?_
      refine x_iconst (pc := 193) C (0) dL_ahead_193 (by decide) ?_
      refine y_istore (pc := 194) C dL_ahead_194 (by decide) rfl ?_
      obtain ⟨ds, hds, eds⟩ : ∃ d, d < 7 ∧ RF V 2 s = nI d := rw_d hP.2 hsn
      obtain ⟨gs, hgs, egs⟩ : ∃ d, d < 6 ∧ RF V 1 s = nI d := rw_g hP.2 hsn
      have hsh := hsb s hsn
      have hcl : (RF V 1 s).toNatClampNeg = gs := by rw [egs]; exact nI_clamp (by omega)
      suffices keyk : ∀ (k i : Nat) (Vb : VV), k + i = 2016 → (Su n (9 * n) V Vb ∧ (repN V n (RF V 1 s).toNatClampNeg s 2016 0) = repN V n gs s k i) → Wx E 196 [some (aR 0), some (aI x), some (aI y), some (aR 210), some (aR 211), some (aR 212), some (aR 213), some (aI (nI (gg))), some (aI (nI (dd))), some (aI (nI (5 + l1))), some (aI (nI (ss))), none, some (aI (nI (s))), some (aI (nI (5 * i))), none, none, none, none, none, none] [] Vb L N I 2 12 by
        exact keyk (2016) (0) _ (by omega) (⟨hs, by rw [hcl]⟩)
      intro k
      induction k with
      | zero =>
        intro i Vb hk hinv
        have hb := hinv.1
        refine x_iload (pc := 196) C dL_ahead_196 rfl ?_
        refine x_sipush (pc := 198) C (10080) dL_ahead_198 (by decide) ?_
        refine x_icmp_ge (pc := 201) (tgt := 281) C dL_ahead_201 (by decide) (fun h201 => ?_) (fun h201 => absurd (by exact nI_le (a := 10080) (b := 5 * i) (by omega) (by omega)) h201)
        exact J281 _ s i hinv.1 hsn (by omega) (fun z => absurd z (by omega)) (fun _ => hinv.2)
      | succ k ih =>
        intro i Vb hk hinv
        have hb := hinv.1
        refine x_iload (pc := 196) C dL_ahead_196 rfl ?_
        refine x_sipush (pc := 198) C (10080) dL_ahead_198 (by decide) ?_
        refine x_icmp_ge (pc := 201) (tgt := 281) C dL_ahead_201 (by decide) (fun h201 => absurd h201 (by exact nI_ge (a := 5 * i) (b := 10080) (by omega) (by omega))) (fun h201 => ?_)
        refine x_iconst (pc := 204) C (2) dL_ahead_204 (by decide) ?_
        refine x_aload (pc := 205) C dL_ahead_205 rfl ?_
        refine x_bipush (pc := 207) C (9) dL_ahead_207 (by decide) ?_
        refine x_iload (pc := 209) C dL_ahead_209 rfl ?_
        refine x_imul (pc := 211) C dL_ahead_211 ?_
        refine x_topi (nI (9 * s)) (pk_mul (9) (s)) ?_
        refine x_iconst (pc := 212) C (1) dL_ahead_212 (by decide) ?_
        refine x_iadd (pc := 213) C dL_ahead_213 ?_
        refine x_topi (nI (9 * s + 1)) (nI_add (9 * s) (1)) ?_
        refine x_iald (pc := 214) (o := 213) C dL_ahead_214 (hI 213 rfl) ⟨rfl, rfl⟩ (show _ < 63 by omega) (by decide) ?_
        refine x_topi (nI gs) ((hb 213 (9 * s + 1) (by decide) (by decide) (by omega)).trans ((ht.f hsn (by decide)).trans egs)) ?_
        refine x_iload (pc := 215) C dL_ahead_215 rfl ?_
        refine x_sipush (pc := 217) C (1440) dL_ahead_217 (by decide) ?_
        refine x_idiv (pc := 220) C dL_ahead_220 (by decide) ?_
        refine x_topi (nI (5 * i / 1440)) (pk_div (d := 1440) (by omega) (by decide) (by decide)) ?_
        refine x_iload (pc := 221) C dL_ahead_221 rfl ?_
        refine x_sipush (pc := 223) C (1440) dL_ahead_223 (by decide) ?_
        refine x_irem (pc := 226) C dL_ahead_226 (by decide) ?_
        refine x_topi (nI (5 * i % 1440)) (pk_rem (d := 1440) (by omega) (by decide) (by decide)) ?_
        refine x_aload (pc := 227) C dL_ahead_227 rfl ?_
        refine x_bipush (pc := 229) C (9) dL_ahead_229 (by decide) ?_
        refine x_iload (pc := 231) C dL_ahead_231 rfl ?_
        refine x_imul (pc := 233) C dL_ahead_233 ?_
        refine x_topi (nI (9 * s)) (pk_mul (9) (s)) ?_
        refine x_iconst (pc := 234) C (4) dL_ahead_234 (by decide) ?_
        refine x_iadd (pc := 235) C dL_ahead_235 ?_
        refine x_topi (nI (9 * s + 4)) (nI_add (9 * s) (4)) ?_
        refine x_iald (pc := 236) (o := 213) C dL_ahead_236 (hI 213 rfl) ⟨rfl, rfl⟩ (show _ < 63 by omega) (by decide) ?_
        refine x_topi (RF V 4 s) ((hb 213 (9 * s + 4) (by decide) (by decide) (by omega)).trans (ht.f hsn (by decide))) ?_
        refine x_iconst (pc := 237) C (0) dL_ahead_237 (by decide) ?_
        refine x_aload (pc := 238) C dL_ahead_238 rfl ?_
        refine x_bipush (pc := 240) C (9) dL_ahead_240 (by decide) ?_
        refine x_iload (pc := 242) C dL_ahead_242 rfl ?_
        refine x_imul (pc := 244) C dL_ahead_244 ?_
        refine x_topi (nI (9 * s)) (pk_mul (9) (s)) ?_
        refine x_bipush (pc := 245) C (8) dL_ahead_245 (by decide) ?_
        refine x_iadd (pc := 247) C dL_ahead_247 ?_
        refine x_topi (nI (9 * s + 8)) (nI_add (9 * s) (8)) ?_
        refine x_iald (pc := 248) (o := 213) C dL_ahead_248 (hI 213 rfl) ⟨rfl, rfl⟩ (show _ < 63 by omega) (by decide) ?_
        refine x_topi (GF V 8 s) ((hb 213 (9 * s + 8) (by decide) (by decide) (by omega))) ?_
        refine x_sipush (pc := 249) C (999) dL_ahead_249 (by decide) ?_
        refine x_aload (pc := 252) C dL_ahead_252 rfl ?_
        refine x_aload (pc := 254) C dL_ahead_254 rfl ?_
        refine x_gS10 (pc := 256) C [] (fun _ h => nomatch h) s_L_75 dL_ahead_256 (c_L_lay hI (hb.d1 ht) hn6 _ _ _ _ _ _ _ _) (by decide) rfl ⟨by omega, by omega⟩ ?_
        refine x_aload_n (pc := 259) C dL_ahead_259 rfl ?_
        refine x_aload (pc := 260) C dL_ahead_260 rfl ?_
        refine x_aload (pc := 262) C dL_ahead_262 rfl ?_
        refine x_aload (pc := 264) C dL_ahead_264 rfl ?_
        refine x_gS4 (pc := 266) C [] (fun _ h => nomatch h) s_L_83 dL_ahead_266 (tl_why hI hP ht hb (g := gs) (q := s) (Or.inr (Or.inr rfl)) hgs (by rw [t_nat (by omega)]; omega) (by rw [t_nat (by omega)]; omega) hsh.2.2.2.2.1 ⟨by decide, by decide⟩ (fun _ => ⟨hsn, rfl⟩)) (by decide) rfl ⟨by omega, by omega⟩ ?_
        refine x_if_ne (pc := 269) (tgt := 275) C dL_ahead_269 (by decide) (fun h269 => ?_) (fun h269 => ?_)
        · refine y_iinc (pc := 275) C (nI (5 * (i + 1))) dL_ahead_275 rfl (by exact (nI_add (5 * i) 5).trans (congrArg nI (by omega))) (by decide) rfl ?_
          refine x_goto (pc := 278) (tgt := 196) C dL_ahead_278 (by decide) ?_
          exact ih (i + 1) _ (by omega) ⟨hb.lay, by rw [hinv.2, repN, if_neg (show ¬ rfoN V n gs s (nI (5 * i / 1440)) (nI (5 * i % 1440)) = 0 from h269)]⟩
        · refine x_goto (pc := 272) (tgt := 281) C dL_ahead_272 (by decide) ?_
          exact J281 _ s i hb.lay hsn (by omega) (fun _ => by rw [hinv.2, repN, if_pos (show rfoN V n gs s (nI (5 * i / 1440)) (nI (5 * i % 1440)) = 0 from h269)]) (fun z => absurd z (by omega))
    · refine x_iconst (pc := 178) C (1) dL_ahead_178 (by decide) ?_
      refine x_vcg (V' := fun i j => if 218 ≤ i ∧ i ≤ 221 then V i j else Va i j) (fun i hi => funext fun j => by rw [if_neg (fun z => hx i z.1 hi)]) ?_
      exact x_zret (pc := 179) C hQ dL_ahead_179 (by decide) (pm_i rfl (fun i j a c => if e : 218 ≤ i ∧ i ≤ 221 then (by rw [if_pos e]) else (by rw [if_neg e]; exact hs i j a e c))) (Nat.le_of_ble_eq_true rfl) (Nat.le_of_ble_eq_true rfl)
  have J142 : ∀ (Va : VV) (i : Nat), Su n (9 * n) V Va → i ≤ 288 → (i < 288 → (fotN V n gg (nI dd) (nI (5 + l1)) 288 0) = nI (5 * i)) → (i = 288 → (fotN V n gg (nI dd) (nI (5 + l1)) 288 0) = -1) → Wx E 142 [some (aR 0), some (aI x), some (aI y), some (aR 210), some (aR 211), some (aR 212), some (aR 213), some (aI (nI (gg))), some (aI (nI (dd))), some (aI (nI (5 + l1))), some (aI (nI (ss))), some (aI (nI (5 * i))), none, none, none, none, none, none, none, none] [] Va L N I 1 6 := by
    intro Va i hs hi hp1 hp2
    refine x_aload_n (pc := 142) C dL_ahead_142 rfl ?_
    refine x_iload (pc := 143) C dL_ahead_143 rfl ?_
    refine x_iload (pc := 145) C dL_ahead_145 rfl ?_
    refine x_iload (pc := 147) C dL_ahead_147 rfl ?_
    refine x_aV3 (pc := 149) (o := 0) C [] (fun _ h => nomatch h) v_L_86 dL_ahead_149 (k_firstTime hI (hP.su hs) hgg (by omega) (by omega) (hr 0 (by decide))) (hI 0 rfl) rfl (by decide) rfl ⟨by omega, by omega⟩ (fun Ma qa => ?_)
    have hq := hs.sq qa
    refine x_topi (fotN V n gg (nI dd) (nI (5 + l1)) 288 0) (fotN_sm hs.z) ?_
    refine x_iload (pc := 152) C dL_ahead_152 rfl ?_
    refine x_sipush (pc := 154) C (1440) dL_ahead_154 (by decide) ?_
    refine x_icmp_ge (pc := 157) (tgt := 165) C dL_ahead_157 (by decide) (fun h157 => ?_) (fun h157 => ?_)
    · have hi2 : i = 288 := by have := (nI_leI (a := 1440) (b := 5 * i) (by decide) (by omega)).mp h157; omega
      refine x_iconst (pc := 165) C (-1) dL_ahead_165 (by decide) ?_
      refine x_icmp_eq (pc := 166) (tgt := 171) C dL_ahead_166 (by decide) (fun h166 => ?_) (fun h166 => absurd (by first | exact hp1 hi2 | exact hp2 hi2) h166)
      refine x_fgt 11 ?_
      refine x_wid (a' := 2) (b' := 12) (by omega) (by omega) ?_
      exact J171 _ none hq
    · have hi2 : i < 288 := Nat.lt_of_not_le fun z => h157 (nI_le (a := 1440) (b := 5 * i) (by omega) (by omega))
      refine x_iload (pc := 160) C dL_ahead_160 rfl ?_
      refine x_goto (pc := 162) (tgt := 166) C dL_ahead_162 (by decide) ?_
      refine x_icmp_eq (pc := 166) (tgt := 171) C dL_ahead_166 (by decide) (fun h166 => ?_) (fun h166 => absurd (by first | exact hp1 hi2 | exact hp2 hi2) h166)
      refine x_fgt 11 ?_
      refine x_wid (a' := 2) (b' := 12) (by omega) (by omega) ?_
      exact J171 _ none hq
  have J88 : ∀ (Va : VV), Su n (9 * n) V Va → Wx E 88 [some (aR 0), some (aI x), some (aI y), some (aR 210), some (aR 211), some (aR 212), some (aR 213), some (aI (nI (gg))), some (aI (nI (dd))), some (aI (nI (5 + l1))), some (aI (nI (ss))), none, none, none, none, none, none, none, none, none] [] Va L N I 1 6 := by
    intro Va hs
    refine x_iconst (pc := 88) C (0) dL_ahead_88 (by decide) ?_
    refine y_istore (pc := 89) C dL_ahead_89 (by decide) rfl ?_
    suffices keyk : ∀ (k i : Nat) (Vb : VV), k + i = 288 → (Su n (9 * n) V Vb ∧ (fotN V n gg (nI dd) (nI (5 + l1)) 288 0) = fotN V n gg (nI dd) (nI (5 + l1)) k i) → Wx E 91 [some (aR 0), some (aI x), some (aI y), some (aR 210), some (aR 211), some (aR 212), some (aR 213), some (aI (nI (gg))), some (aI (nI (dd))), some (aI (nI (5 + l1))), some (aI (nI (ss))), some (aI (nI (5 * i))), none, none, none, none, none, none, none, none] [] Vb L N I 1 6 by
      exact keyk (288) (0) _ (by omega) (⟨hs, rfl⟩)
    intro k
    induction k with
    | zero =>
      intro i Vb hk hinv
      have hb := hinv.1
      refine x_iload (pc := 91) C dL_ahead_91 rfl ?_
      refine x_sipush (pc := 93) C (1440) dL_ahead_93 (by decide) ?_
      refine x_icmp_ge (pc := 96) (tgt := 142) C dL_ahead_96 (by decide) (fun h96 => ?_) (fun h96 => absurd (by exact nI_le (a := 1440) (b := 5 * i) (by omega) (by omega)) h96)
      exact J142 _ i hinv.1 (by omega) (fun z => absurd z (by omega)) (fun _ => hinv.2)
    | succ k ih =>
      intro i Vb hk hinv
      have hb := hinv.1
      refine x_iload (pc := 91) C dL_ahead_91 rfl ?_
      refine x_sipush (pc := 93) C (1440) dL_ahead_93 (by decide) ?_
      refine x_icmp_ge (pc := 96) (tgt := 142) C dL_ahead_96 (by decide) (fun h96 => absurd h96 (by exact nI_ge (a := 5 * i) (b := 1440) (by omega) (by omega))) (fun h96 => ?_)
      refine x_iconst (pc := 99) C (1) dL_ahead_99 (by decide) ?_
      refine x_iload (pc := 100) C dL_ahead_100 rfl ?_
      refine x_iload (pc := 102) C dL_ahead_102 rfl ?_
      refine x_iload (pc := 104) C dL_ahead_104 rfl ?_
      refine x_iload (pc := 106) C dL_ahead_106 rfl ?_
      refine x_iconst (pc := 108) C (0) dL_ahead_108 (by decide) ?_
      refine x_iconst (pc := 109) C (-1) dL_ahead_109 (by decide) ?_
      refine x_sipush (pc := 110) C (999) dL_ahead_110 (by decide) ?_
      refine x_aload (pc := 113) C dL_ahead_113 rfl ?_
      refine x_aload (pc := 115) C dL_ahead_115 rfl ?_
      refine x_gS10 (pc := 117) C [] (fun _ h => nomatch h) s_L_75 dL_ahead_117 (c_L_lay hI (hb.d1 ht) hn6 _ _ _ _ _ _ _ _) (by decide) rfl ⟨by omega, by omega⟩ ?_
      refine x_aload_n (pc := 120) C dL_ahead_120 rfl ?_
      refine x_aload (pc := 121) C dL_ahead_121 rfl ?_
      refine x_aload (pc := 123) C dL_ahead_123 rfl ?_
      refine x_aload (pc := 125) C dL_ahead_125 rfl ?_
      refine x_gS4 (pc := 127) C [] (fun _ h => nomatch h) s_L_83 dL_ahead_127 (tl_why hI hP ht hb (g := gg) (q := 0) (Or.inr (Or.inl rfl)) hgg (by rw [tD]; omega) (by rw [t_nat (by omega)]; omega) (by rw [tL]; omega) ⟨by decide, by decide⟩ (fun z => absurd z (by decide))) (by decide) rfl ⟨by omega, by omega⟩ ?_
      refine x_if_ne (pc := 130) (tgt := 136) C dL_ahead_130 (by decide) (fun h130 => ?_) (fun h130 => ?_)
      · refine y_iinc (pc := 136) C (nI (5 * (i + 1))) dL_ahead_136 rfl (by exact (nI_add (5 * i) 5).trans (congrArg nI (by omega))) (by decide) rfl ?_
        refine x_goto (pc := 139) (tgt := 91) C dL_ahead_139 (by decide) ?_
        exact ih (i + 1) _ (by omega) ⟨hb.lay, by rw [hinv.2, fotN, if_pos (show 0 < whyN V n gg (nI dd) (nI (5 * i)) (nI (5 + l1)) from refR_n.elim (fun z => absurd z h130) id)]⟩
      · refine x_goto (pc := 133) (tgt := 142) C dL_ahead_133 (by decide) ?_
        exact J142 _ i hb.lay (by omega) (fun _ => by rw [hinv.2, fotN, if_neg (show ¬ 0 < whyN V n gg (nI dd) (nI (5 * i)) (nI (5 + l1)) from fun z => by unfold whyN at z; rw [h130] at z; exact absurd z (by decide))]) (fun z => absurd z (by omega))
  refine x_iload_n (pc := 0) C dL_ahead_0 rfl ?_
  refine x_bipush (pc := 1) C (6) dL_ahead_1 (by decide) ?_
  refine x_gS2 (pc := 3) C [] (fun _ h => nomatch h) s_L_47 dL_ahead_3 (c_L_at _ 6 (by decide)) (by decide) rfl ⟨by omega, by omega⟩ ?_
  refine x_topi (nI gg) egg ?_
  refine y_istore (pc := 6) C dL_ahead_6 (by decide) rfl ?_
  refine x_iload_n (pc := 8) C dL_ahead_8 rfl ?_
  refine x_iconst (pc := 9) C (3) dL_ahead_9 (by decide) ?_
  refine x_ishr (pc := 10) C dL_ahead_10 ?_
  refine x_bipush (pc := 11) C (7) dL_ahead_11 (by decide) ?_
  refine x_gS2 (pc := 13) C [] (fun _ h => nomatch h) s_L_47 dL_ahead_13 (c_L_at _ 7 (by decide)) (by decide) rfl ⟨by omega, by omega⟩ ?_
  refine x_topi (nI dd) edd ?_
  refine y_istore (pc := 16) C dL_ahead_16 (by decide) rfl ?_
  refine x_iconst (pc := 18) C (5) dL_ahead_18 (by decide) ?_
  refine x_iload_n (pc := 19) C dL_ahead_19 rfl ?_
  refine x_bipush (pc := 20) C (120) dL_ahead_20 (by decide) ?_
  refine x_gS2 (pc := 22) C [] (fun _ h => nomatch h) s_L_47 dL_ahead_22 (c_L_at _ 120 (by decide)) (by decide) rfl ⟨by omega, by omega⟩ ?_
  refine x_topi (nI l1) el1 ?_
  refine x_iadd (pc := 25) C dL_ahead_25 ?_
  refine x_topi (nI (5 + l1)) (nI_add (5) (l1)) ?_
  refine y_istore (pc := 26) C dL_ahead_26 (by decide) rfl ?_
  refine x_iload_n (pc := 28) C dL_ahead_28 rfl ?_
  refine x_bipush (pc := 29) C (7) dL_ahead_29 (by decide) ?_
  refine x_ishr (pc := 31) C dL_ahead_31 ?_
  refine x_sipush (pc := 32) C (1440) dL_ahead_32 (by decide) ?_
  refine x_gS2 (pc := 35) C [] (fun _ h => nomatch h) s_L_47 dL_ahead_35 (c_L_at _ 1440 (by decide)) (by decide) rfl ⟨by omega, by omega⟩ ?_
  refine x_topi (nI ss) ess ?_
  refine y_istore (pc := 38) C dL_ahead_38 (by decide) rfl ?_
  refine x_iconst (pc := 40) C (1) dL_ahead_40 (by decide) ?_
  refine x_iload (pc := 41) C dL_ahead_41 rfl ?_
  refine x_iload (pc := 43) C dL_ahead_43 rfl ?_
  refine x_iload (pc := 45) C dL_ahead_45 rfl ?_
  refine x_iload (pc := 47) C dL_ahead_47 rfl ?_
  refine x_iconst (pc := 49) C (0) dL_ahead_49 (by decide) ?_
  refine x_iconst (pc := 50) C (-1) dL_ahead_50 (by decide) ?_
  refine x_sipush (pc := 51) C (999) dL_ahead_51 (by decide) ?_
  refine x_aload (pc := 54) C dL_ahead_54 rfl ?_
  refine x_aload (pc := 56) C dL_ahead_56 rfl ?_
  refine x_gS10 (pc := 58) C [] (fun _ h => nomatch h) s_L_75 dL_ahead_58 (c_L_lay hI ht.d1 hn6 _ _ _ _ _ _ _ _) (by decide) rfl ⟨by omega, by omega⟩ ?_
  have hs1 : Su n (9 * n) V (layV V n 1 (nI gg) (nI dd) (nI ss) (nI (5 + l1)) 0 (-1) 999) := su_r.lay
  refine x_aload_n (pc := 61) C dL_ahead_61 rfl ?_
  refine x_iload (pc := 62) C dL_ahead_62 rfl ?_
  refine x_iload (pc := 64) C dL_ahead_64 rfl ?_
  refine x_iload (pc := 66) C dL_ahead_66 rfl ?_
  refine x_iload (pc := 68) C dL_ahead_68 rfl ?_
  refine x_aV4 (pc := 70) (o := 0) C [] (fun _ h => nomatch h) v_L_79 dL_ahead_70 (k_why hI (hP.su hs1) hgg (hr ss (by omega))) (hI 0 rfl) rfl (by decide) rfl ⟨by omega, by omega⟩ (fun Ma qa => ?_)
  refine x_topi (whyN V n gg (nI dd) (nI ss) (nI (5 + l1))) (whyN_cg hs1.z) ?_
  have hs2 := hs1.sq qa
  have hr2 : Ma 213 = layV V n 1 (nI gg) (nI dd) (nI ss) (nI (5 + l1)) 0 (-1) 999 213 := qa 213 (by decide)
  refine x_aload_n (pc := 73) C dL_ahead_73 rfl ?_
  refine x_aload (pc := 74) C dL_ahead_74 rfl ?_
  refine x_aload (pc := 76) C dL_ahead_76 rfl ?_
  refine x_aload (pc := 78) C dL_ahead_78 rfl ?_
  refine x_gS4 (pc := 80) C [] (fun _ h => nomatch h) s_L_83 dL_ahead_80 (by have := tl_why (l := eL E) (L := L) (N := N) hI hP ht (M := Ma) hs2 (k := 1) (d := nI dd) (st := nI ss) (ln := nI (5 + l1)) (sp := 0) (o := -1) (id := 999) (g := gg) (q := 0) (Or.inr (Or.inl rfl)) hgg (by rw [tD]; omega) (by rw [tS]; omega) (by rw [tL]; omega) ⟨by decide, by decide⟩ (fun z => absurd z (by decide)); rwa [lay_id hr2] at this) (by decide) rfl ⟨by omega, by omega⟩ ?_
  refine x_icmp_eq (pc := 83) (tgt := 88) C dL_ahead_83 (by decide) (fun h83 => ?_) (fun h83 => absurd (by rfl) h83)
  refine x_wid (a' := 1) (b' := 6) (by omega) (by omega) ?_
  exact J88 _ hs2
