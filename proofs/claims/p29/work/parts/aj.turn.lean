set_option maxRecDepth 100000 in
set_option maxHeartbeats 600000 in
theorem w_turns {E : EE} {MC MS bq len : Nat} {xs : Nat → Int32} (C : OK E RL cL_law 16 (some .boolean) 11 MC MS) (hsc : Sc E bq len xs) (hlen : len ≤ 3584) {a0 b0 : Nat} (hr : a0 + 24000 ≤ MC ∧ b0 + 312000 ≤ MS) (hEnd : ∀ ls V L N I a b, a ≤ MC → b ≤ MS → Wx E 560 ls [aI 1] V L N I a b) :
    ∀ (f t : Nat) (V : VV) (L : LL) (N : NN) (I : List Nat), f + t = 24 → 1 ≤ t → (∃ m, LI V N I t m) → Wx E 197 [some (aQ bq), some (aR 0), some (aR 210), some (aR 211), some (aR 212), some (aR 213), some (aR 214), some (aR 215), some (aR 216), some (aR 217), some (aI (nI (t))), none, none, none, none, none] [] V L N I (a0 + 1000 * t) (b0 + 13000 * t) := by
  intro f
  induction f with
  | zero =>
    intro t V L N I hf ht1 _
    refine x_iload (pc := 197) C dL_law_197 rfl ?_
    refine x_bipush (pc := 199) C (24) dL_law_199 (by decide) ?_
    refine x_icmp_ge (pc := 201) (tgt := 559) C dL_law_201 (by decide) (fun h201 => ?_) (fun h201 => absurd (by exact nI_le (a := 24) (b := t) (by omega) (by omega)) h201)
    refine x_iconst (pc := 559) C (1) dL_law_559 (by decide) ?_
    exact hEnd _ _ _ _ _ _ _ (by omega) (by omega)
  | succ f ih =>
    intro t V L N I hf ht1 hLt
    obtain ⟨m, hL⟩ := hLt
    have J520 : ∀ (V : VV) (N : NN) (I : List Nat) (m : Nat) (x y : Int32), LI V N I (t + 1) m → Wx E 520 [some (aQ bq), some (aR 0), some (aR 210), some (aR 211), some (aR 212), some (aR 213), some (aR 214), some (aR 215), some (aR 216), some (aR 217), some (aI (nI (t))), some (aI x), some (aI y), none, none, none] [] V L N I (a0 + 1000 * t + 700) (b0 + 13000 * t + 6600) := by
      intro V N I m x y hL
      obtain ⟨n, o, l0, hX, hT, hw⟩ := id hL
      have hI := hX.2.2.1.1.1
      have hx : ∀ i, 218 ≤ i → i ∉ I := fun i hi => hL.no (Or.inr (Or.inr hi))
      refine x_iload (pc := 520) C dL_law_520 rfl ?_
      refine x_bipush (pc := 522) C (7) dL_law_522 (by decide) ?_
      refine x_irem (pc := 524) C dL_law_524 (by decide) ?_
      refine x_bipush (pc := 525) C (6) dL_law_525 (by decide) ?_
      refine x_icmp_ne (pc := 527) (tgt := 553) C dL_law_527 (by decide) (fun h527 => ?_) (fun h527 => ?_)
      · refine y_iinc (pc := 553) C (nI (t + 1)) dL_law_553 rfl (by exact nI_1 t) (by decide) rfl ?_
        refine x_goto (pc := 556) (tgt := 197) C dL_law_556 (by decide) ?_
        refine x_fgt 11 ?_
        refine x_fgt 12 ?_
        refine x_wid (a' := a0 + 1000 * (t + 1)) (b' := b0 + 13000 * (t + 1)) (by omega) (by omega) ?_
        exact ih (t + 1) V L N I (by omega) (by omega) ⟨m, hL⟩
      · refine x_aload_n (pc := 530) C dL_law_530 rfl ?_
        refine x_iload (pc := 531) C dL_law_531 rfl ?_
        refine x_iconst (pc := 533) C (2) dL_law_533 (by decide) ?_
        refine x_ishr (pc := 534) C dL_law_534 ?_
        refine x_iload (pc := 535) C dL_law_535 rfl ?_
        refine x_iconst (pc := 537) C (2) dL_law_537 (by decide) ?_
        refine x_ishr (pc := 538) C dL_law_538 ?_
        refine x_aload_n (pc := 539) C dL_law_539 rfl ?_
        refine x_aload_n (pc := 540) C dL_law_540 rfl ?_
        refine x_aload (pc := 541) C dL_law_541 rfl ?_
        refine x_aload (pc := 543) C dL_law_543 rfl ?_
        refine x_gpS7 (pc := 545) C [] (fun _ h => nomatch h) s_L_142 dL_law_545 (c_L_ahead hI hx ⟨hX.1, hX.2.1⟩ hT _ _) (by decide) rfl ⟨by omega, by omega⟩ (fun Vb qb => ?_)
        refine x_if_ne (pc := 548) (tgt := 553) C dL_law_548 (by decide) (fun h548 => ?_) (fun h548 => absurd h548 (by decide))
        refine y_iinc (pc := 553) C (nI (t + 1)) dL_law_553 rfl (by exact nI_1 t) (by decide) rfl ?_
        refine x_goto (pc := 556) (tgt := 197) C dL_law_556 (by decide) ?_
        refine x_fgt 11 ?_
        refine x_fgt 12 ?_
        refine x_wid (a' := a0 + 1000 * (t + 1)) (b' := b0 + 13000 * (t + 1)) (by omega) (by omega) ?_
        exact ih (t + 1) Vb L N I (by omega) (by omega) ⟨m, li_su hX hT hw (fun i j a b c => qb i j a c)⟩
    have J335 : ∀ (Va M : VV) (ac x y : Int32), LI Va N I t m → Cp 210 214 Va M 63 63 63 63 → Wx E 335 [some (aQ bq), some (aR 0), some (aR 210), some (aR 211), some (aR 212), some (aR 213), some (aR 214), some (aR 215), some (aR 216), some (aR 217), some (aI (nI (t))), some (aI x), some (aI y), some (aI (nI (m))), none, none] [aI ac, aR 0] M L N I (a0 + 1000 * t + 1) (b0 + 13000 * t + 6) := by
      intro Va M ac x y hLa hcp
      have hLM : LI M N I t m := hLa.cg fun i a b => hcp.1 i (by omega)
      obtain ⟨n, o, l0, hX, hT, hw⟩ := id hLM
      have hI := hX.2.2.1.1.1
      have hm7 := hX.2.2.1.2.2.2.2
      refine x_iload (pc := 335) C dL_law_335 rfl ?_
      refine x_iload (pc := 337) C dL_law_337 rfl ?_
      refine x_iload (pc := 339) C dL_law_339 rfl ?_
      refine x_aload_n (pc := 341) C dL_law_341 rfl ?_
      refine x_aload_n (pc := 342) C dL_law_342 rfl ?_
      refine x_aload (pc := 343) C dL_law_343 rfl ?_
      refine x_aload (pc := 345) C dL_law_345 rfl ?_
      refine x_callT (pc := 347) (st := []) (As := [aR 0, aI ac, aI x, aI y, aI (nI t), aR 210, aR 211, aR 212, aR 213]) C s_L_135 dL_law_347 (c_L_act hX hT hw (by omega) ac x y) rfl (by decide) (okG_s (J := []) (fun _ h => nomatch h) rfl) (by decide) ⟨by omega, by omega⟩ (fun X V1 L1 N1 I1 h => by obtain ⟨hv, _⟩ := h; cases hv) (fun r1 Vc L1 Nc Ic h => ?_)
      obtain ⟨hv, eL1, hcq, Vd, m3, hd, hLd, hsv⟩ := h
      cases hv
      rw [eL1]
      refine x_vcg (V' := Vd) (fun i hi => (hd i (fun z => hLd.no (Or.inr (Or.inl z)) hi)).symm) ?_
      obtain ⟨n3, o3, l3, hXd, hTd, hwd⟩ := id hLd
      have hI := hXd.2.2.1.1.1
      have hx : ∀ i, 218 ≤ i → i ∉ Ic := fun i hi => hLd.no (Or.inr (Or.inr hi))
      have hm37 := hXd.2.2.1.2.2.2.2
      refine x_if_eq (pc := 350) (tgt := 370) C dL_law_350 (by decide) (fun h350 => absurd h350 (by decide)) (fun h350 => ?_)
      refine x_aload_n (pc := 353) C dL_law_353 rfl ?_
      refine x_iload (pc := 354) C dL_law_354 rfl ?_
      refine x_iconst (pc := 356) C (2) dL_law_356 (by decide) ?_
      refine x_ishr (pc := 357) C dL_law_357 ?_
      refine x_aload_n (pc := 358) C dL_law_358 rfl ?_
      refine x_aload_n (pc := 359) C dL_law_359 rfl ?_
      refine x_aload (pc := 360) C dL_law_360 rfl ?_
      refine x_aload (pc := 362) C dL_law_362 rfl ?_
      refine x_gpS6 (pc := 364) C [] (fun _ h => nomatch h) s_L_126 dL_law_364 (c_L_told hI hx ⟨hXd.1, hXd.2.1⟩ hTd (hXd.2.2.1.2.2.2.1.trans hXd.2.2.2.2.1.symm) _) (by decide) rfl ⟨by omega, by omega⟩ (fun Ve qe => ?_)
      refine x_if_ne (pc := 367) (tgt := 372) C dL_law_367 (by decide) (fun h367 => ?_) (fun h367 => absurd h367 (by decide))
      refine x_iload (pc := 372) C dL_law_372 rfl ?_
      refine x_bipush (pc := 374) C (6) dL_law_374 (by decide) ?_
      refine x_icmp_ge (pc := 376) (tgt := 520) C dL_law_376 (by decide) (fun h376 => ?_) (fun h376 => ?_)
      · refine x_wid (a' := a0 + 1000 * t + 700) (b' := b0 + 13000 * t + 6600) (by omega) (by omega) ?_
        refine x_fgt 13 ?_
        exact J520 _ _ _ m3 x y (hLd.sq qe)
      · have hm6 : m < 6 := Nat.lt_of_not_le fun z => h376 (nI_le (a := 6) (b := m) z (by omega))
        refine x_aload_n (pc := 379) C dL_law_379 rfl ?_
        refine x_bipush (pc := 380) C (6) dL_law_380 (by decide) ?_
        refine x_aV1 (pc := 382) (o := 0) C [] (fun _ h => nomatch h) v_L_64 dL_law_382 (k_count hI (PR.sq ⟨hXd.1, hXd.2.1⟩ qe) (by rw [qe 1 (by decide), qe 200 (by decide)]; exact hXd.2.2.1.2.2.2.1.trans hXd.2.2.2.2.1.symm) (w := 6) (by decide)) (hI 0 rfl) rfl (by decide) rfl ⟨by omega, by omega⟩ (fun Vf qf => ?_)
        refine x_topi (nI m3) (show Ve 200 2 = nI m3 from (congrFun (qe 200 (by decide)) 2).trans hXd.2.2.2.2.1) ?_
        have hLf0 := (hLd.sq qe).sq qf
        refine x_iload (pc := 385) C dL_law_385 rfl ?_
        refine x_iconst (pc := 387) C (1) dL_law_387 (by decide) ?_
        refine x_iadd (pc := 388) C dL_law_388 ?_
        refine x_topi (nI (m + 1)) (nI_add (m) (1)) ?_
        refine x_icmp_ne (pc := 389) (tgt := 520) C dL_law_389 (by decide) (fun h389 => ?_) (fun h389 => ?_)
        · refine x_wid (a' := a0 + 1000 * t + 700) (b' := b0 + 13000 * t + 6600) (by omega) (by omega) ?_
          refine x_fgt 13 ?_
          exact J520 _ _ _ m3 x y ((hLd.sq qe).sq qf)
        · have hm3 : m3 = m + 1 := (nI_eq (by omega) (by omega)).mp h389
          refine x_iload (pc := 392) C dL_law_392 rfl ?_
          refine x_bipush (pc := 394) C (12) dL_law_394 (by decide) ?_
          refine x_ishr (pc := 396) C dL_law_396 ?_
          refine x_iconst (pc := 397) C (4) dL_law_397 (by decide) ?_
          refine x_gS2 (pc := 398) C [] (fun _ h => nomatch h) s_L_47 dL_law_398 (c_L_at _ 4 (by decide)) (by decide) rfl ⟨by omega, by omega⟩ ?_
          refine x_if_ne (pc := 401) (tgt := 520) C dL_law_401 (by decide) (fun h401 => ?_) (fun h401 => ?_)
          · refine x_wid (a' := a0 + 1000 * t + 700) (b' := b0 + 13000 * t + 6600) (by omega) (by omega) ?_
            refine x_fgt 13 ?_
            exact J520 _ _ _ m3 x y ((hLd.sq qe).sq qf)
          · have hXf : InvX Vf Nc Ic n3 o3 m3 l3 := (hXd.scr (fun i a _ => qe i a)).scr (fun i a _ => qf i a)
            have hTf : Tie Vf n3 (t + 1) := (hTd.cg (fun i hi => qe i (by omega))).cg (fun i hi => qf i (by omega))
            refine x_aload (pc := 404) C dL_law_404 rfl ?_
            refine x_iconst (pc := 406) C (2) dL_law_406 (by decide) ?_
            refine x_topi (nI 2) (by decide) ?_
            refine x_iald (pc := 407) (o := 212) C dL_law_407 (hI 212 rfl) ⟨rfl, rfl⟩ (show _ < 3 by decide) (by decide) ?_
            refine x_topi (Vf 0 6) hTf.2.2.2.2.1 ?_
            refine y_istore (pc := 408) C dL_law_408 (by decide) rfl ?_
            refine x_aload_n (pc := 410) C dL_law_410 rfl ?_
            have hLf := (hLd.sq qe).sq qf
            obtain ⟨P, hR, hP⟩ := m_undo (l := eL E) (L := L) hXf (by omega)
            refine x_callV (pc := 411) (st := []) (As := []) (o := 0) C v_L_139 dL_law_411 hR (hI 0 rfl) rfl rfl (by decide) (okG_s (J := []) (fun _ h => nomatch h) rfl) (by decide) ⟨by omega, by omega⟩ (fun X V1 L1 N1 I1 h => by cases (hP _ _ _ _ _ h).1) (fun r1 Vg L1 Ng Ig h => ?_)
            obtain ⟨hv, eL2, eN2, eI2, e210, Vh, hh, hInvh, hzh, h06⟩ := hP _ _ _ _ _ h
            cases hv
            rw [eL2, eN2, eI2]
            refine x_vcg (V' := Vh) (fun i hi => (hh i (fun z => hLf.no (Or.inr (Or.inl z)) hi)).symm) ?_
            have hz : ∀ j, j < 232 → Vh 201 j = M 201 j := fun j hj => by rw [hzh j hj, hm3, Nat.add_sub_cancel, qf 202 (by decide), qe 202 (by decide)]; exact hsv hm6 hm3 j hj
            have hs2 : ∀ i, 214 ≤ i ∧ i ≤ 217 → Vh i = M i := fun i hi => by rw [hh i (by omega), e210 i (by omega), qf i (by omega), qe i (by omega), hd i (by omega), hcq i hi]
            refine x_iload (pc := 414) C dL_law_414 rfl ?_
            refine x_icmp_eq (pc := 416) (tgt := 421) C dL_law_416 (by decide) (fun h416 => ?_) (fun h416 => absurd (by exact congrArg nI (by omega)) h416)
            refine x_wid (a' := a0 + 1000 * t + 320) (b' := b0 + 13000 * t + 3500) (by omega) (by omega) ?_
            refine x_iconst (pc := 421) C (0) dL_law_421 (by decide) ?_
            refine y_istore (pc := 422) C dL_law_422 (by decide) rfl ?_
            suffices keyk : ∀ (k i : Nat) (W : VV), k + i = 63 → (Cp 214 210 Vh W i i i i) → Wx E 424 [some (aQ bq), some (aR 0), some (aR 210), some (aR 211), some (aR 212), some (aR 213), some (aR 214), some (aR 215), some (aR 216), some (aR 217), some (aI (nI (t))), some (aI x), some (aI y), some (aI (nI (m))), some (aI (Vf 0 6)), some (aI (nI (i)))] [] W L Nc Ic (a0 + 1000 * t + 320) (b0 + 13000 * t + 3500) by
              exact keyk (63) (0) _ (by omega) (cp_0)
            intro k
            induction k with
            | zero =>
              intro i W hk hc2
              refine x_iload (pc := 424) C dL_law_424 rfl ?_
              refine x_bipush (pc := 426) C (63) dL_law_426 (by decide) ?_
              refine x_icmp_ge (pc := 428) (tgt := 495) C dL_law_428 (by decide) (fun h428 => ?_) (fun h428 => absurd (by exact nI_le (a := 63) (b := i) (by omega) (by omega)) h428)
              obtain rfl : i = 63 := by omega
              obtain ⟨mb, hLb⟩ := li_back hLM (by omega) hcp hInvh hz hs2 hc2 h06.symm
              obtain ⟨n4, o4, l4, hX4, hT4, hw4⟩ := id hLb
              refine x_aload (pc := 495) C dL_law_495 rfl ?_
              refine x_iconst (pc := 497) C (2) dL_law_497 (by decide) ?_
              refine x_iload (pc := 498) C dL_law_498 rfl ?_
              refine x_top2i (nI 2) (by decide) ?_
              refine x_iast (pc := 500) (o := 212) C dL_law_500 (hI 212 rfl) ⟨rfl, rfl⟩ (show _ < 3 by decide) (by decide) ?_
              refine x_aload_n (pc := 501) C dL_law_501 rfl ?_
              refine x_iload (pc := 502) C dL_law_502 rfl ?_
              refine x_iconst (pc := 504) C (3) dL_law_504 (by decide) ?_
              refine x_ishr (pc := 505) C dL_law_505 ?_
              refine x_aload_n (pc := 506) C dL_law_506 rfl ?_
              refine x_aload_n (pc := 507) C dL_law_507 rfl ?_
              refine x_aload (pc := 508) C dL_law_508 rfl ?_
              refine x_aload (pc := 510) C dL_law_510 rfl ?_
              refine x_gpS6 (pc := 512) C [] (fun _ h => nomatch h) s_L_126 dL_law_512 (c_L_told hI hx ⟨hX4.1, hX4.2.1⟩ hT4 (hX4.2.2.1.2.2.2.1.trans hX4.2.2.2.2.1.symm) _) (by decide) rfl ⟨by omega, by omega⟩ (fun Vi qi => ?_)
              refine x_if_ne (pc := 515) (tgt := 520) C dL_law_515 (by decide) (fun h515 => ?_) (fun h515 => absurd h515 (by decide))
              refine x_wid (a' := a0 + 1000 * t + 700) (b' := b0 + 13000 * t + 6600) (by omega) (by omega) ?_
              refine x_fgt 13 ?_
              refine x_fgt 14 ?_
              refine x_fgt 15 ?_
              exact J520 _ _ _ mb x y (hLb.sq qi)
            | succ k ih2 =>
              intro i W hk hc2
              refine x_iload (pc := 424) C dL_law_424 rfl ?_
              refine x_bipush (pc := 426) C (63) dL_law_426 (by decide) ?_
              refine x_icmp_ge (pc := 428) (tgt := 495) C dL_law_428 (by decide) (fun h428 => absurd h428 (by exact nI_ge (a := i) (b := 63) (by omega) (by omega))) (fun h428 => ?_)
              refine x_aload (pc := 431) C dL_law_431 rfl ?_
              refine x_iload (pc := 433) C dL_law_433 rfl ?_
              refine x_aload (pc := 435) C dL_law_435 rfl ?_
              refine x_iload (pc := 437) C dL_law_437 rfl ?_
              refine x_iald (pc := 439) (o := 217) C dL_law_439 (hI 217 rfl) ⟨rfl, rfl⟩ (show _ < 63 by omega) (by decide) ?_
              refine x_iast (pc := 440) (o := 213) C dL_law_440 (hI 213 rfl) ⟨rfl, rfl⟩ (show _ < 63 by omega) (by decide) ?_
              have c1 := hc2.aw (by decide)
              refine x_iload (pc := 441) C dL_law_441 rfl ?_
              refine x_bipush (pc := 443) C (30) dL_law_443 (by decide) ?_
              refine x_icmp_ge (pc := 445) (tgt := 457) C dL_law_445 (by decide) (fun h445 => ?_) (fun h445 => ?_)
              · have i30 : 30 ≤ i := (nI_leI (a := 30) (b := i) (by decide) (by omega)).mp h445
                have c2 := c1.b0 i30
                refine x_iload (pc := 457) C dL_law_457 rfl ?_
                refine x_bipush (pc := 459) C (8) dL_law_459 (by decide) ?_
                refine x_icmp_ge (pc := 461) (tgt := 473) C dL_law_461 (by decide) (fun h461 => ?_) (fun h461 => ?_)
                · have i8 : 8 ≤ i := (nI_leI (a := 8) (b := i) (by decide) (by omega)).mp h461
                  have c3 := c2.c0 i8
                  refine x_iload (pc := 473) C dL_law_473 rfl ?_
                  refine x_iconst (pc := 475) C (3) dL_law_475 (by decide) ?_
                  refine x_icmp_ge (pc := 476) (tgt := 489) C dL_law_476 (by decide) (fun h476 => ?_) (fun h476 => ?_)
                  · have i3 : 3 ≤ i := (nI_leI (a := 3) (b := i) (by decide) (by omega)).mp h476
                    have c4 := c3.d0 i3
                    refine y_iinc (pc := 489) C (nI (i + 1)) dL_law_489 rfl (by exact nI_1 i) (by decide) rfl ?_
                    refine x_goto (pc := 492) (tgt := 424) C dL_law_492 (by decide) ?_
                    exact ih2 (i + 1) _ (by omega) c4
                  · have i3 : i < 3 := Nat.lt_of_not_le fun z => h476 (nI_le (a := 3) (b := i) z (by omega))
                    refine x_aload (pc := 479) C dL_law_479 rfl ?_
                    refine x_iload (pc := 481) C dL_law_481 rfl ?_
                    refine x_aload (pc := 483) C dL_law_483 rfl ?_
                    refine x_iload (pc := 485) C dL_law_485 rfl ?_
                    refine x_iald (pc := 487) (o := 216) C dL_law_487 (hI 216 rfl) ⟨rfl, rfl⟩ (show _ < 3 by omega) (by decide) ?_
                    refine x_iast (pc := 488) (o := 212) C dL_law_488 (hI 212 rfl) ⟨rfl, rfl⟩ (show _ < 3 by omega) (by decide) ?_
                    have c4 := c3.dw (by decide)
                    refine y_iinc (pc := 489) C (nI (i + 1)) dL_law_489 rfl (by exact nI_1 i) (by decide) rfl ?_
                    refine x_goto (pc := 492) (tgt := 424) C dL_law_492 (by decide) ?_
                    exact ih2 (i + 1) _ (by omega) c4
                · have i8 : i < 8 := Nat.lt_of_not_le fun z => h461 (nI_le (a := 8) (b := i) z (by omega))
                  refine x_aload_n (pc := 464) C dL_law_464 rfl ?_
                  refine x_iload (pc := 465) C dL_law_465 rfl ?_
                  refine x_aload (pc := 467) C dL_law_467 rfl ?_
                  refine x_iload (pc := 469) C dL_law_469 rfl ?_
                  refine x_iald (pc := 471) (o := 214) C dL_law_471 (hI 214 rfl) ⟨rfl, rfl⟩ (show _ < 8 by omega) (by decide) ?_
                  refine x_iast (pc := 472) (o := 210) C dL_law_472 (hI 210 rfl) ⟨rfl, rfl⟩ (show _ < 8 by omega) (by decide) ?_
                  have c3 := c2.cw (by decide)
                  refine x_iload (pc := 473) C dL_law_473 rfl ?_
                  refine x_iconst (pc := 475) C (3) dL_law_475 (by decide) ?_
                  refine x_icmp_ge (pc := 476) (tgt := 489) C dL_law_476 (by decide) (fun h476 => ?_) (fun h476 => ?_)
                  · have i3 : 3 ≤ i := (nI_leI (a := 3) (b := i) (by decide) (by omega)).mp h476
                    have c4 := c3.d0 i3
                    refine y_iinc (pc := 489) C (nI (i + 1)) dL_law_489 rfl (by exact nI_1 i) (by decide) rfl ?_
                    refine x_goto (pc := 492) (tgt := 424) C dL_law_492 (by decide) ?_
                    exact ih2 (i + 1) _ (by omega) c4
                  · have i3 : i < 3 := Nat.lt_of_not_le fun z => h476 (nI_le (a := 3) (b := i) z (by omega))
                    refine x_aload (pc := 479) C dL_law_479 rfl ?_
                    refine x_iload (pc := 481) C dL_law_481 rfl ?_
                    refine x_aload (pc := 483) C dL_law_483 rfl ?_
                    refine x_iload (pc := 485) C dL_law_485 rfl ?_
                    refine x_iald (pc := 487) (o := 216) C dL_law_487 (hI 216 rfl) ⟨rfl, rfl⟩ (show _ < 3 by omega) (by decide) ?_
                    refine x_iast (pc := 488) (o := 212) C dL_law_488 (hI 212 rfl) ⟨rfl, rfl⟩ (show _ < 3 by omega) (by decide) ?_
                    have c4 := c3.dw (by decide)
                    refine y_iinc (pc := 489) C (nI (i + 1)) dL_law_489 rfl (by exact nI_1 i) (by decide) rfl ?_
                    refine x_goto (pc := 492) (tgt := 424) C dL_law_492 (by decide) ?_
                    exact ih2 (i + 1) _ (by omega) c4
              · have i30 : i < 30 := Nat.lt_of_not_le fun z => h445 (nI_le (a := 30) (b := i) z (by omega))
                refine x_aload_n (pc := 448) C dL_law_448 rfl ?_
                refine x_iload (pc := 449) C dL_law_449 rfl ?_
                refine x_aload (pc := 451) C dL_law_451 rfl ?_
                refine x_iload (pc := 453) C dL_law_453 rfl ?_
                refine x_iald (pc := 455) (o := 215) C dL_law_455 (hI 215 rfl) ⟨rfl, rfl⟩ (show _ < 30 by omega) (by decide) ?_
                refine x_iast (pc := 456) (o := 211) C dL_law_456 (hI 211 rfl) ⟨rfl, rfl⟩ (show _ < 30 by omega) (by decide) ?_
                have c2 := c1.bw (by decide)
                refine x_iload (pc := 457) C dL_law_457 rfl ?_
                refine x_bipush (pc := 459) C (8) dL_law_459 (by decide) ?_
                refine x_icmp_ge (pc := 461) (tgt := 473) C dL_law_461 (by decide) (fun h461 => ?_) (fun h461 => ?_)
                · have i8 : 8 ≤ i := (nI_leI (a := 8) (b := i) (by decide) (by omega)).mp h461
                  have c3 := c2.c0 i8
                  refine x_iload (pc := 473) C dL_law_473 rfl ?_
                  refine x_iconst (pc := 475) C (3) dL_law_475 (by decide) ?_
                  refine x_icmp_ge (pc := 476) (tgt := 489) C dL_law_476 (by decide) (fun h476 => ?_) (fun h476 => ?_)
                  · have i3 : 3 ≤ i := (nI_leI (a := 3) (b := i) (by decide) (by omega)).mp h476
                    have c4 := c3.d0 i3
                    refine y_iinc (pc := 489) C (nI (i + 1)) dL_law_489 rfl (by exact nI_1 i) (by decide) rfl ?_
                    refine x_goto (pc := 492) (tgt := 424) C dL_law_492 (by decide) ?_
                    exact ih2 (i + 1) _ (by omega) c4
                  · have i3 : i < 3 := Nat.lt_of_not_le fun z => h476 (nI_le (a := 3) (b := i) z (by omega))
                    refine x_aload (pc := 479) C dL_law_479 rfl ?_
                    refine x_iload (pc := 481) C dL_law_481 rfl ?_
                    refine x_aload (pc := 483) C dL_law_483 rfl ?_
                    refine x_iload (pc := 485) C dL_law_485 rfl ?_
                    refine x_iald (pc := 487) (o := 216) C dL_law_487 (hI 216 rfl) ⟨rfl, rfl⟩ (show _ < 3 by omega) (by decide) ?_
                    refine x_iast (pc := 488) (o := 212) C dL_law_488 (hI 212 rfl) ⟨rfl, rfl⟩ (show _ < 3 by omega) (by decide) ?_
                    have c4 := c3.dw (by decide)
                    refine y_iinc (pc := 489) C (nI (i + 1)) dL_law_489 rfl (by exact nI_1 i) (by decide) rfl ?_
                    refine x_goto (pc := 492) (tgt := 424) C dL_law_492 (by decide) ?_
                    exact ih2 (i + 1) _ (by omega) c4
                · have i8 : i < 8 := Nat.lt_of_not_le fun z => h461 (nI_le (a := 8) (b := i) z (by omega))
                  refine x_aload_n (pc := 464) C dL_law_464 rfl ?_
                  refine x_iload (pc := 465) C dL_law_465 rfl ?_
                  refine x_aload (pc := 467) C dL_law_467 rfl ?_
                  refine x_iload (pc := 469) C dL_law_469 rfl ?_
                  refine x_iald (pc := 471) (o := 214) C dL_law_471 (hI 214 rfl) ⟨rfl, rfl⟩ (show _ < 8 by omega) (by decide) ?_
                  refine x_iast (pc := 472) (o := 210) C dL_law_472 (hI 210 rfl) ⟨rfl, rfl⟩ (show _ < 8 by omega) (by decide) ?_
                  have c3 := c2.cw (by decide)
                  refine x_iload (pc := 473) C dL_law_473 rfl ?_
                  refine x_iconst (pc := 475) C (3) dL_law_475 (by decide) ?_
                  refine x_icmp_ge (pc := 476) (tgt := 489) C dL_law_476 (by decide) (fun h476 => ?_) (fun h476 => ?_)
                  · have i3 : 3 ≤ i := (nI_leI (a := 3) (b := i) (by decide) (by omega)).mp h476
                    have c4 := c3.d0 i3
                    refine y_iinc (pc := 489) C (nI (i + 1)) dL_law_489 rfl (by exact nI_1 i) (by decide) rfl ?_
                    refine x_goto (pc := 492) (tgt := 424) C dL_law_492 (by decide) ?_
                    exact ih2 (i + 1) _ (by omega) c4
                  · have i3 : i < 3 := Nat.lt_of_not_le fun z => h476 (nI_le (a := 3) (b := i) z (by omega))
                    refine x_aload (pc := 479) C dL_law_479 rfl ?_
                    refine x_iload (pc := 481) C dL_law_481 rfl ?_
                    refine x_aload (pc := 483) C dL_law_483 rfl ?_
                    refine x_iload (pc := 485) C dL_law_485 rfl ?_
                    refine x_iald (pc := 487) (o := 216) C dL_law_487 (hI 216 rfl) ⟨rfl, rfl⟩ (show _ < 3 by omega) (by decide) ?_
                    refine x_iast (pc := 488) (o := 212) C dL_law_488 (hI 212 rfl) ⟨rfl, rfl⟩ (show _ < 3 by omega) (by decide) ?_
                    have c4 := c3.dw (by decide)
                    refine y_iinc (pc := 489) C (nI (i + 1)) dL_law_489 rfl (by exact nI_1 i) (by decide) rfl ?_
                    refine x_goto (pc := 492) (tgt := 424) C dL_law_492 (by decide) ?_
                    exact ih2 (i + 1) _ (by omega) c4
    obtain ⟨n, o, l0, hX, hT, hw⟩ := id hL
    have hI := hX.2.2.1.1.1
    refine x_iload (pc := 197) C dL_law_197 rfl ?_
    refine x_bipush (pc := 199) C (24) dL_law_199 (by decide) ?_
    refine x_icmp_ge (pc := 201) (tgt := 559) C dL_law_201 (by decide) (fun h201 => absurd h201 (by exact nI_ge (a := t) (b := 24) (by omega) (by omega))) (fun h201 => ?_)
    refine x_aload_nq (pc := 204) C dL_law_204 rfl ?_
    refine x_iconst (pc := 205) C (2) dL_law_205 (by decide) ?_
    refine x_iload (pc := 206) C dL_law_206 rfl ?_
    refine x_imul (pc := 208) C dL_law_208 ?_
    refine x_topi (nI (2 * t)) (pk_mul (2) (t)) ?_
    refine x_callTS (pc := 209) (st := []) (As := [aQ bq, aI (nI (2 * t))]) C hsc s_L_130 dL_law_209 (c_L_cell hlen (k := 2 * t) (by omega)) rfl (by decide) (okG_s (J := []) (fun _ h => nomatch h) rfl) (by decide) ⟨by omega, by omega⟩ (fun X V1 L1 N1 I1 h => by obtain ⟨⟨v, hv⟩, _⟩ := h; cases hv) (fun r1 V1 L1 N1 I1 h => ?_)
    obtain ⟨⟨v1, hv⟩, e1, e2, e3, e4⟩ := h
    cases hv
    rw [e1, e2, e3, e4]
    refine x_ldc (pc := 212) C (v := 2147483647) (u0_in 739 (by decide +kernel) rfl) dL_law_212 ?_
    refine x_iand (pc := 214) C dL_law_214 ?_
    refine y_istore (pc := 215) C dL_law_215 (by decide) rfl ?_
    refine x_aload_nq (pc := 217) C dL_law_217 rfl ?_
    refine x_iconst (pc := 218) C (2) dL_law_218 (by decide) ?_
    refine x_iload (pc := 219) C dL_law_219 rfl ?_
    refine x_imul (pc := 221) C dL_law_221 ?_
    refine x_topi (nI (2 * t)) (pk_mul (2) (t)) ?_
    refine x_iconst (pc := 222) C (1) dL_law_222 (by decide) ?_
    refine x_iadd (pc := 223) C dL_law_223 ?_
    refine x_topi (nI (2 * t + 1)) (nI_add (2 * t) (1)) ?_
    refine x_callTS (pc := 224) (st := []) (As := [aQ bq, aI (nI (2 * t + 1))]) C hsc s_L_130 dL_law_224 (c_L_cell hlen (k := 2 * t + 1) (by omega)) rfl (by decide) (okG_s (J := []) (fun _ h => nomatch h) rfl) (by decide) ⟨by omega, by omega⟩ (fun X V1 L1 N1 I1 h => by obtain ⟨⟨v, hv⟩, _⟩ := h; cases hv) (fun r1 V1 L1 N1 I1 h => ?_)
    obtain ⟨⟨v2, hv⟩, e1, e2, e3, e4⟩ := h
    cases hv
    rw [e1, e2, e3, e4]
    refine x_ldc (pc := 227) C (v := 2147483647) (u0_in 739 (by decide +kernel) rfl) dL_law_227 ?_
    refine x_iand (pc := 229) C dL_law_229 ?_
    refine y_istore (pc := 230) C dL_law_230 (by decide) rfl ?_
    refine x_aload_n (pc := 232) C dL_law_232 rfl ?_
    refine x_bipush (pc := 233) C (6) dL_law_233 (by decide) ?_
    refine x_aV1 (pc := 235) (o := 0) C [] (fun _ h => nomatch h) v_L_64 dL_law_235 (k_count hI ⟨hX.1, hX.2.1⟩ (hX.2.2.1.2.2.2.1.trans hX.2.2.2.2.1.symm) (w := 6) (by decide)) (hI 0 rfl) rfl (by decide) rfl ⟨by omega, by omega⟩ (fun Va qa => ?_)
    refine x_topi (nI m) (show V 200 2 = nI m from hX.2.2.2.2.1) ?_
    refine y_istore (pc := 238) C dL_law_238 (by decide) rfl ?_
    refine x_iconst (pc := 240) C (0) dL_law_240 (by decide) ?_
    refine y_istore (pc := 241) C dL_law_241 (by decide) rfl ?_
    refine x_wid (a' := a0 + 1000 * t + 1) (b' := b0 + 13000 * t + 6) (by omega) (by omega) ?_
    suffices keyk : ∀ (k i : Nat) (M : VV), k + i = 63 → (Cp 210 214 Va M i i i i) → Wx E 243 [some (aQ bq), some (aR 0), some (aR 210), some (aR 211), some (aR 212), some (aR 213), some (aR 214), some (aR 215), some (aR 216), some (aR 217), some (aI (nI (t))), some (aI (v1 &&& 2147483647)), some (aI (v2 &&& 2147483647)), some (aI (nI (m))), some (aI (nI (i))), none] [] M L N I (a0 + 1000 * t + 1) (b0 + 13000 * t + 6) by
      exact keyk (63) (0) _ (by omega) (cp_0)
    intro k
    induction k with
    | zero =>
      intro i M hk hc2
      refine x_iload (pc := 243) C dL_law_243 rfl ?_
      refine x_bipush (pc := 245) C (63) dL_law_245 (by decide) ?_
      refine x_icmp_ge (pc := 247) (tgt := 314) C dL_law_247 (by decide) (fun h247 => ?_) (fun h247 => absurd (by exact nI_le (a := 63) (b := i) (by omega) (by omega)) h247)
      obtain rfl : i = 63 := by omega
      refine x_aload_n (pc := 314) C dL_law_314 rfl ?_
      refine x_iload (pc := 315) C dL_law_315 rfl ?_
      refine x_iconst (pc := 317) C (4) dL_law_317 (by decide) ?_
      refine x_icmp_ge (pc := 318) (tgt := 325) C dL_law_318 (by decide) (fun h318 => ?_) (fun h318 => ?_)
      · refine x_iload (pc := 325) C dL_law_325 rfl ?_
        refine x_bipush (pc := 327) C (13) dL_law_327 (by decide) ?_
        refine x_ishr (pc := 329) C dL_law_329 ?_
        refine x_bipush (pc := 330) C (16) dL_law_330 (by decide) ?_
        refine x_gS2 (pc := 332) C [] (fun _ h => nomatch h) s_L_47 dL_law_332 (c_L_at _ 16 (by decide)) (by decide) rfl ⟨by omega, by omega⟩ ?_
        refine x_fgt 14 ?_
        exact J335 _ _ _ _ _ (hL.sq qa) hc2
      · refine x_iconst (pc := 321) C (0) dL_law_321 (by decide) ?_
        refine x_goto (pc := 322) (tgt := 335) C dL_law_322 (by decide) ?_
        refine x_fgt 14 ?_
        exact J335 _ _ _ _ _ (hL.sq qa) hc2
    | succ k ih2 =>
      intro i M hk hc2
      refine x_iload (pc := 243) C dL_law_243 rfl ?_
      refine x_bipush (pc := 245) C (63) dL_law_245 (by decide) ?_
      refine x_icmp_ge (pc := 247) (tgt := 314) C dL_law_247 (by decide) (fun h247 => absurd h247 (by exact nI_ge (a := i) (b := 63) (by omega) (by omega))) (fun h247 => ?_)
      refine x_aload (pc := 250) C dL_law_250 rfl ?_
      refine x_iload (pc := 252) C dL_law_252 rfl ?_
      refine x_aload (pc := 254) C dL_law_254 rfl ?_
      refine x_iload (pc := 256) C dL_law_256 rfl ?_
      refine x_iald (pc := 258) (o := 213) C dL_law_258 (hI 213 rfl) ⟨rfl, rfl⟩ (show _ < 63 by omega) (by decide) ?_
      refine x_iast (pc := 259) (o := 217) C dL_law_259 (hI 217 rfl) ⟨rfl, rfl⟩ (show _ < 63 by omega) (by decide) ?_
      have c1 := hc2.aw (by decide)
      refine x_iload (pc := 260) C dL_law_260 rfl ?_
      refine x_bipush (pc := 262) C (30) dL_law_262 (by decide) ?_
      refine x_icmp_ge (pc := 264) (tgt := 276) C dL_law_264 (by decide) (fun h264 => ?_) (fun h264 => ?_)
      · have i30 : 30 ≤ i := (nI_leI (a := 30) (b := i) (by decide) (by omega)).mp h264
        have c2 := c1.b0 i30
        refine x_iload (pc := 276) C dL_law_276 rfl ?_
        refine x_bipush (pc := 278) C (8) dL_law_278 (by decide) ?_
        refine x_icmp_ge (pc := 280) (tgt := 292) C dL_law_280 (by decide) (fun h280 => ?_) (fun h280 => ?_)
        · have i8 : 8 ≤ i := (nI_leI (a := 8) (b := i) (by decide) (by omega)).mp h280
          have c3 := c2.c0 i8
          refine x_iload (pc := 292) C dL_law_292 rfl ?_
          refine x_iconst (pc := 294) C (3) dL_law_294 (by decide) ?_
          refine x_icmp_ge (pc := 295) (tgt := 308) C dL_law_295 (by decide) (fun h295 => ?_) (fun h295 => ?_)
          · have i3 : 3 ≤ i := (nI_leI (a := 3) (b := i) (by decide) (by omega)).mp h295
            have c4 := c3.d0 i3
            refine y_iinc (pc := 308) C (nI (i + 1)) dL_law_308 rfl (by exact nI_1 i) (by decide) rfl ?_
            refine x_goto (pc := 311) (tgt := 243) C dL_law_311 (by decide) ?_
            exact ih2 (i + 1) _ (by omega) c4
          · have i3 : i < 3 := Nat.lt_of_not_le fun z => h295 (nI_le (a := 3) (b := i) z (by omega))
            refine x_aload (pc := 298) C dL_law_298 rfl ?_
            refine x_iload (pc := 300) C dL_law_300 rfl ?_
            refine x_aload (pc := 302) C dL_law_302 rfl ?_
            refine x_iload (pc := 304) C dL_law_304 rfl ?_
            refine x_iald (pc := 306) (o := 212) C dL_law_306 (hI 212 rfl) ⟨rfl, rfl⟩ (show _ < 3 by omega) (by decide) ?_
            refine x_iast (pc := 307) (o := 216) C dL_law_307 (hI 216 rfl) ⟨rfl, rfl⟩ (show _ < 3 by omega) (by decide) ?_
            have c4 := c3.dw (by decide)
            refine y_iinc (pc := 308) C (nI (i + 1)) dL_law_308 rfl (by exact nI_1 i) (by decide) rfl ?_
            refine x_goto (pc := 311) (tgt := 243) C dL_law_311 (by decide) ?_
            exact ih2 (i + 1) _ (by omega) c4
        · have i8 : i < 8 := Nat.lt_of_not_le fun z => h280 (nI_le (a := 8) (b := i) z (by omega))
          refine x_aload (pc := 283) C dL_law_283 rfl ?_
          refine x_iload (pc := 285) C dL_law_285 rfl ?_
          refine x_aload_n (pc := 287) C dL_law_287 rfl ?_
          refine x_iload (pc := 288) C dL_law_288 rfl ?_
          refine x_iald (pc := 290) (o := 210) C dL_law_290 (hI 210 rfl) ⟨rfl, rfl⟩ (show _ < 8 by omega) (by decide) ?_
          refine x_iast (pc := 291) (o := 214) C dL_law_291 (hI 214 rfl) ⟨rfl, rfl⟩ (show _ < 8 by omega) (by decide) ?_
          have c3 := c2.cw (by decide)
          refine x_iload (pc := 292) C dL_law_292 rfl ?_
          refine x_iconst (pc := 294) C (3) dL_law_294 (by decide) ?_
          refine x_icmp_ge (pc := 295) (tgt := 308) C dL_law_295 (by decide) (fun h295 => ?_) (fun h295 => ?_)
          · have i3 : 3 ≤ i := (nI_leI (a := 3) (b := i) (by decide) (by omega)).mp h295
            have c4 := c3.d0 i3
            refine y_iinc (pc := 308) C (nI (i + 1)) dL_law_308 rfl (by exact nI_1 i) (by decide) rfl ?_
            refine x_goto (pc := 311) (tgt := 243) C dL_law_311 (by decide) ?_
            exact ih2 (i + 1) _ (by omega) c4
          · have i3 : i < 3 := Nat.lt_of_not_le fun z => h295 (nI_le (a := 3) (b := i) z (by omega))
            refine x_aload (pc := 298) C dL_law_298 rfl ?_
            refine x_iload (pc := 300) C dL_law_300 rfl ?_
            refine x_aload (pc := 302) C dL_law_302 rfl ?_
            refine x_iload (pc := 304) C dL_law_304 rfl ?_
            refine x_iald (pc := 306) (o := 212) C dL_law_306 (hI 212 rfl) ⟨rfl, rfl⟩ (show _ < 3 by omega) (by decide) ?_
            refine x_iast (pc := 307) (o := 216) C dL_law_307 (hI 216 rfl) ⟨rfl, rfl⟩ (show _ < 3 by omega) (by decide) ?_
            have c4 := c3.dw (by decide)
            refine y_iinc (pc := 308) C (nI (i + 1)) dL_law_308 rfl (by exact nI_1 i) (by decide) rfl ?_
            refine x_goto (pc := 311) (tgt := 243) C dL_law_311 (by decide) ?_
            exact ih2 (i + 1) _ (by omega) c4
      · have i30 : i < 30 := Nat.lt_of_not_le fun z => h264 (nI_le (a := 30) (b := i) z (by omega))
        refine x_aload (pc := 267) C dL_law_267 rfl ?_
        refine x_iload (pc := 269) C dL_law_269 rfl ?_
        refine x_aload_n (pc := 271) C dL_law_271 rfl ?_
        refine x_iload (pc := 272) C dL_law_272 rfl ?_
        refine x_iald (pc := 274) (o := 211) C dL_law_274 (hI 211 rfl) ⟨rfl, rfl⟩ (show _ < 30 by omega) (by decide) ?_
        refine x_iast (pc := 275) (o := 215) C dL_law_275 (hI 215 rfl) ⟨rfl, rfl⟩ (show _ < 30 by omega) (by decide) ?_
        have c2 := c1.bw (by decide)
        refine x_iload (pc := 276) C dL_law_276 rfl ?_
        refine x_bipush (pc := 278) C (8) dL_law_278 (by decide) ?_
        refine x_icmp_ge (pc := 280) (tgt := 292) C dL_law_280 (by decide) (fun h280 => ?_) (fun h280 => ?_)
        · have i8 : 8 ≤ i := (nI_leI (a := 8) (b := i) (by decide) (by omega)).mp h280
          have c3 := c2.c0 i8
          refine x_iload (pc := 292) C dL_law_292 rfl ?_
          refine x_iconst (pc := 294) C (3) dL_law_294 (by decide) ?_
          refine x_icmp_ge (pc := 295) (tgt := 308) C dL_law_295 (by decide) (fun h295 => ?_) (fun h295 => ?_)
          · have i3 : 3 ≤ i := (nI_leI (a := 3) (b := i) (by decide) (by omega)).mp h295
            have c4 := c3.d0 i3
            refine y_iinc (pc := 308) C (nI (i + 1)) dL_law_308 rfl (by exact nI_1 i) (by decide) rfl ?_
            refine x_goto (pc := 311) (tgt := 243) C dL_law_311 (by decide) ?_
            exact ih2 (i + 1) _ (by omega) c4
          · have i3 : i < 3 := Nat.lt_of_not_le fun z => h295 (nI_le (a := 3) (b := i) z (by omega))
            refine x_aload (pc := 298) C dL_law_298 rfl ?_
            refine x_iload (pc := 300) C dL_law_300 rfl ?_
            refine x_aload (pc := 302) C dL_law_302 rfl ?_
            refine x_iload (pc := 304) C dL_law_304 rfl ?_
            refine x_iald (pc := 306) (o := 212) C dL_law_306 (hI 212 rfl) ⟨rfl, rfl⟩ (show _ < 3 by omega) (by decide) ?_
            refine x_iast (pc := 307) (o := 216) C dL_law_307 (hI 216 rfl) ⟨rfl, rfl⟩ (show _ < 3 by omega) (by decide) ?_
            have c4 := c3.dw (by decide)
            refine y_iinc (pc := 308) C (nI (i + 1)) dL_law_308 rfl (by exact nI_1 i) (by decide) rfl ?_
            refine x_goto (pc := 311) (tgt := 243) C dL_law_311 (by decide) ?_
            exact ih2 (i + 1) _ (by omega) c4
        · have i8 : i < 8 := Nat.lt_of_not_le fun z => h280 (nI_le (a := 8) (b := i) z (by omega))
          refine x_aload (pc := 283) C dL_law_283 rfl ?_
          refine x_iload (pc := 285) C dL_law_285 rfl ?_
          refine x_aload_n (pc := 287) C dL_law_287 rfl ?_
          refine x_iload (pc := 288) C dL_law_288 rfl ?_
          refine x_iald (pc := 290) (o := 210) C dL_law_290 (hI 210 rfl) ⟨rfl, rfl⟩ (show _ < 8 by omega) (by decide) ?_
          refine x_iast (pc := 291) (o := 214) C dL_law_291 (hI 214 rfl) ⟨rfl, rfl⟩ (show _ < 8 by omega) (by decide) ?_
          have c3 := c2.cw (by decide)
          refine x_iload (pc := 292) C dL_law_292 rfl ?_
          refine x_iconst (pc := 294) C (3) dL_law_294 (by decide) ?_
          refine x_icmp_ge (pc := 295) (tgt := 308) C dL_law_295 (by decide) (fun h295 => ?_) (fun h295 => ?_)
          · have i3 : 3 ≤ i := (nI_leI (a := 3) (b := i) (by decide) (by omega)).mp h295
            have c4 := c3.d0 i3
            refine y_iinc (pc := 308) C (nI (i + 1)) dL_law_308 rfl (by exact nI_1 i) (by decide) rfl ?_
            refine x_goto (pc := 311) (tgt := 243) C dL_law_311 (by decide) ?_
            exact ih2 (i + 1) _ (by omega) c4
          · have i3 : i < 3 := Nat.lt_of_not_le fun z => h295 (nI_le (a := 3) (b := i) z (by omega))
            refine x_aload (pc := 298) C dL_law_298 rfl ?_
            refine x_iload (pc := 300) C dL_law_300 rfl ?_
            refine x_aload (pc := 302) C dL_law_302 rfl ?_
            refine x_iload (pc := 304) C dL_law_304 rfl ?_
            refine x_iald (pc := 306) (o := 212) C dL_law_306 (hI 212 rfl) ⟨rfl, rfl⟩ (show _ < 3 by omega) (by decide) ?_
            refine x_iast (pc := 307) (o := 216) C dL_law_307 (hI 216 rfl) ⟨rfl, rfl⟩ (show _ < 3 by omega) (by decide) ?_
            have c4 := c3.dw (by decide)
            refine y_iinc (pc := 308) C (nI (i + 1)) dL_law_308 rfl (by exact nI_1 i) (by decide) rfl ?_
            refine x_goto (pc := 311) (tgt := 243) C dL_law_311 (by decide) ?_
            exact ih2 (i + 1) _ (by omega) c4
