set_option maxRecDepth 100000 in
set_option maxHeartbeats 4000000 in
theorem c_L_told {l : Launch} {V : VV} {L : LL} {N : NN} {I : List Nat} (hI : PI I) (hx : ∀ i, 218 ≤ i → i ∉ I) {n T : Nat} (hP : PR V n) (ht : Tie V n T) (h6 : V 1 2 = V 200 2) (x : Int32) : Runs l 9 269 2870 yL_told (Cond.code yL_told cL_told 15 (some .boolean)) [aR 0, aI x, aR 210, aR 211, aR 212, aR 213] V L N I (Pm (some (aI 1)) (Sq V) L N I) := by
  refine run_of RL (by decide +kernel) rfl (Nat.le_of_ble_eq_true rfl) (fun E hE C hQ hN => ?_)
  subst hE
  have hE219 : ¬ eI E 219 := by rw [hQ.2]; exact fun q => q.elim (fun e => absurd e (by decide)) (fun e => hx 219 (by omega) e)
  have hE221 : ¬ eI E 221 := by rw [hQ.2]; exact fun q => q.elim (fun e => absurd e (by decide)) (fun e => hx 221 (by omega) e)
  have hPI := hI
  have hn6 := ht.n6
  have hsb : ∀ s, s < n → ShB (RF V) s := hP.2.2.2.2.1
  refine x_bipush (pc := 0) C (28) dL_told_0 (by decide) ?_
  refine x_topi (nI 28) (by decide) ?_
  refine x_newA (pc := 2) C 219 (Or.inr (Or.inl rfl)) rfl (hx 219 (by omega)) [] (fun _ h => nomatch h) dL_told_2 rfl ⟨by decide, by decide⟩ ?_
  refine y_astore (pc := 4) C dL_told_4 (by decide) rfl ?_
  refine x_bipush (pc := 6) C (8) dL_told_6 (by decide) ?_
  refine x_topi (nI 8) (by decide) ?_
  refine x_newA (pc := 8) C 221 (Or.inr (Or.inr rfl)) rfl (fun z => (List.mem_append.mp z).elim (hx 221 (by omega)) (fun z => absurd (List.mem_singleton.mp z) (by decide))) [219] (fun j h => List.mem_append_right _ h) dL_told_8 rfl ⟨by decide, by decide⟩ ?_
  have hI : PI (I ++ [219] ++ [221]) := fun i h => List.mem_append_left _ (List.mem_append_left _ (hPI i h))
  have h219 : 219 ∈ (I ++ [219] ++ [221]) := List.mem_append_left _ (List.mem_append_right _ List.mem_cons_self)
  have h221 : 221 ∈ (I ++ [219] ++ [221]) := List.mem_append_right _ List.mem_cons_self
  have hJ : ∀ j, j ∈ [219, 221] → j ∈ (I ++ [219] ++ [221]) := fun j h => (List.mem_cons.mp h).elim (fun z => by rw [z]; exact h219) (fun z => by rw [List.mem_singleton.mp z]; exact h221)
  have h218 : 218 ∉ (I ++ [219] ++ [221]) := fun z => (List.mem_append.mp z).elim (fun z => (List.mem_append.mp z).elim (hx 218 (by omega)) (fun z => absurd (List.mem_singleton.mp z) (by decide))) (fun z => absurd (List.mem_singleton.mp z) (by decide))
  refine y_astore (pc := 10) C dL_told_10 (by decide) rfl ?_
  refine x_iconst (pc := 12) C (0) dL_told_12 (by decide) ?_
  refine y_istore (pc := 13) C dL_told_13 (by decide) rfl ?_
  refine x_iconst (pc := 15) C (0) dL_told_15 (by decide) ?_
  refine y_istore (pc := 16) C dL_told_16 (by decide) rfl ?_
  refine x_iconst (pc := 18) C (0) dL_told_18 (by decide) ?_
  refine y_istore (pc := 19) C dL_told_19 (by decide) rfl ?_
  have t0 := ti_0 (V := V) (n := n) hsb
  suffices keyk : ∀ (k i : Nat) (V1 : VV), k + i = 7 → (TI V V1 n (fun s => (RF V 2 s).toInt < ((i : Nat) : Int)) (fun k => wkN V n k i)) → Wx E 21 [some (aR 0), some (aI x), some (aR 210), some (aR 211), some (aR 212), some (aR 213), some (aR 219), some (aR 221), some (aI 0), some (aI 0), some (aI (nI (i))), none, none, none, none] [] V1 L N (I ++ [219] ++ [221]) (2 + 18 * i) (36 + 284 * i) by
    exact keyk (7) (0) _ (by omega) (t0)
  intro k
  induction k with
  | zero =>
    intro i V1 hk ti
    refine x_iload (pc := 21) C dL_told_21 rfl ?_
    refine x_bipush (pc := 23) C (7) dL_told_23 (by decide) ?_
    refine x_icmp_ge (pc := 25) (tgt := 163) C dL_told_25 (by decide) (fun h25 => ?_) (fun h25 => absurd (by exact nI_le (a := 7) (b := i) (by omega) (by omega)) h25)
    refine x_fgt 10 ?_
    refine x_fgt 11 ?_
    refine x_fgt 12 ?_
    refine x_fgt 13 ?_
    refine x_fgt 14 ?_
    obtain rfl : i = 7 := by omega
    refine x_wid (a' := 128) (b' := 2024) (by omega) (by omega) ?_
    clear hk
    have J637 : ∀ (Va : VV) (lv rp : Int32), TI V Va n (fun s => (RF V 2 s).toInt < ((7 : Nat) : Int)) (fun k => wkN V n k 7) → lv = cntS (RF V) 0 n 0 → rp = cntS (RF V) 0 n 2 → Wx E 637 [some (aR 0), some (aI x), some (aR 210), some (aR 211), some (aR 212), some (aR 213), some (aR 219), some (aR 221), some (aI lv), some (aI rp), none, none, none, none, none] [] Va L N (I ++ [219] ++ [221]) 262 2828 := by
      intro Va lv rp ta hlv hrp
      have sk := sh_ok hP.1 hP.2
      refine x_aload_n (pc := 637) C dL_told_637 rfl ?_
      refine x_iconst (pc := 638) C (0) dL_told_638 (by decide) ?_
      refine x_aV1 (pc := 639) (o := 0) C [219, 221] hJ v_L_64 dL_told_639 (t_count hI hP h6 ta.1 (w := 0) (by omega)) (hI 0 rfl) rfl (by decide) rfl ⟨by omega, by omega⟩ (fun M1 q1 => ?_)
      have t1 := ta.sq q1
      refine x_topi (V 201 38) (rfl) ?_
      refine x_aload (pc := 642) C dL_told_642 rfl ?_
      refine x_iconst (pc := 644) C (0) dL_told_644 (by decide) ?_
      refine x_topi (nI 0) (by decide) ?_
      refine x_iald (pc := 645) (o := 212) C dL_told_645 (hI 212 rfl) ⟨rfl, rfl⟩ (show _ < 3 by decide) (by decide) ?_
      refine x_topi (V 201 38) ((congrFun (t1.1 212 (by decide) (by decide)) _).trans ht.2.2.2.1) ?_
      refine x_icmp_ne (pc := 646) (tgt := 729) C dL_told_646 (by decide) (fun h646 => absurd (by first | rfl | exact hlv.symm | exact hrp.symm) h646) (fun h646 => ?_)
      refine x_aload_n (pc := 649) C dL_told_649 rfl ?_
      refine x_iconst (pc := 650) C (1) dL_told_650 (by decide) ?_
      refine x_aV1 (pc := 651) (o := 0) C [219, 221] hJ v_L_64 dL_told_651 (t_count hI hP h6 t1.1 (w := 1) (by omega)) (hI 0 rfl) rfl (by decide) rfl ⟨by omega, by omega⟩ (fun M2 q2 => ?_)
      have t2 := t1.sq q2
      refine x_topi (nI n) (hP.2.2.1) ?_
      refine x_aload (pc := 654) C dL_told_654 rfl ?_
      refine x_iconst (pc := 656) C (1) dL_told_656 (by decide) ?_
      refine x_topi (nI 1) (by decide) ?_
      refine x_iald (pc := 657) (o := 212) C dL_told_657 (hI 212 rfl) ⟨rfl, rfl⟩ (show _ < 3 by decide) (by decide) ?_
      refine x_topi (nI n) ((congrFun (t2.1 212 (by decide) (by decide)) 1).trans ht.d1) ?_
      refine x_icmp_ne (pc := 658) (tgt := 729) C dL_told_658 (by decide) (fun h658 => absurd (by first | rfl | exact hlv.symm | exact hrp.symm) h658) (fun h658 => ?_)
      refine x_aload_n (pc := 661) C dL_told_661 rfl ?_
      refine x_iconst (pc := 662) C (2) dL_told_662 (by decide) ?_
      refine x_aV1 (pc := 663) (o := 0) C [219, 221] hJ v_L_64 dL_told_663 (t_count hI hP h6 t2.1 (w := 2) (by omega)) (hI 0 rfl) rfl (by decide) rfl ⟨by omega, by omega⟩ (fun M3 q3 => ?_)
      have t3 := t2.sq q3
      refine x_topi (cntS (RF V) 0 n 0) (rfl) ?_
      refine x_iload (pc := 666) C dL_told_666 rfl ?_
      refine x_icmp_ne (pc := 668) (tgt := 729) C dL_told_668 (by decide) (fun h668 => absurd (by first | rfl | exact hlv.symm | exact hrp.symm) h668) (fun h668 => ?_)
      refine x_aload_n (pc := 671) C dL_told_671 rfl ?_
      refine x_iconst (pc := 672) C (3) dL_told_672 (by decide) ?_
      refine x_aV1 (pc := 673) (o := 0) C [219, 221] hJ v_L_64 dL_told_673 (t_count hI hP h6 t3.1 (w := 3) (by omega)) (hI 0 rfl) rfl (by decide) rfl ⟨by omega, by omega⟩ (fun M4 q4 => ?_)
      have t4 := t3.sq q4
      refine x_topi (cntS (RF V) 0 n 2) (rfl) ?_
      refine x_iload (pc := 676) C dL_told_676 rfl ?_
      refine x_icmp_ne (pc := 678) (tgt := 729) C dL_told_678 (by decide) (fun h678 => absurd (by first | rfl | exact hlv.symm | exact hrp.symm) h678) (fun h678 => ?_)
      refine x_aload_n (pc := 681) C dL_told_681 rfl ?_
      refine x_iconst (pc := 682) C (4) dL_told_682 (by decide) ?_
      refine x_aV1 (pc := 683) (o := 0) C [219, 221] hJ v_L_64 dL_told_683 (t_count hI hP h6 t4.1 (w := 4) (by omega)) (hI 0 rfl) rfl (by decide) rfl ⟨by omega, by omega⟩ (fun M5 q5 => ?_)
      have t5 := t4.sq q5
      refine x_topi (wkN V n 3 7) (rfl) ?_
      refine x_aload (pc := 686) C dL_told_686 rfl ?_
      refine x_iconst (pc := 688) C (3) dL_told_688 (by decide) ?_
      refine x_topi (nI 3) (by decide) ?_
      refine x_iald (pc := 689) (o := 221) C dL_told_689 h221 ⟨rfl, rfl⟩ (show _ < 8 by decide) (by decide) ?_
      refine x_topi (wkN V n 3 7) (t5.2.2 _ (by decide)) ?_
      refine x_icmp_ne (pc := 690) (tgt := 729) C dL_told_690 (by decide) (fun h690 => absurd (by first | rfl | exact hlv.symm | exact hrp.symm) h690) (fun h690 => ?_)
      refine x_aload_n (pc := 693) C dL_told_693 rfl ?_
      refine x_iconst (pc := 694) C (5) dL_told_694 (by decide) ?_
      refine x_aV1 (pc := 695) (o := 0) C [219, 221] hJ v_L_64 dL_told_695 (t_count hI hP h6 t5.1 (w := 5) (by omega)) (hI 0 rfl) rfl (by decide) rfl ⟨by omega, by omega⟩ (fun M6 q6 => ?_)
      have t6 := t5.sq q6
      refine x_topi (wkN V n 4 7) (rfl) ?_
      refine x_aload (pc := 698) C dL_told_698 rfl ?_
      refine x_iconst (pc := 700) C (4) dL_told_700 (by decide) ?_
      refine x_topi (nI 4) (by decide) ?_
      refine x_iald (pc := 701) (o := 221) C dL_told_701 h221 ⟨rfl, rfl⟩ (show _ < 8 by decide) (by decide) ?_
      refine x_topi (wkN V n 4 7) (t6.2.2 _ (by decide)) ?_
      refine x_icmp_ne (pc := 702) (tgt := 729) C dL_told_702 (by decide) (fun h702 => absurd (by first | rfl | exact hlv.symm | exact hrp.symm) h702) (fun h702 => ?_)
      refine x_aload_n (pc := 705) C dL_told_705 rfl ?_
      refine x_bipush (pc := 706) C (7) dL_told_706 (by decide) ?_
      refine x_aV1 (pc := 708) (o := 0) C [219, 221] hJ v_L_64 dL_told_708 (t_count hI hP h6 t6.1 (w := 7) (by omega)) (hI 0 rfl) rfl (by decide) rfl ⟨by omega, by omega⟩ (fun M7 q7 => ?_)
      have t7 := t6.sq q7
      refine x_topi (wkN V n 2 7) (rfl) ?_
      refine x_aload (pc := 711) C dL_told_711 rfl ?_
      refine x_iconst (pc := 713) C (2) dL_told_713 (by decide) ?_
      refine x_topi (nI 2) (by decide) ?_
      refine x_iald (pc := 714) (o := 221) C dL_told_714 h221 ⟨rfl, rfl⟩ (show _ < 8 by decide) (by decide) ?_
      refine x_topi (wkN V n 2 7) (t7.2.2 _ (by decide)) ?_
      refine x_icmp_ne (pc := 715) (tgt := 729) C dL_told_715 (by decide) (fun h715 => absurd (by first | rfl | exact hlv.symm | exact hrp.symm) h715) (fun h715 => ?_)
      refine x_aload_n (pc := 718) C dL_told_718 rfl ?_
      refine x_aV0 (pc := 719) (o := 0) C [219, 221] hJ v_L_67 dL_told_719 (t_reason hI t7.1) (hI 0 rfl) rfl (by decide) rfl ⟨by omega, by omega⟩ (fun M8 q8 => ?_)
      have t8 := t7.sq q8
      refine x_aload (pc := 722) C dL_told_722 rfl ?_
      refine x_iconst (pc := 724) C (2) dL_told_724 (by decide) ?_
      refine x_topi (nI 2) (by decide) ?_
      refine x_iald (pc := 725) (o := 212) C dL_told_725 (hI 212 rfl) ⟨rfl, rfl⟩ (show _ < 3 by decide) (by decide) ?_
      refine x_topi (V 0 6) ((congrFun (t8.1 212 (by decide) (by decide)) _).trans ht.2.2.2.2.1) ?_
      refine x_icmp_eq (pc := 726) (tgt := 731) C dL_told_726 (by decide) (fun h726 => ?_) (fun h726 => absurd (by rfl) h726)
      refine x_aload_n (pc := 731) C dL_told_731 rfl ?_
      refine x_aV0 (pc := 732) (o := 0) C [219, 221] hJ v_L_71 dL_told_732 (t_share hI hP t8.1) (hI 0 rfl) rfl (by decide) rfl ⟨by omega, by omega⟩ (fun M9 q9 => ?_)
      have t9 := t8.sq q9
      refine x_dconst1 (pc := 735) C dL_told_735 ?_
      refine x_aload (pc := 736) C dL_told_736 rfl ?_
      refine x_iconst (pc := 738) C (2) dL_told_738 (by decide) ?_
      refine x_topi (nI 2) (by decide) ?_
      refine x_iald (pc := 739) (o := 221) C dL_told_739 h221 ⟨rfl, rfl⟩ (show _ < 8 by decide) (by decide) ?_
      refine x_topi (wkN V n 2 7) (t9.2.2 _ (by decide)) ?_
      refine x_i2d (pc := 740) C dL_told_740 ?_
      refine x_dmul (pc := 741) C dL_told_741 (sk.1) ?_
      refine x_bipush (pc := 742) C (7) dL_told_742 (by decide) ?_
      refine x_aload_n (pc := 744) C dL_told_744 rfl ?_
      refine x_iconst (pc := 745) C (1) dL_told_745 (by decide) ?_
      refine x_topi (nI 1) (by decide) ?_
      refine x_iald (pc := 746) (o := 210) C dL_told_746 (hI 210 rfl) ⟨rfl, rfl⟩ (show _ < 8 by decide) (by decide) ?_
      refine x_topi (V 201 1) ((congrFun (t9.1 210 (by decide) (by decide)) _).trans (ht.se _ (by omega))) ?_
      refine x_aload_n (pc := 747) C dL_told_747 rfl ?_
      refine x_iconst (pc := 748) C (0) dL_told_748 (by decide) ?_
      refine x_topi (nI 0) (by decide) ?_
      refine x_iald (pc := 749) (o := 210) C dL_told_749 (hI 210 rfl) ⟨rfl, rfl⟩ (show _ < 8 by decide) (by decide) ?_
      refine x_topi (V 201 0) ((congrFun (t9.1 210 (by decide) (by decide)) _).trans (ht.se _ (by omega))) ?_
      refine x_isub (pc := 750) C dL_told_750 ?_
      refine x_imul (pc := 751) C dL_told_751 ?_
      refine x_i2d (pc := 752) C dL_told_752 ?_
      refine x_ddiv (pc := 753) C dL_told_753 (sk.2.1) ?_
      refine x_dcmp (pc := 754) C dL_told_754 ?_
      refine x_if_ne (pc := 755) (tgt := 762) C dL_told_755 (by decide) (fun h755 => absurd (by exact sk.2.2.1) h755) (fun h755 => ?_)
      refine x_iconst (pc := 758) C (1) dL_told_758 (by decide) ?_
      refine x_goto (pc := 759) (tgt := 763) C dL_told_759 (by decide) ?_
      refine x_drop (x := 221) hE221 ?_
      refine x_drop (x := 219) hE219 ?_
      refine x_vcg (V' := bakV V M9) (fun i hi => by unfold bakV; rw [if_neg (fun z => hx i z.1 hi)]) ?_
      exact x_zret (pc := 763) C hQ dL_told_763 (by decide) (pm_i rfl (bak_sq t9.1)) (Nat.le_of_ble_eq_true rfl) (Nat.le_of_ble_eq_true rfl)
    have J606 : ∀ (Va : VV) (lv rp : Int32), TI V Va n (fun s => (RF V 2 s).toInt < ((7 : Nat) : Int)) (fun k => wkN V n k 7) → lv = cntS (RF V) 0 n 0 → rp = cntS (RF V) 0 n 2 → Wx E 606 [some (aR 0), some (aI x), some (aR 210), some (aR 211), some (aR 212), some (aR 213), some (aR 219), some (aR 221), some (aI lv), some (aI rp), none, none, none, none, none] [] Va L N (I ++ [219] ++ [221]) 254 2780 := by
      intro Va lv rp ta hlv hrp
      refine x_iconst (pc := 606) C (0) dL_told_606 (by decide) ?_
      refine y_istore (pc := 607) C dL_told_607 (by decide) rfl ?_
      suffices keyk : ∀ (k i : Nat) (Vb : VV), k + i = 8 → (TI V Vb n (fun s => (RF V 2 s).toInt < ((7 : Nat) : Int)) (fun k => wkN V n k 7)) → Wx E 609 [some (aR 0), some (aI x), some (aR 210), some (aR 211), some (aR 212), some (aR 213), some (aR 219), some (aR 221), some (aI lv), some (aI rp), some (aI (nI (i))), none, none, none, none] [] Vb L N (I ++ [219] ++ [221]) (254 + i) (2780 + 6 * i) by
        exact keyk (8) (0) _ (by omega) (ta)
      intro k
      induction k with
      | zero =>
        intro i Vb hk tk
        refine x_iload (pc := 609) C dL_told_609 rfl ?_
        refine x_bipush (pc := 611) C (8) dL_told_611 (by decide) ?_
        refine x_icmp_ge (pc := 613) (tgt := 637) C dL_told_613 (by decide) (fun h613 => ?_) (fun h613 => absurd (by exact nI_le (a := 8) (b := i) (by omega) (by omega)) h613)
        refine x_fgt 10 ?_
        refine x_wid (a' := 262) (b' := 2828) (by omega) (by omega) ?_
        exact J637 _ lv rp tk hlv hrp
      | succ k ih =>
        intro i Vb hk tk
        refine x_iload (pc := 609) C dL_told_609 rfl ?_
        refine x_bipush (pc := 611) C (8) dL_told_611 (by decide) ?_
        refine x_icmp_ge (pc := 613) (tgt := 637) C dL_told_613 (by decide) (fun h613 => absurd h613 (by exact nI_ge (a := i) (b := 8) (by omega) (by omega))) (fun h613 => ?_)
        refine x_aload_n (pc := 616) C dL_told_616 rfl ?_
        refine x_iload (pc := 617) C dL_told_617 rfl ?_
        refine x_aV1 (pc := 619) (o := 0) C [219, 221] hJ v_L_60 dL_told_619 (t_setting hI hP tk.1 (w := i) (by omega)) (hI 0 rfl) rfl (by decide) rfl ⟨by omega, by omega⟩ (fun M10 q10 => ?_)
        have t10 := tk.sq q10
        refine x_aload_n (pc := 622) C dL_told_622 rfl ?_
        refine x_iload (pc := 623) C dL_told_623 rfl ?_
        refine x_iald (pc := 625) (o := 210) C dL_told_625 (hI 210 rfl) ⟨rfl, rfl⟩ (show _ < 8 by omega) (by decide) ?_
        refine x_topi (V 201 i) ((congrFun (t10.1 210 (by decide) (by decide)) _).trans (ht.se _ (by omega))) ?_
        refine x_icmp_eq (pc := 626) (tgt := 631) C dL_told_626 (by decide) (fun h626 => ?_) (fun h626 => absurd (by rfl) h626)
        refine y_iinc (pc := 631) C (nI (i + 1)) dL_told_631 rfl (by exact nI_1 i) (by decide) rfl ?_
        refine x_goto (pc := 634) (tgt := 609) C dL_told_634 (by decide) ?_
        refine x_wid (a' := 254 + (i + 1)) (b' := 2780 + 6 * (i + 1)) (by omega) (by omega) ?_
        exact ih (i + 1) _ (by omega) t10
    have J344 : ∀ (Va : VV) (lv rp : Int32), TI V Va n (fun s => (RF V 2 s).toInt < ((7 : Nat) : Int)) (fun k => wkN V n k 7) → lv = cntS (RF V) 0 n 0 → rp = cntS (RF V) 0 n 2 → Wx E 344 [some (aR 0), some (aI x), some (aR 210), some (aR 211), some (aR 212), some (aR 213), some (aR 219), some (aR 221), some (aI lv), some (aI rp), none, none, none, none, none] [] Va L N (I ++ [219] ++ [221]) 200 2456 := by
      intro Va lv rp ta hlv hrp
      refine x_iconst (pc := 344) C (0) dL_told_344 (by decide) ?_
      refine y_istore (pc := 345) C dL_told_345 (by decide) rfl ?_
      suffices keyk : ∀ (k g : Nat) (Vb : VV), k + g = 6 → (TI V Vb n (fun s => (RF V 2 s).toInt < ((7 : Nat) : Int)) (fun k => wkN V n k 7)) → Wx E 347 [some (aR 0), some (aI x), some (aR 210), some (aR 211), some (aR 212), some (aR 213), some (aR 219), some (aR 221), some (aI lv), some (aI rp), some (aI (nI (g))), none, none, none, none] [] Vb L N (I ++ [219] ++ [221]) (200 + 9 * g) (2456 + 54 * g) by
        exact keyk (6) (0) _ (by omega) (ta)
      intro k
      induction k with
      | zero =>
        intro g Vb hk tk
        refine x_iload (pc := 347) C dL_told_347 rfl ?_
        refine x_bipush (pc := 349) C (6) dL_told_349 (by decide) ?_
        refine x_icmp_ge (pc := 351) (tgt := 606) C dL_told_351 (by decide) (fun h351 => ?_) (fun h351 => absurd (by exact nI_le (a := 6) (b := g) (by omega) (by omega)) h351)
        refine x_fgt 10 ?_
        refine x_wid (a' := 254) (b' := 2780) (by omega) (by omega) ?_
        exact J606 _ lv rp tk hlv hrp
      | succ k ih =>
        intro g Vb hk tk
        refine x_iload (pc := 347) C dL_told_347 rfl ?_
        refine x_bipush (pc := 349) C (6) dL_told_349 (by decide) ?_
        refine x_icmp_ge (pc := 351) (tgt := 606) C dL_told_351 (by decide) (fun h351 => absurd h351 (by exact nI_ge (a := g) (b := 6) (by omega) (by omega))) (fun h351 => ?_)
        refine x_iconst (pc := 354) C (0) dL_told_354 (by decide) ?_
        refine y_istore (pc := 355) C dL_told_355 (by decide) rfl ?_
        refine x_iconst (pc := 357) C (0) dL_told_357 (by decide) ?_
        refine y_istore (pc := 358) C dL_told_358 (by decide) rfl ?_
        refine x_iconst (pc := 360) C (0) dL_told_360 (by decide) ?_
        refine y_istore (pc := 361) C dL_told_361 (by decide) rfl ?_
        refine x_iconst (pc := 363) C (0) dL_told_363 (by decide) ?_
        refine y_istore (pc := 364) C dL_told_364 (by decide) rfl ?_
        suffices keyk2 : ∀ (k2 i : Nat) (pl ar my : Int32), k2 + i = n → (pl = sumTo (fun s => if RF V 1 s = nI g then worthF (V 201 5) (RF V 0 s) (RF V 4 s) else 0) i ∧ ar = sumTo (fun s => if RF V 1 s = nI g then worthF (V 201 5) (RF V 0 s) (airR (RF V) (V 201) 1 s) else 0) i ∧ my = cntS (RF V) 1 i (nI g)) → Wx E 366 [some (aR 0), some (aI x), some (aR 210), some (aR 211), some (aR 212), some (aR 213), some (aR 219), some (aR 221), some (aI lv), some (aI rp), some (aI (nI (g))), some (aI pl), some (aI ar), some (aI my), some (aI (nI (i)))] [] Vb L N (I ++ [219] ++ [221]) (200 + 9 * g) (2456 + 54 * g) by
          exact keyk2 (n) (0) 0 0 0 (by omega) (⟨rfl, rfl, rfl⟩)
        intro k2
        induction k2 with
        | zero =>
          intro i pl ar my hk2 hinv2
          refine x_iload (pc := 366) C dL_told_366 rfl ?_
          refine x_aload (pc := 368) C dL_told_368 rfl ?_
          refine x_iconst (pc := 370) C (1) dL_told_370 (by decide) ?_
          refine x_topi (nI 1) (by decide) ?_
          refine x_iald (pc := 371) (o := 212) C dL_told_371 (hI 212 rfl) ⟨rfl, rfl⟩ (show _ < 3 by decide) (by decide) ?_
          refine x_topi (nI n) ((congrFun (tk.1 212 (by decide) (by decide)) 1).trans ht.d1) ?_
          refine x_icmp_ge (pc := 372) (tgt := 455) C dL_told_372 (by decide) (fun h372 => ?_) (fun h372 => absurd (by exact nI_le (by omega) (by omega)) h372)
          have hpl : pl = grpN V n g 3 := by rw [hinv2.1, show i = n by omega]; rfl
          have har : ar = grpN V n g 4 := by rw [hinv2.2.1, show i = n by omega]; rfl
          have hmy : my = grpN V n g 5 := by rw [hinv2.2.2, show i = n by omega]; rfl
          refine x_aload_n (pc := 455) C dL_told_455 rfl ?_
          refine x_iload (pc := 456) C dL_told_456 rfl ?_
          refine x_iconst (pc := 458) C (0) dL_told_458 (by decide) ?_
          refine x_aV2 (pc := 459) (o := 0) C [219, 221] hJ v_L_57 dL_told_459 (t_group hI hP tk.1 (g := g) (w := 0) (by omega) (by omega)) (hI 0 rfl) rfl (by decide) rfl ⟨by omega, by omega⟩ (fun M11 q11 => ?_)
          have t11 := tk.sq q11
          refine x_aload_n (pc := 462) C dL_told_462 rfl ?_
          refine x_iconst (pc := 463) C (5) dL_told_463 (by decide) ?_
          refine x_iload (pc := 464) C dL_told_464 rfl ?_
          refine x_imul (pc := 466) C dL_told_466 ?_
          refine x_topi (nI (5 * g)) (pk_mul (5) (g)) ?_
          refine x_iald (pc := 467) (o := 211) C dL_told_467 (hI 211 rfl) ⟨rfl, rfl⟩ (show _ < 30 by omega) (by decide) ?_
          refine x_topi (V 201 (8 + (5 * g))) ((congrFun (t11.1 211 (by decide) (by decide)) _).trans (ht.gr (by omega))) ?_
          refine x_icmp_ne (pc := 468) (tgt := 598) C dL_told_468 (by decide) (fun h468 => absurd (by rfl) h468) (fun h468 => ?_)
          refine x_aload_n (pc := 471) C dL_told_471 rfl ?_
          refine x_iload (pc := 472) C dL_told_472 rfl ?_
          refine x_iconst (pc := 474) C (1) dL_told_474 (by decide) ?_
          refine x_aV2 (pc := 475) (o := 0) C [219, 221] hJ v_L_57 dL_told_475 (t_group hI hP t11.1 (g := g) (w := 1) (by omega) (by omega)) (hI 0 rfl) rfl (by decide) rfl ⟨by omega, by omega⟩ (fun M12 q12 => ?_)
          have t12 := t11.sq q12
          refine x_aload_n (pc := 478) C dL_told_478 rfl ?_
          refine x_iconst (pc := 479) C (5) dL_told_479 (by decide) ?_
          refine x_iload (pc := 480) C dL_told_480 rfl ?_
          refine x_imul (pc := 482) C dL_told_482 ?_
          refine x_topi (nI (5 * g)) (pk_mul (5) (g)) ?_
          refine x_iconst (pc := 483) C (1) dL_told_483 (by decide) ?_
          refine x_iadd (pc := 484) C dL_told_484 ?_
          refine x_topi (nI (5 * g + 1)) (nI_add (5 * g) (1)) ?_
          refine x_iald (pc := 485) (o := 211) C dL_told_485 (hI 211 rfl) ⟨rfl, rfl⟩ (show _ < 30 by omega) (by decide) ?_
          refine x_topi (V 201 (8 + (5 * g + 1))) ((congrFun (t12.1 211 (by decide) (by decide)) _).trans (ht.gr (by omega))) ?_
          refine x_icmp_ne (pc := 486) (tgt := 598) C dL_told_486 (by decide) (fun h486 => absurd (by rfl) h486) (fun h486 => ?_)
          refine x_aload_n (pc := 489) C dL_told_489 rfl ?_
          refine x_iload (pc := 490) C dL_told_490 rfl ?_
          refine x_iconst (pc := 492) C (2) dL_told_492 (by decide) ?_
          refine x_aV2 (pc := 493) (o := 0) C [219, 221] hJ v_L_57 dL_told_493 (t_group hI hP t12.1 (g := g) (w := 2) (by omega) (by omega)) (hI 0 rfl) rfl (by decide) rfl ⟨by omega, by omega⟩ (fun M13 q13 => ?_)
          have t13 := t12.sq q13
          refine x_iload (pc := 496) C dL_told_496 rfl ?_
          refine x_aload_n (pc := 498) C dL_told_498 rfl ?_
          refine x_gS2 (pc := 499) C [219, 221] hJ s_L_22 dL_told_499 (c_L_allowance hI g (by omega)) (by decide) rfl ⟨by omega, by omega⟩ ?_
          refine x_topi (alN V g) (by rw [congrFun (t13.1 211 (by decide) (by decide)) _, congrFun (t13.1 211 (by decide) (by decide)) _, ht.gr (by omega), ht.gr (by omega), show 8 + 5 * g = 8 + 5 * g + 0 from rfl]; rfl) ?_
          refine x_icmp_ne (pc := 502) (tgt := 598) C dL_told_502 (by decide) (fun h502 => absurd (by rfl) h502) (fun h502 => ?_)
          refine x_aload_n (pc := 505) C dL_told_505 rfl ?_
          refine x_iload (pc := 506) C dL_told_506 rfl ?_
          refine x_iconst (pc := 508) C (3) dL_told_508 (by decide) ?_
          refine x_aV2 (pc := 509) (o := 0) C [219, 221] hJ v_L_57 dL_told_509 (t_group hI hP t13.1 (g := g) (w := 3) (by omega) (by omega)) (hI 0 rfl) rfl (by decide) rfl ⟨by omega, by omega⟩ (fun M14 q14 => ?_)
          have t14 := t13.sq q14
          refine x_iload (pc := 512) C dL_told_512 rfl ?_
          refine x_icmp_ne (pc := 514) (tgt := 598) C dL_told_514 (by decide) (fun h514 => absurd (by exact hpl.symm) h514) (fun h514 => ?_)
          refine x_aload_n (pc := 517) C dL_told_517 rfl ?_
          refine x_iload (pc := 518) C dL_told_518 rfl ?_
          refine x_iconst (pc := 520) C (4) dL_told_520 (by decide) ?_
          refine x_aV2 (pc := 521) (o := 0) C [219, 221] hJ v_L_57 dL_told_521 (t_group hI hP t14.1 (g := g) (w := 4) (by omega) (by omega)) (hI 0 rfl) rfl (by decide) rfl ⟨by omega, by omega⟩ (fun M15 q15 => ?_)
          have t15 := t14.sq q15
          refine x_iload (pc := 524) C dL_told_524 rfl ?_
          refine x_icmp_ne (pc := 526) (tgt := 598) C dL_told_526 (by decide) (fun h526 => absurd (by exact har.symm) h526) (fun h526 => ?_)
          refine x_aload_n (pc := 529) C dL_told_529 rfl ?_
          refine x_iload (pc := 530) C dL_told_530 rfl ?_
          refine x_iconst (pc := 532) C (5) dL_told_532 (by decide) ?_
          refine x_aV2 (pc := 533) (o := 0) C [219, 221] hJ v_L_57 dL_told_533 (t_group hI hP t15.1 (g := g) (w := 5) (by omega) (by omega)) (hI 0 rfl) rfl (by decide) rfl ⟨by omega, by omega⟩ (fun M16 q16 => ?_)
          have t16 := t15.sq q16
          refine x_iload (pc := 536) C dL_told_536 rfl ?_
          refine x_icmp_ne (pc := 538) (tgt := 598) C dL_told_538 (by decide) (fun h538 => absurd (by exact hmy.symm) h538) (fun h538 => ?_)
          refine x_aload_n (pc := 541) C dL_told_541 rfl ?_
          refine x_iload (pc := 542) C dL_told_542 rfl ?_
          refine x_bipush (pc := 544) C (6) dL_told_544 (by decide) ?_
          refine x_aV2 (pc := 546) (o := 0) C [219, 221] hJ v_L_57 dL_told_546 (t_group hI hP t16.1 (g := g) (w := 6) (by omega) (by omega)) (hI 0 rfl) rfl (by decide) rfl ⟨by omega, by omega⟩ (fun M17 q17 => ?_)
          have t17 := t16.sq q17
          refine x_aload_n (pc := 549) C dL_told_549 rfl ?_
          refine x_iconst (pc := 550) C (5) dL_told_550 (by decide) ?_
          refine x_iload (pc := 551) C dL_told_551 rfl ?_
          refine x_imul (pc := 553) C dL_told_553 ?_
          refine x_topi (nI (5 * g)) (pk_mul (5) (g)) ?_
          refine x_iconst (pc := 554) C (2) dL_told_554 (by decide) ?_
          refine x_iadd (pc := 555) C dL_told_555 ?_
          refine x_topi (nI (5 * g + 2)) (nI_add (5 * g) (2)) ?_
          refine x_iald (pc := 556) (o := 211) C dL_told_556 (hI 211 rfl) ⟨rfl, rfl⟩ (show _ < 30 by omega) (by decide) ?_
          refine x_topi (V 201 (8 + (5 * g + 2))) ((congrFun (t17.1 211 (by decide) (by decide)) _).trans (ht.gr (by omega))) ?_
          refine x_icmp_ne (pc := 557) (tgt := 598) C dL_told_557 (by decide) (fun h557 => absurd (by rfl) h557) (fun h557 => ?_)
          refine x_aload_n (pc := 560) C dL_told_560 rfl ?_
          refine x_iload (pc := 561) C dL_told_561 rfl ?_
          refine x_bipush (pc := 563) C (7) dL_told_563 (by decide) ?_
          refine x_aV2 (pc := 565) (o := 0) C [219, 221] hJ v_L_57 dL_told_565 (t_group hI hP t17.1 (g := g) (w := 7) (by omega) (by omega)) (hI 0 rfl) rfl (by decide) rfl ⟨by omega, by omega⟩ (fun M18 q18 => ?_)
          have t18 := t17.sq q18
          refine x_aload_n (pc := 568) C dL_told_568 rfl ?_
          refine x_iconst (pc := 569) C (5) dL_told_569 (by decide) ?_
          refine x_iload (pc := 570) C dL_told_570 rfl ?_
          refine x_imul (pc := 572) C dL_told_572 ?_
          refine x_topi (nI (5 * g)) (pk_mul (5) (g)) ?_
          refine x_iconst (pc := 573) C (3) dL_told_573 (by decide) ?_
          refine x_iadd (pc := 574) C dL_told_574 ?_
          refine x_topi (nI (5 * g + 3)) (nI_add (5 * g) (3)) ?_
          refine x_iald (pc := 575) (o := 211) C dL_told_575 (hI 211 rfl) ⟨rfl, rfl⟩ (show _ < 30 by omega) (by decide) ?_
          refine x_topi (V 201 (8 + (5 * g + 3))) ((congrFun (t18.1 211 (by decide) (by decide)) _).trans (ht.gr (by omega))) ?_
          refine x_icmp_ne (pc := 576) (tgt := 598) C dL_told_576 (by decide) (fun h576 => absurd (by rfl) h576) (fun h576 => ?_)
          refine x_aload_n (pc := 579) C dL_told_579 rfl ?_
          refine x_iload (pc := 580) C dL_told_580 rfl ?_
          refine x_bipush (pc := 582) C (8) dL_told_582 (by decide) ?_
          refine x_aV2 (pc := 584) (o := 0) C [219, 221] hJ v_L_57 dL_told_584 (t_group hI hP t18.1 (g := g) (w := 8) (by omega) (by omega)) (hI 0 rfl) rfl (by decide) rfl ⟨by omega, by omega⟩ (fun M19 q19 => ?_)
          have t19 := t18.sq q19
          refine x_aload_n (pc := 587) C dL_told_587 rfl ?_
          refine x_iconst (pc := 588) C (5) dL_told_588 (by decide) ?_
          refine x_iload (pc := 589) C dL_told_589 rfl ?_
          refine x_imul (pc := 591) C dL_told_591 ?_
          refine x_topi (nI (5 * g)) (pk_mul (5) (g)) ?_
          refine x_iconst (pc := 592) C (4) dL_told_592 (by decide) ?_
          refine x_iadd (pc := 593) C dL_told_593 ?_
          refine x_topi (nI (5 * g + 4)) (nI_add (5 * g) (4)) ?_
          refine x_iald (pc := 594) (o := 211) C dL_told_594 (hI 211 rfl) ⟨rfl, rfl⟩ (show _ < 30 by omega) (by decide) ?_
          refine x_topi (V 201 (8 + (5 * g + 4))) ((congrFun (t19.1 211 (by decide) (by decide)) _).trans (ht.gr (by omega))) ?_
          refine x_icmp_eq (pc := 595) (tgt := 600) C dL_told_595 (by decide) (fun h595 => ?_) (fun h595 => absurd (by rfl) h595)
          refine y_iinc (pc := 600) C (nI (g + 1)) dL_told_600 rfl (by exact nI_1 g) (by decide) rfl ?_
          refine x_goto (pc := 603) (tgt := 347) C dL_told_603 (by decide) ?_
          refine x_fgt 11 ?_
          refine x_fgt 12 ?_
          refine x_fgt 13 ?_
          refine x_fgt 14 ?_
          refine x_wid (a' := 200 + 9 * (g + 1)) (b' := 2456 + 54 * (g + 1)) (by omega) (by omega) ?_
          exact ih (g + 1) _ (by omega) t19
        | succ k2 ih2 =>
          intro i pl ar my hk2 hinv2
          refine x_iload (pc := 366) C dL_told_366 rfl ?_
          refine x_aload (pc := 368) C dL_told_368 rfl ?_
          refine x_iconst (pc := 370) C (1) dL_told_370 (by decide) ?_
          refine x_topi (nI 1) (by decide) ?_
          refine x_iald (pc := 371) (o := 212) C dL_told_371 (hI 212 rfl) ⟨rfl, rfl⟩ (show _ < 3 by decide) (by decide) ?_
          refine x_topi (nI n) ((congrFun (tk.1 212 (by decide) (by decide)) 1).trans ht.d1) ?_
          refine x_icmp_ge (pc := 372) (tgt := 455) C dL_told_372 (by decide) (fun h372 => absurd h372 (by exact nI_ge (by omega) (by omega))) (fun h372 => ?_)
          refine x_aload (pc := 375) C dL_told_375 rfl ?_
          refine x_bipush (pc := 377) C (9) dL_told_377 (by decide) ?_
          refine x_iload (pc := 379) C dL_told_379 rfl ?_
          refine x_imul (pc := 381) C dL_told_381 ?_
          refine x_topi (nI (9 * i)) (pk_mul (9) (i)) ?_
          refine x_iconst (pc := 382) C (1) dL_told_382 (by decide) ?_
          refine x_iadd (pc := 383) C dL_told_383 ?_
          refine x_topi (nI (9 * i + 1)) (nI_add (9 * i) (1)) ?_
          refine x_iald (pc := 384) (o := 213) C dL_told_384 (hI 213 rfl) ⟨rfl, rfl⟩ (show _ < 63 by omega) (by decide) ?_
          refine x_topi (RF V 1 i) ((congrFun (tk.1 213 (by decide) (by decide)) _).trans (ht.f (k := 1) (s := i) (by omega) (by omega))) ?_
          refine x_iload (pc := 385) C dL_told_385 rfl ?_
          refine x_icmp_eq (pc := 387) (tgt := 393) C dL_told_387 (by decide) (fun h387 => ?_) (fun h387 => ?_)
          · refine x_iload (pc := 393) C dL_told_393 rfl ?_
            refine x_aload (pc := 395) C dL_told_395 rfl ?_
            refine x_bipush (pc := 397) C (9) dL_told_397 (by decide) ?_
            refine x_iload (pc := 399) C dL_told_399 rfl ?_
            refine x_imul (pc := 401) C dL_told_401 ?_
            refine x_topi (nI (9 * i)) (pk_mul (9) (i)) ?_
            refine x_iald (pc := 402) (o := 213) C dL_told_402 (hI 213 rfl) ⟨rfl, rfl⟩ (show _ < 63 by omega) (by decide) ?_
            refine x_topi (RF V 0 i) ((congrFun (tk.1 213 (by decide) (by decide)) _).trans (ht.f (k := 0) (s := i) (by omega) (by omega))) ?_
            refine x_aload (pc := 403) C dL_told_403 rfl ?_
            refine x_bipush (pc := 405) C (9) dL_told_405 (by decide) ?_
            refine x_iload (pc := 407) C dL_told_407 rfl ?_
            refine x_imul (pc := 409) C dL_told_409 ?_
            refine x_topi (nI (9 * i)) (pk_mul (9) (i)) ?_
            refine x_iconst (pc := 410) C (4) dL_told_410 (by decide) ?_
            refine x_iadd (pc := 411) C dL_told_411 ?_
            refine x_topi (nI (9 * i + 4)) (nI_add (9 * i) (4)) ?_
            refine x_iald (pc := 412) (o := 213) C dL_told_412 (hI 213 rfl) ⟨rfl, rfl⟩ (show _ < 63 by omega) (by decide) ?_
            refine x_topi (RF V 4 i) ((congrFun (tk.1 213 (by decide) (by decide)) _).trans (ht.f (k := 4) (s := i) (by omega) (by omega))) ?_
            refine x_aload_n (pc := 413) C dL_told_413 rfl ?_
            refine x_gS3 (pc := 414) C [219, 221] hJ s_L_18 dL_told_414 (c_L_worth hI _ _ (shb_k (F := RF V) (hsb i (by omega)))) (by decide) rfl ⟨by omega, by omega⟩ ?_
            refine x_topi (worthF (V 201 5) (RF V 0 i) (RF V 4 i)) (by rw [congrFun (tk.1 210 (by decide) (by decide)) 5, ht.se 5 (by decide)]) ?_
            refine x_iadd (pc := 417) C dL_told_417 ?_
            refine y_istore (pc := 418) C dL_told_418 (by decide) rfl ?_
            refine x_iload (pc := 420) C dL_told_420 rfl ?_
            refine x_aload (pc := 422) C dL_told_422 rfl ?_
            refine x_bipush (pc := 424) C (9) dL_told_424 (by decide) ?_
            refine x_iload (pc := 426) C dL_told_426 rfl ?_
            refine x_imul (pc := 428) C dL_told_428 ?_
            refine x_topi (nI (9 * i)) (pk_mul (9) (i)) ?_
            refine x_iald (pc := 429) (o := 213) C dL_told_429 (hI 213 rfl) ⟨rfl, rfl⟩ (show _ < 63 by omega) (by decide) ?_
            refine x_topi (RF V 0 i) ((congrFun (tk.1 213 (by decide) (by decide)) _).trans (ht.f (k := 0) (s := i) (by omega) (by omega))) ?_
            refine x_aload (pc := 430) C dL_told_430 rfl ?_
            refine x_iconst (pc := 432) C (4) dL_told_432 (by decide) ?_
            refine x_iload (pc := 433) C dL_told_433 rfl ?_
            refine x_imul (pc := 435) C dL_told_435 ?_
            refine x_topi (nI (4 * i)) (pk_mul (4) (i)) ?_
            refine x_iconst (pc := 436) C (1) dL_told_436 (by decide) ?_
            refine x_iadd (pc := 437) C dL_told_437 ?_
            refine x_topi (nI (4 * i + 1)) (nI_add (4 * i) (1)) ?_
            refine x_iald (pc := 438) (o := 219) C dL_told_438 h219 ⟨rfl, rfl⟩ (show _ < 28 by omega) (by decide) ?_
            refine x_topi (airR (RF V) (V 201) 1 i) (tk.2.1 _ (by omega) (by have := (hsb i (by omega)).2.2.1.2; dsimp only; omega) _ (by omega)) ?_
            refine x_aload_n (pc := 439) C dL_told_439 rfl ?_
            refine x_gS3 (pc := 440) C [219, 221] hJ s_L_18 dL_told_440 (c_L_worth hI _ _ (shb_k (F := RF V) (hsb i (by omega)))) (by decide) rfl ⟨by omega, by omega⟩ ?_
            refine x_topi (worthF (V 201 5) (RF V 0 i) (airR (RF V) (V 201) 1 i)) (by rw [congrFun (tk.1 210 (by decide) (by decide)) 5, ht.se 5 (by decide)]) ?_
            refine x_iadd (pc := 443) C dL_told_443 ?_
            refine y_istore (pc := 444) C dL_told_444 (by decide) rfl ?_
            refine y_iinc (pc := 446) C _ dL_told_446 rfl rfl (by decide) rfl ?_
            refine y_iinc (pc := 449) C (nI (i + 1)) dL_told_449 rfl (by exact nI_1 i) (by decide) rfl ?_
            refine x_goto (pc := 452) (tgt := 366) C dL_told_452 (by decide) ?_
            exact ih2 (i + 1) _ _ _ (by omega) ⟨by rw [sumTo, if_pos h387, hinv2.1], by rw [sumTo, if_pos h387, hinv2.2.1], cnt_t hinv2.2.2 h387⟩
          · refine x_goto (pc := 390) (tgt := 449) C dL_told_390 (by decide) ?_
            refine y_iinc (pc := 449) C (nI (i + 1)) dL_told_449 rfl (by exact nI_1 i) (by decide) rfl ?_
            refine x_goto (pc := 452) (tgt := 366) C dL_told_452 (by decide) ?_
            exact ih2 (i + 1) _ _ _ (by omega) ⟨by rw [sumTo, if_neg h387, hinv2.1, Int32.add_zero], by rw [sumTo, if_neg h387, hinv2.2.1, Int32.add_zero], by have := cnt_f hinv2.2.2 h387; rwa [Int32.add_zero] at this⟩
    refine x_iconst (pc := 163) C (0) dL_told_163 (by decide) ?_
    refine y_istore (pc := 164) C dL_told_164 (by decide) rfl ?_
    suffices keyk : ∀ (k i : Nat) (Vb : VV) (lv rp : Int32), k + i = n → (TI V Vb n (fun s => (RF V 2 s).toInt < ((7 : Nat) : Int)) (fun k => wkN V n k 7) ∧ lv = cntS (RF V) 0 i 0 ∧ rp = cntS (RF V) 0 i 2) → Wx E 166 [some (aR 0), some (aI x), some (aR 210), some (aR 211), some (aR 212), some (aR 213), some (aR 219), some (aR 221), some (aI lv), some (aI rp), some (aI (nI (i))), none, none, none, none] [] Vb L N (I ++ [219] ++ [221]) (128 + 12 * i) (2024 + 72 * i) by
      exact keyk (n) (0) _ 0 0 (by omega) (⟨ti, rfl, rfl⟩)
    intro k
    induction k with
    | zero =>
      intro i Vb lv rp hk ts
      refine x_iload (pc := 166) C dL_told_166 rfl ?_
      refine x_aload (pc := 168) C dL_told_168 rfl ?_
      refine x_iconst (pc := 170) C (1) dL_told_170 (by decide) ?_
      refine x_topi (nI 1) (by decide) ?_
      refine x_iald (pc := 171) (o := 212) C dL_told_171 (hI 212 rfl) ⟨rfl, rfl⟩ (show _ < 3 by decide) (by decide) ?_
      refine x_topi (nI n) ((congrFun (ts.1.1 212 (by decide) (by decide)) 1).trans ht.d1) ?_
      refine x_icmp_ge (pc := 172) (tgt := 344) C dL_told_172 (by decide) (fun h172 => ?_) (fun h172 => absurd (by exact nI_le (by omega) (by omega)) h172)
      refine x_fgt 10 ?_
      obtain rfl : i = n := by omega
      refine x_wid (a' := 200) (b' := 2456) (by omega) (by omega) ?_
      exact J344 _ lv rp ts.1 ts.2.1 ts.2.2
    | succ k ih =>
      intro i Vb lv rp hk ts
      refine x_iload (pc := 166) C dL_told_166 rfl ?_
      refine x_aload (pc := 168) C dL_told_168 rfl ?_
      refine x_iconst (pc := 170) C (1) dL_told_170 (by decide) ?_
      refine x_topi (nI 1) (by decide) ?_
      refine x_iald (pc := 171) (o := 212) C dL_told_171 (hI 212 rfl) ⟨rfl, rfl⟩ (show _ < 3 by decide) (by decide) ?_
      refine x_topi (nI n) ((congrFun (ts.1.1 212 (by decide) (by decide)) 1).trans ht.d1) ?_
      refine x_icmp_ge (pc := 172) (tgt := 344) C dL_told_172 (by decide) (fun h172 => absurd h172 (by exact nI_ge (by omega) (by omega))) (fun h172 => ?_)
      refine x_bipush (pc := 175) C (9) dL_told_175 (by decide) ?_
      refine x_iload (pc := 177) C dL_told_177 rfl ?_
      refine x_imul (pc := 179) C dL_told_179 ?_
      refine x_topi (nI (9 * i)) (pk_mul (9) (i)) ?_
      refine y_istore (pc := 180) C dL_told_180 (by decide) rfl ?_
      have J219 : ∀ lv2 rp2 : Int32, lv2 = cntS (RF V) 0 (i + 1) 0 → rp2 = cntS (RF V) 0 (i + 1) 2 → Wx E 219 [some (aR 0), some (aI x), some (aR 210), some (aR 211), some (aR 212), some (aR 213), some (aR 219), some (aR 221), some (aI lv2), some (aI rp2), some (aI (nI (i))), some (aI (nI (9 * i))), none, none, none] [] Vb L N (I ++ [219] ++ [221]) (128 + 12 * i) (2024 + 72 * i) := by
        intro lv2 rp2 hlv2 hrp2
        refine x_iconst (pc := 219) C (0) dL_told_219 (by decide) ?_
        refine y_istore (pc := 220) C dL_told_220 (by decide) rfl ?_
        suffices keyk3 : ∀ (k3 j : Nat) (Vc : VV), k3 + j = 7 → (TI V Vc n (fun s => (RF V 2 s).toInt < ((7 : Nat) : Int)) (fun k => wkN V n k 7)) → Wx E 222 [some (aR 0), some (aI x), some (aR 210), some (aR 211), some (aR 212), some (aR 213), some (aR 219), some (aR 221), some (aI lv2), some (aI rp2), some (aI (nI (i))), some (aI (nI (9 * i))), some (aI (nI (j))), none, none] [] Vc L N (I ++ [219] ++ [221]) (128 + 12 * i + j) (2024 + 72 * i + 6 * j) by
          exact keyk3 (7) (0) _ (by omega) (ts.1)
        intro k3
        induction k3 with
        | zero =>
          intro j Vc hk3 tl
          refine x_iload (pc := 222) C dL_told_222 rfl ?_
          refine x_bipush (pc := 224) C (7) dL_told_224 (by decide) ?_
          refine x_icmp_ge (pc := 226) (tgt := 256) C dL_told_226 (by decide) (fun h226 => ?_) (fun h226 => absurd (by exact nI_le (a := 7) (b := j) (by omega) (by omega)) h226)
          refine x_aload_n (pc := 256) C dL_told_256 rfl ?_
          refine x_iload (pc := 257) C dL_told_257 rfl ?_
          refine x_bipush (pc := 259) C (7) dL_told_259 (by decide) ?_
          refine x_aV2 (pc := 261) (o := 0) C [219, 221] hJ v_L_54 dL_told_261 (t_show hI hP tl.1 (s := i) (w := 7) (by omega) (by omega)) (hI 0 rfl) rfl (by decide) rfl ⟨by omega, by omega⟩ (fun M20 q20 => ?_)
          have t20 := tl.sq q20
          refine x_topi (RF V 7 i) rfl ?_
          refine x_aload (pc := 264) C dL_told_264 rfl ?_
          refine x_iload (pc := 266) C dL_told_266 rfl ?_
          refine x_iald (pc := 268) (o := 213) C dL_told_268 (hI 213 rfl) ⟨rfl, rfl⟩ (show _ < 63 by omega) (by decide) ?_
          refine x_topi (RF V 0 i) ((congrFun (t20.1 213 (by decide) (by decide)) _).trans (ht.f (k := 0) (s := i) (by omega) (by omega))) ?_
          refine x_iconst (pc := 269) C (2) dL_told_269 (by decide) ?_
          refine x_icmp_ne (pc := 270) (tgt := 291) C dL_told_270 (by decide) (fun h270 => ?_) (fun h270 => ?_)
          · have hro : RF V 7 i = -1 := by obtain ⟨id, _, _, c⟩ := ht.id; exact (c i (by omega)).elim (fun z => z.2.1) (fun z => absurd z.1 h270)
            refine x_iconst (pc := 291) C (-1) dL_told_291 (by decide) ?_
            refine x_icmp_eq (pc := 292) (tgt := 297) C dL_told_292 (by decide) (fun h292 => ?_) (fun h292 => absurd (by exact hro) h292)
            refine x_iconst (pc := 297) C (0) dL_told_297 (by decide) ?_
            refine y_istore (pc := 298) C dL_told_298 (by decide) rfl ?_
            refine x_wid (a' := 128 + 12 * i + 8) (b' := 2024 + 72 * i + 48) (by omega) (by omega) ?_
            suffices keyk4 : ∀ (k4 j : Nat) (Vd : VV), k4 + j = 4 → (TI V Vd n (fun s => (RF V 2 s).toInt < ((7 : Nat) : Int)) (fun k => wkN V n k 7)) → Wx E 300 [some (aR 0), some (aI x), some (aR 210), some (aR 211), some (aR 212), some (aR 213), some (aR 219), some (aR 221), some (aI lv2), some (aI rp2), some (aI (nI (i))), some (aI (nI (9 * i))), some (aI (nI (j))), none, none] [] Vd L N (I ++ [219] ++ [221]) (128 + 12 * i + 8 + j) (2024 + 72 * i + 48 + 6 * j) by
              exact keyk4 (4) (0) _ (by omega) (t20)
            intro k4
            induction k4 with
            | zero =>
              intro j Vd hk4 tm
              refine x_iload (pc := 300) C dL_told_300 rfl ?_
              refine x_iconst (pc := 302) C (4) dL_told_302 (by decide) ?_
              refine x_icmp_ge (pc := 303) (tgt := 338) C dL_told_303 (by decide) (fun h303 => ?_) (fun h303 => absurd (by exact nI_le (a := 4) (b := j) (by omega) (by omega)) h303)
              refine y_iinc (pc := 338) C (nI (i + 1)) dL_told_338 rfl (by exact nI_1 i) (by decide) rfl ?_
              refine x_goto (pc := 341) (tgt := 166) C dL_told_341 (by decide) ?_
              refine x_fgt 11 ?_
              refine x_fgt 12 ?_
              refine x_wid (a' := 128 + 12 * (i + 1)) (b' := 2024 + 72 * (i + 1)) (by omega) (by omega) ?_
              exact ih (i + 1) _ _ _ (by omega) ⟨tm, hlv2, hrp2⟩
            | succ k4 ih4 =>
              intro j Vd hk4 tm
              refine x_iload (pc := 300) C dL_told_300 rfl ?_
              refine x_iconst (pc := 302) C (4) dL_told_302 (by decide) ?_
              refine x_icmp_ge (pc := 303) (tgt := 338) C dL_told_303 (by decide) (fun h303 => absurd h303 (by exact nI_ge (a := j) (b := 4) (by omega) (by omega))) (fun h303 => ?_)
              refine x_aload_n (pc := 306) C dL_told_306 rfl ?_
              refine x_iload (pc := 307) C dL_told_307 rfl ?_
              refine x_bipush (pc := 309) C (8) dL_told_309 (by decide) ?_
              refine x_iload (pc := 311) C dL_told_311 rfl ?_
              refine x_iadd (pc := 313) C dL_told_313 ?_
              refine x_topi (nI (8 + j)) (nI_add (8) (j)) ?_
              refine x_aV2 (pc := 314) (o := 0) C [219, 221] hJ v_L_54 dL_told_314 (t_show hI hP tm.1 (s := i) (w := 8 + j) (by omega) (by omega)) (hI 0 rfl) rfl (by decide) rfl ⟨by omega, by omega⟩ (fun M21 q21 => ?_)
              have t21 := tm.sq q21
              refine x_topi (airR (RF V) (V 201) j i) (showN_hi j (by omega)) ?_
              refine x_aload (pc := 317) C dL_told_317 rfl ?_
              refine x_iconst (pc := 319) C (4) dL_told_319 (by decide) ?_
              refine x_iload (pc := 320) C dL_told_320 rfl ?_
              refine x_imul (pc := 322) C dL_told_322 ?_
              refine x_topi (nI (4 * i)) (pk_mul (4) (i)) ?_
              refine x_iload (pc := 323) C dL_told_323 rfl ?_
              refine x_iadd (pc := 325) C dL_told_325 ?_
              refine x_topi (nI (4 * i + j)) (nI_add (4 * i) (j)) ?_
              refine x_iald (pc := 326) (o := 219) C dL_told_326 h219 ⟨rfl, rfl⟩ (show _ < 28 by omega) (by decide) ?_
              refine x_topi (airR (RF V) (V 201) j i) (t21.2.1 _ (by omega) (by have := (hsb i (by omega)).2.2.1.2; dsimp only; omega) _ (by omega)) ?_
              refine x_icmp_eq (pc := 327) (tgt := 332) C dL_told_327 (by decide) (fun h327 => ?_) (fun h327 => absurd (by rfl) h327)
              refine y_iinc (pc := 332) C (nI (j + 1)) dL_told_332 rfl (by exact nI_1 j) (by decide) rfl ?_
              refine x_goto (pc := 335) (tgt := 300) C dL_told_335 (by decide) ?_
              refine x_wid (a' := 128 + 12 * i + 8 + (j + 1)) (b' := 2024 + 72 * i + 48 + 6 * (j + 1)) (by omega) (by omega) ?_
              exact ih4 (j + 1) _ (by omega) t21
          · obtain ⟨o, ho, hro⟩ : ∃ o, o < n ∧ RF V 7 i = nI o := by obtain ⟨id, _, _, c⟩ := ht.id; exact (c i (by omega)).elim (fun z => absurd h270 z.1) (fun z => by obtain ⟨_, o, c2, c3, _⟩ := z; exact ⟨o, c2, c3⟩)
            refine x_aload (pc := 273) C dL_told_273 rfl ?_
            refine x_iload (pc := 275) C dL_told_275 rfl ?_
            refine x_bipush (pc := 277) C (7) dL_told_277 (by decide) ?_
            refine x_iadd (pc := 279) C dL_told_279 ?_
            refine x_topi (nI (9 * i + 7)) (nI_add (9 * i) (7)) ?_
            refine x_iald (pc := 280) (o := 213) C dL_told_280 (hI 213 rfl) ⟨rfl, rfl⟩ (show _ < 63 by omega) (by decide) ?_
            refine x_topi (GF V 7 i) (congrFun (t20.1 213 (by decide) (by decide)) _) ?_
            refine x_aload (pc := 281) C dL_told_281 rfl ?_
            refine x_aload (pc := 283) C dL_told_283 rfl ?_
            refine x_gS3 (pc := 285) C [219, 221] hJ s_L_8 dL_told_285 (c_L_byId hI (ht.st t20.1).d1 hn6 _) (by decide) rfl ⟨by omega, by omega⟩ ?_
            refine x_topi (nI o) (by rw [show GF M20 = GF V from funext fun k => funext fun s => congrFun (t20.1 213 (by decide) (by decide)) _, ht.by (by omega) ho hro]; rfl) ?_
            refine x_goto (pc := 288) (tgt := 292) C dL_told_288 (by decide) ?_
            refine x_icmp_eq (pc := 292) (tgt := 297) C dL_told_292 (by decide) (fun h292 => ?_) (fun h292 => absurd (by exact hro) h292)
            refine x_iconst (pc := 297) C (0) dL_told_297 (by decide) ?_
            refine y_istore (pc := 298) C dL_told_298 (by decide) rfl ?_
            refine x_wid (a' := 128 + 12 * i + 8) (b' := 2024 + 72 * i + 48) (by omega) (by omega) ?_
            suffices keyk4 : ∀ (k4 j : Nat) (Vd : VV), k4 + j = 4 → (TI V Vd n (fun s => (RF V 2 s).toInt < ((7 : Nat) : Int)) (fun k => wkN V n k 7)) → Wx E 300 [some (aR 0), some (aI x), some (aR 210), some (aR 211), some (aR 212), some (aR 213), some (aR 219), some (aR 221), some (aI lv2), some (aI rp2), some (aI (nI (i))), some (aI (nI (9 * i))), some (aI (nI (j))), none, none] [] Vd L N (I ++ [219] ++ [221]) (128 + 12 * i + 8 + j) (2024 + 72 * i + 48 + 6 * j) by
              exact keyk4 (4) (0) _ (by omega) (t20)
            intro k4
            induction k4 with
            | zero =>
              intro j Vd hk4 tm
              refine x_iload (pc := 300) C dL_told_300 rfl ?_
              refine x_iconst (pc := 302) C (4) dL_told_302 (by decide) ?_
              refine x_icmp_ge (pc := 303) (tgt := 338) C dL_told_303 (by decide) (fun h303 => ?_) (fun h303 => absurd (by exact nI_le (a := 4) (b := j) (by omega) (by omega)) h303)
              refine y_iinc (pc := 338) C (nI (i + 1)) dL_told_338 rfl (by exact nI_1 i) (by decide) rfl ?_
              refine x_goto (pc := 341) (tgt := 166) C dL_told_341 (by decide) ?_
              refine x_fgt 11 ?_
              refine x_fgt 12 ?_
              refine x_wid (a' := 128 + 12 * (i + 1)) (b' := 2024 + 72 * (i + 1)) (by omega) (by omega) ?_
              exact ih (i + 1) _ _ _ (by omega) ⟨tm, hlv2, hrp2⟩
            | succ k4 ih4 =>
              intro j Vd hk4 tm
              refine x_iload (pc := 300) C dL_told_300 rfl ?_
              refine x_iconst (pc := 302) C (4) dL_told_302 (by decide) ?_
              refine x_icmp_ge (pc := 303) (tgt := 338) C dL_told_303 (by decide) (fun h303 => absurd h303 (by exact nI_ge (a := j) (b := 4) (by omega) (by omega))) (fun h303 => ?_)
              refine x_aload_n (pc := 306) C dL_told_306 rfl ?_
              refine x_iload (pc := 307) C dL_told_307 rfl ?_
              refine x_bipush (pc := 309) C (8) dL_told_309 (by decide) ?_
              refine x_iload (pc := 311) C dL_told_311 rfl ?_
              refine x_iadd (pc := 313) C dL_told_313 ?_
              refine x_topi (nI (8 + j)) (nI_add (8) (j)) ?_
              refine x_aV2 (pc := 314) (o := 0) C [219, 221] hJ v_L_54 dL_told_314 (t_show hI hP tm.1 (s := i) (w := 8 + j) (by omega) (by omega)) (hI 0 rfl) rfl (by decide) rfl ⟨by omega, by omega⟩ (fun M22 q22 => ?_)
              have t22 := tm.sq q22
              refine x_topi (airR (RF V) (V 201) j i) (showN_hi j (by omega)) ?_
              refine x_aload (pc := 317) C dL_told_317 rfl ?_
              refine x_iconst (pc := 319) C (4) dL_told_319 (by decide) ?_
              refine x_iload (pc := 320) C dL_told_320 rfl ?_
              refine x_imul (pc := 322) C dL_told_322 ?_
              refine x_topi (nI (4 * i)) (pk_mul (4) (i)) ?_
              refine x_iload (pc := 323) C dL_told_323 rfl ?_
              refine x_iadd (pc := 325) C dL_told_325 ?_
              refine x_topi (nI (4 * i + j)) (nI_add (4 * i) (j)) ?_
              refine x_iald (pc := 326) (o := 219) C dL_told_326 h219 ⟨rfl, rfl⟩ (show _ < 28 by omega) (by decide) ?_
              refine x_topi (airR (RF V) (V 201) j i) (t22.2.1 _ (by omega) (by have := (hsb i (by omega)).2.2.1.2; dsimp only; omega) _ (by omega)) ?_
              refine x_icmp_eq (pc := 327) (tgt := 332) C dL_told_327 (by decide) (fun h327 => ?_) (fun h327 => absurd (by rfl) h327)
              refine y_iinc (pc := 332) C (nI (j + 1)) dL_told_332 rfl (by exact nI_1 j) (by decide) rfl ?_
              refine x_goto (pc := 335) (tgt := 300) C dL_told_335 (by decide) ?_
              refine x_wid (a' := 128 + 12 * i + 8 + (j + 1)) (b' := 2024 + 72 * i + 48 + 6 * (j + 1)) (by omega) (by omega) ?_
              exact ih4 (j + 1) _ (by omega) t22
        | succ k3 ih3 =>
          intro j Vc hk3 tl
          refine x_iload (pc := 222) C dL_told_222 rfl ?_
          refine x_bipush (pc := 224) C (7) dL_told_224 (by decide) ?_
          refine x_icmp_ge (pc := 226) (tgt := 256) C dL_told_226 (by decide) (fun h226 => absurd h226 (by exact nI_ge (a := j) (b := 7) (by omega) (by omega))) (fun h226 => ?_)
          refine x_aload_n (pc := 229) C dL_told_229 rfl ?_
          refine x_iload (pc := 230) C dL_told_230 rfl ?_
          refine x_iload (pc := 232) C dL_told_232 rfl ?_
          refine x_aV2 (pc := 234) (o := 0) C [219, 221] hJ v_L_54 dL_told_234 (t_show hI hP tl.1 (s := i) (w := j) (by omega) (by omega)) (hI 0 rfl) rfl (by decide) rfl ⟨by omega, by omega⟩ (fun M23 q23 => ?_)
          have t23 := tl.sq q23
          refine x_topi (RF V j i) (by unfold showN; rw [if_pos (by omega)]) ?_
          refine x_aload (pc := 237) C dL_told_237 rfl ?_
          refine x_iload (pc := 239) C dL_told_239 rfl ?_
          refine x_iload (pc := 241) C dL_told_241 rfl ?_
          refine x_iadd (pc := 243) C dL_told_243 ?_
          refine x_topi (nI (9 * i + j)) (nI_add (9 * i) (j)) ?_
          refine x_iald (pc := 244) (o := 213) C dL_told_244 (hI 213 rfl) ⟨rfl, rfl⟩ (show _ < 63 by omega) (by decide) ?_
          refine x_topi (RF V j i) ((congrFun (t23.1 213 (by decide) (by decide)) _).trans (ht.f (k := j) (s := i) (by omega) (by omega))) ?_
          refine x_icmp_eq (pc := 245) (tgt := 250) C dL_told_245 (by decide) (fun h245 => ?_) (fun h245 => absurd (by rfl) h245)
          refine y_iinc (pc := 250) C (nI (j + 1)) dL_told_250 rfl (by exact nI_1 j) (by decide) rfl ?_
          refine x_goto (pc := 253) (tgt := 222) C dL_told_253 (by decide) ?_
          refine x_wid (a' := 128 + 12 * i + (j + 1)) (b' := 2024 + 72 * i + 6 * (j + 1)) (by omega) (by omega) ?_
          exact ih3 (j + 1) _ (by omega) t23
      refine x_iload (pc := 182) C dL_told_182 rfl ?_
      refine x_aload (pc := 184) C dL_told_184 rfl ?_
      refine x_iload (pc := 186) C dL_told_186 rfl ?_
      refine x_iald (pc := 188) (o := 213) C dL_told_188 (hI 213 rfl) ⟨rfl, rfl⟩ (show _ < 63 by omega) (by decide) ?_
      refine x_topi (RF V 0 i) ((congrFun (ts.1.1 213 (by decide) (by decide)) _).trans (ht.f (k := 0) (s := i) (by omega) (by omega))) ?_
      refine x_if_ne (pc := 189) (tgt := 196) C dL_told_189 (by decide) (fun h189 => ?_) (fun h189 => ?_)
      · refine x_iconst (pc := 196) C (0) dL_told_196 (by decide) ?_
        refine x_iadd (pc := 197) C dL_told_197 ?_
        refine y_istore (pc := 198) C dL_told_198 (by decide) rfl ?_
        refine x_iload (pc := 200) C dL_told_200 rfl ?_
        refine x_aload (pc := 202) C dL_told_202 rfl ?_
        refine x_iload (pc := 204) C dL_told_204 rfl ?_
        refine x_iald (pc := 206) (o := 213) C dL_told_206 (hI 213 rfl) ⟨rfl, rfl⟩ (show _ < 63 by omega) (by decide) ?_
        refine x_topi (RF V 0 i) ((congrFun (ts.1.1 213 (by decide) (by decide)) _).trans (ht.f (k := 0) (s := i) (by omega) (by omega))) ?_
        refine x_iconst (pc := 207) C (2) dL_told_207 (by decide) ?_
        refine x_icmp_ne (pc := 208) (tgt := 215) C dL_told_208 (by decide) (fun h208 => ?_) (fun h208 => ?_)
        · refine x_iconst (pc := 215) C (0) dL_told_215 (by decide) ?_
          refine x_iadd (pc := 216) C dL_told_216 ?_
          refine y_istore (pc := 217) C dL_told_217 (by decide) rfl ?_
          exact J219 _ _ (cnt_f ts.2.1 h189) (cnt_f ts.2.2 h208)
        · refine x_iconst (pc := 211) C (1) dL_told_211 (by decide) ?_
          refine x_goto (pc := 212) (tgt := 216) C dL_told_212 (by decide) ?_
          refine x_iadd (pc := 216) C dL_told_216 ?_
          refine y_istore (pc := 217) C dL_told_217 (by decide) rfl ?_
          exact J219 _ _ (cnt_f ts.2.1 h189) (cnt_t ts.2.2 h208)
      · refine x_iconst (pc := 192) C (1) dL_told_192 (by decide) ?_
        refine x_goto (pc := 193) (tgt := 197) C dL_told_193 (by decide) ?_
        refine x_iadd (pc := 197) C dL_told_197 ?_
        refine y_istore (pc := 198) C dL_told_198 (by decide) rfl ?_
        refine x_iload (pc := 200) C dL_told_200 rfl ?_
        refine x_aload (pc := 202) C dL_told_202 rfl ?_
        refine x_iload (pc := 204) C dL_told_204 rfl ?_
        refine x_iald (pc := 206) (o := 213) C dL_told_206 (hI 213 rfl) ⟨rfl, rfl⟩ (show _ < 63 by omega) (by decide) ?_
        refine x_topi (RF V 0 i) ((congrFun (ts.1.1 213 (by decide) (by decide)) _).trans (ht.f (k := 0) (s := i) (by omega) (by omega))) ?_
        refine x_iconst (pc := 207) C (2) dL_told_207 (by decide) ?_
        refine x_icmp_ne (pc := 208) (tgt := 215) C dL_told_208 (by decide) (fun h208 => ?_) (fun h208 => ?_)
        · refine x_iconst (pc := 215) C (0) dL_told_215 (by decide) ?_
          refine x_iadd (pc := 216) C dL_told_216 ?_
          refine y_istore (pc := 217) C dL_told_217 (by decide) rfl ?_
          exact J219 _ _ (cnt_t ts.2.1 h189) (cnt_f ts.2.2 h208)
        · refine x_iconst (pc := 211) C (1) dL_told_211 (by decide) ?_
          refine x_goto (pc := 212) (tgt := 216) C dL_told_212 (by decide) ?_
          refine x_iadd (pc := 216) C dL_told_216 ?_
          refine y_istore (pc := 217) C dL_told_217 (by decide) rfl ?_
          exact J219 _ _ (cnt_t ts.2.1 h189) (cnt_t ts.2.2 h208)
  | succ k ih =>
    intro i V1 hk ti
    refine x_iload (pc := 21) C dL_told_21 rfl ?_
    refine x_bipush (pc := 23) C (7) dL_told_23 (by decide) ?_
    refine x_icmp_ge (pc := 25) (tgt := 163) C dL_told_25 (by decide) (fun h25 => absurd h25 (by exact nI_ge (a := i) (b := 7) (by omega) (by omega))) (fun h25 => ?_)
    refine x_iconst (pc := 28) C (0) dL_told_28 (by decide) ?_
    refine y_istore (pc := 29) C dL_told_29 (by decide) rfl ?_
    suffices keyk2 : ∀ (k2 j : Nat) (V2 : VV), k2 + j = 8 → (TI V V2 n (fun s => (RF V 2 s).toInt < ((i : Nat) : Int)) (fun q => wkN V n q (if q < j then i + 1 else i))) → Wx E 31 [some (aR 0), some (aI x), some (aR 210), some (aR 211), some (aR 212), some (aR 213), some (aR 219), some (aR 221), some (aI 0), some (aI 0), some (aI (nI (i))), some (aI (nI (j))), none, none, none] [] V2 L N (I ++ [219] ++ [221]) (2 + 18 * i + 2 * j) (36 + 284 * i + 34 * j) by
      exact keyk2 (8) (0) _ (by omega) (ti.mono (fun _ _ h => h) (fun q _ => by rw [if_neg (Nat.not_lt_zero q)]))
    intro k2
    induction k2 with
    | zero =>
      intro j V2 hk2 tj
      refine x_iload (pc := 31) C dL_told_31 rfl ?_
      refine x_bipush (pc := 33) C (8) dL_told_33 (by decide) ?_
      refine x_icmp_ge (pc := 35) (tgt := 83) C dL_told_35 (by decide) (fun h35 => ?_) (fun h35 => absurd (by exact nI_le (a := 8) (b := j) (by omega) (by omega)) h35)
      have tB : TI V V2 n (fun s => (RF V 2 s).toInt < ((i : Nat) : Int)) (fun k => wkN V n k (i + 1)) := tj.mono (fun _ _ h => h) (fun q hq => by rw [if_pos (by omega)])
      refine x_iload (pc := 83) C dL_told_83 rfl ?_
      refine x_aload_n (pc := 85) C dL_told_85 rfl ?_
      refine x_aload (pc := 86) C dL_told_86 rfl ?_
      refine x_aload (pc := 88) C dL_told_88 rfl ?_
      refine x_aload (pc := 90) C dL_told_90 rfl ?_
      refine x_gS5 (pc := 92) C [219, 221] hJ s_L_30 dL_told_92 (d_L_clock hI h219 (ht.st tB.1).d1 hn6 ((ht.st tB.1).sb (hP.st tB.1)) (nI i)) (by decide) rfl ⟨by omega, by omega⟩ ?_
      have tC := tB.ck ht (d := nI i)
      refine x_pop (pc := 95) C dL_told_95 rfl ?_
      refine x_iload_n (pc := 96) C dL_told_96 rfl ?_
      refine x_iload (pc := 97) C dL_told_97 rfl ?_
      refine x_ishr (pc := 99) C dL_told_99 ?_
      refine x_bipush (pc := 100) C (24) dL_told_100 (by decide) ?_
      refine x_gS2 (pc := 102) C [219, 221] hJ s_L_47 dL_told_102 (c_L_at _ 24 (by decide)) (by decide) rfl ⟨by omega, by omega⟩ ?_
      obtain ⟨x24, hx24, ex24⟩ := at_n (x >>> (nI i &&& 31)) (n := 24) (by decide) (by decide)
      refine x_topi (nI x24) ex24 ?_
      refine y_istore (pc := 105) C dL_told_105 (by decide) rfl ?_
      refine x_aload_n (pc := 107) C dL_told_107 rfl ?_
      refine x_iload (pc := 108) C dL_told_108 rfl ?_
      refine x_iload (pc := 110) C dL_told_110 rfl ?_
      refine x_iconst (pc := 112) C (0) dL_told_112 (by decide) ?_
      refine x_aV3 (pc := 113) (o := 0) C [219, 221] hJ v_L_50 dL_told_113 (t_spF hI hP tC.1 (d := i) (by omega) hx24) (hI 0 rfl) rfl (by decide) rfl ⟨by omega, by omega⟩ (fun M24 q24 => ?_)
      have t24 := tC.sq q24
      refine x_iload (pc := 116) C dL_told_116 rfl ?_
      refine x_iload (pc := 118) C dL_told_118 rfl ?_
      refine x_aload (pc := 120) C dL_told_120 rfl ?_
      refine x_aload (pc := 122) C dL_told_122 rfl ?_
      refine x_gS4 (pc := 124) C [219, 221] hJ s_L_26 dL_told_124 (tl_planned hI hP ht t24.1 hx24) (by decide) rfl ⟨by omega, by omega⟩ ?_
      refine x_icmp_ne (pc := 127) (tgt := 155) C dL_told_127 (by decide) (fun h127 => absurd (by rfl) h127) (fun h127 => ?_)
      refine x_aload_n (pc := 130) C dL_told_130 rfl ?_
      refine x_iload (pc := 131) C dL_told_131 rfl ?_
      refine x_iload (pc := 133) C dL_told_133 rfl ?_
      refine x_iconst (pc := 135) C (1) dL_told_135 (by decide) ?_
      refine x_aV3 (pc := 136) (o := 0) C [219, 221] hJ v_L_50 dL_told_136 (t_spT hI hP t24.1 (d := i) (by omega) hx24) (hI 0 rfl) rfl (by decide) rfl ⟨by omega, by omega⟩ (fun M25 q25 => ?_)
      have t25 := t24.sq q25
      refine x_iload (pc := 139) C dL_told_139 rfl ?_
      refine x_iload (pc := 141) C dL_told_141 rfl ?_
      refine x_aload (pc := 143) C dL_told_143 rfl ?_
      refine x_aload (pc := 145) C dL_told_145 rfl ?_
      refine x_aload (pc := 147) C dL_told_147 rfl ?_
      refine x_gS5 (pc := 149) C [219, 221] hJ s_L_34 dL_told_149 (tl_aired hI h219 hP ht t25.1 hx24 (fun s a b k c => t25.2.1 s a (Or.inr b) k c)) (by decide) rfl ⟨by omega, by omega⟩ ?_
      refine x_icmp_eq (pc := 152) (tgt := 157) C dL_told_152 (by decide) (fun h152 => ?_) (fun h152 => absurd (by rfl) h152)
      refine y_iinc (pc := 157) C (nI (i + 1)) dL_told_157 rfl (by exact nI_1 i) (by decide) rfl ?_
      refine x_goto (pc := 160) (tgt := 21) C dL_told_160 (by decide) ?_
      refine x_fgt 11 ?_
      refine x_fgt 12 ?_
      refine x_wid (a' := 2 + 18 * (i + 1)) (b' := 36 + 284 * (i + 1)) (by omega) (by omega) ?_
      exact ih (i + 1) _ (by omega) (t25.mono (fun s _ h => day_lt (by omega) h) (fun _ _ => rfl))
    | succ k2 ih2 =>
      intro j V2 hk2 tj
      refine x_iload (pc := 31) C dL_told_31 rfl ?_
      refine x_bipush (pc := 33) C (8) dL_told_33 (by decide) ?_
      refine x_icmp_ge (pc := 35) (tgt := 83) C dL_told_35 (by decide) (fun h35 => absurd h35 (by exact nI_ge (a := j) (b := 8) (by omega) (by omega))) (fun h35 => ?_)
      refine x_iload (pc := 38) C dL_told_38 rfl ?_
      refine x_iload (pc := 40) C dL_told_40 rfl ?_
      refine x_aload_n (pc := 42) C dL_told_42 rfl ?_
      refine x_aload (pc := 43) C dL_told_43 rfl ?_
      refine x_aload (pc := 45) C dL_told_45 rfl ?_
      refine x_gS5 (pc := 47) C [219, 221] hJ s_L_38 dL_told_47 (tl_dayPart hI h218 hP ht tj.1 (d := i) (w := j) (by omega)) (by decide) rfl ⟨by omega, by omega⟩ ?_
      refine y_istore (pc := 50) C dL_told_50 (by decide) rfl ?_
      refine x_aload (pc := 52) C dL_told_52 rfl ?_
      refine x_iload (pc := 54) C dL_told_54 rfl ?_
      refine x_dup2 (pc := 56) C dL_told_56 rfl rfl ?_
      refine x_iald (pc := 57) (o := 221) C dL_told_57 h221 ⟨rfl, rfl⟩ (show _ < 8 by omega) (by decide) ?_
      refine x_topi (wkN V n j i) ((tj.2.2 j (by omega)).trans (by dsimp only; rw [if_neg (Nat.lt_irrefl j)])) ?_
      refine x_iload (pc := 58) C dL_told_58 rfl ?_
      refine x_iadd (pc := 60) C dL_told_60 ?_
      refine x_iast (pc := 61) (o := 221) C dL_told_61 h221 ⟨rfl, rfl⟩ (show _ < 8 by omega) (by decide) ?_
      have tu := tj.up (k := j) (x := wkN V n j i + dN V n (nI i) j)
      refine x_aload_n (pc := 62) C dL_told_62 rfl ?_
      refine x_iload (pc := 63) C dL_told_63 rfl ?_
      refine x_iload (pc := 65) C dL_told_65 rfl ?_
      refine x_aV2 (pc := 67) (o := 0) C [219, 221] hJ v_L_41 dL_told_67 (t_day hI hP tu.1 (d := i) (w := j) (by omega) (by omega)) (hI 0 rfl) rfl (by decide) rfl ⟨by omega, by omega⟩ (fun M26 q26 => ?_)
      have t26 := tu.sq q26
      refine x_iload (pc := 70) C dL_told_70 rfl ?_
      refine x_icmp_eq (pc := 72) (tgt := 77) C dL_told_72 (by decide) (fun h72 => ?_) (fun h72 => absurd (by rfl) h72)
      refine y_iinc (pc := 77) C (nI (j + 1)) dL_told_77 rfl (by exact nI_1 j) (by decide) rfl ?_
      refine x_goto (pc := 80) (tgt := 31) C dL_told_80 (by decide) ?_
      refine x_fgt 12 ?_
      refine x_wid (a' := 2 + 18 * i + 2 * (j + 1)) (b' := 36 + 284 * i + 34 * (j + 1)) (by omega) (by omega) ?_
      exact ih2 (j + 1) _ (by omega) (t26.mono (fun _ _ h => h) (fun q _ => if e : q = j then (by rw [if_pos e, if_pos (by omega), e]; rfl) else if e2 : q < j then (by rw [if_neg e, if_pos e2, if_pos (by omega)]) else (by rw [if_neg e, if_neg e2, if_neg (by omega)])))
