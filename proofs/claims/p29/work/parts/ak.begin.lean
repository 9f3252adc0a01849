set_option maxRecDepth 100000 in
set_option maxHeartbeats 2000000 in
theorem w_begin {E : EE} {MC MS bq len : Nat} {xs : Nat → Int32} (C : OK E RL cL_law 16 (some .boolean) 11 MC MS) (hsc : Sc E bq len xs) (hlen : len ≤ 3584) (hr : 1000 + 24000 ≤ MC ∧ 13000 + 312000 ≤ MS) (hEnd : ∀ ls V L N I a b, a ≤ MC → b ≤ MS → Wx E 560 ls [aI 1] V L N I a b) :
    Wx E 52 [some (aQ bq), some (aR 0), some (aR 210), some (aR 211), some (aR 212), some (aR 213), some (aR 214), some (aR 215), some (aR 216), some (aR 217), none, none, none, none, none, none] [] V00 L00 N00 I00 100 5000 := by
  have hI : PI I00 := inv00.2.2.1.1.1
  refine x_iconst (pc := 52) C (0) dL_law_52 (by decide) ?_
  refine y_istore (pc := 53) C dL_law_53 (by decide) rfl ?_
  refine x_mem seM_0 ?_
  suffices keyk : ∀ (k i : Nat) , k + i = 8 → (True) → Wx E 55 [some (aQ bq), some (aR 0), some (aR 210), some (aR 211), some (aR 212), some (aR 213), some (aR 214), some (aR 215), some (aR 216), some (aR 217), some (aI (nI (i))), none, none, none, none, none] [] (seM i) L00 N00 I00 100 5000 by
    exact keyk (8) (0)  (by omega) (trivial)
  intro k
  induction k with
  | zero =>
    intro i  hk hinv
    refine x_iload (pc := 55) C dL_law_55 rfl ?_
    refine x_bipush (pc := 57) C (8) dL_law_57 (by decide) ?_
    refine x_icmp_ge (pc := 59) (tgt := 153) C dL_law_59 (by decide) (fun h59 => ?_) (fun h59 => absurd (by exact nI_le (a := 8) (b := i) (by omega) (by omega)) h59)
    obtain rfl : i = 8 := by omega
    refine x_fgt 10 ?_
    refine x_iconst (pc := 153) C (0) dL_law_153 (by decide) ?_
    refine y_istore (pc := 154) C dL_law_154 (by decide) rfl ?_
    refine x_mem grM_0 ?_
    suffices keyk2 : ∀ (k2 i : Nat) , k2 + i = 6 → (True) → Wx E 156 [some (aQ bq), some (aR 0), some (aR 210), some (aR 211), some (aR 212), some (aR 213), some (aR 214), some (aR 215), some (aR 216), some (aR 217), some (aI (nI (i))), none, none, none, none, none] [] (grM i) L00 N00 I00 100 5000 by
      exact keyk2 (6) (0)  (by omega) (trivial)
    intro k2
    induction k2 with
    | zero =>
      intro i  hk2 hi2
      refine x_iload (pc := 156) C dL_law_156 rfl ?_
      refine x_bipush (pc := 158) C (6) dL_law_158 (by decide) ?_
      refine x_icmp_ge (pc := 160) (tgt := 178) C dL_law_160 (by decide) (fun h160 => ?_) (fun h160 => absurd (by exact nI_le (a := 6) (b := i) (by omega) (by omega)) h160)
      obtain rfl : i = 6 := by omega
      refine x_fgt 10 ?_
      obtain ⟨n, o, l0, hX, hT, hw⟩ := li00
      have hx : ∀ i, 218 ≤ i → i ∉ I00 := fun i hi => li00.no (Or.inr (Or.inr hi))
      refine x_aload_n (pc := 178) C dL_law_178 rfl ?_
      refine x_iconst (pc := 179) C (0) dL_law_179 (by decide) ?_
      refine x_aload_n (pc := 180) C dL_law_180 rfl ?_
      refine x_aload_n (pc := 181) C dL_law_181 rfl ?_
      refine x_aload (pc := 182) C dL_law_182 rfl ?_
      refine x_aload (pc := 184) C dL_law_184 rfl ?_
      refine x_gpS6 (pc := 186) C [] (fun _ h => nomatch h) s_L_126 dL_law_186 (c_L_told hI hx ⟨hX.1, hX.2.1⟩ hT (hX.2.2.1.2.2.2.1.trans hX.2.2.2.2.1.symm) _) (by decide) rfl ⟨by omega, by omega⟩ (fun Va qa => ?_)
      refine x_if_ne (pc := 189) (tgt := 194) C dL_law_189 (by decide) (fun h189 => ?_) (fun h189 => absurd h189 (by decide))
      refine x_iconst (pc := 194) C (1) dL_law_194 (by decide) ?_
      refine x_topi (nI 1) (by decide) ?_
      refine y_istore (pc := 195) C dL_law_195 (by decide) rfl ?_
      refine x_wid (a' := 1000 + 1000 * 1) (b' := 13000 + 13000 * 1) (by omega) (by omega) ?_
      exact w_turns C hsc hlen (a0 := 1000) (b0 := 13000) hr hEnd 23 1 _ _ _ _ rfl (by decide) ⟨0, li00.sq qa⟩
    | succ k2 ih2 =>
      intro i  hk2 hi2
      refine x_iload (pc := 156) C dL_law_156 rfl ?_
      refine x_bipush (pc := 158) C (6) dL_law_158 (by decide) ?_
      refine x_icmp_ge (pc := 160) (tgt := 178) C dL_law_160 (by decide) (fun h160 => absurd h160 (by exact nI_ge (a := i) (b := 6) (by omega) (by omega))) (fun h160 => ?_)
      refine x_aload_n (pc := 163) C dL_law_163 rfl ?_
      refine x_iconst (pc := 164) C (5) dL_law_164 (by decide) ?_
      refine x_iload (pc := 165) C dL_law_165 rfl ?_
      refine x_imul (pc := 167) C dL_law_167 ?_
      refine x_topi (nI (5 * i)) (pk_mul (5) (i)) ?_
      refine x_sipush (pc := 168) C (300) dL_law_168 (by decide) ?_
      refine x_iast (pc := 171) (o := 211) C dL_law_171 (hI 211 rfl) ⟨rfl, rfl⟩ (show _ < 30 by omega) (by decide) ?_
      refine y_iinc (pc := 172) C (nI (i + 1)) dL_law_172 rfl (by exact nI_1 i) (by decide) rfl ?_
      refine x_goto (pc := 175) (tgt := 156) C dL_law_175 (by decide) ?_
      refine x_mem grM_s ?_
      exact ih2 (i + 1) (by omega) trivial
  | succ k ih =>
    intro i  hk hinv
    refine x_iload (pc := 55) C dL_law_55 rfl ?_
    refine x_bipush (pc := 57) C (8) dL_law_57 (by decide) ?_
    refine x_icmp_ge (pc := 59) (tgt := 153) C dL_law_59 (by decide) (fun h59 => absurd h59 (by exact nI_ge (a := i) (b := 8) (by omega) (by omega))) (fun h59 => ?_)
    refine x_aload_n (pc := 62) C dL_law_62 rfl ?_
    refine x_iload (pc := 63) C dL_law_63 rfl ?_
    refine x_iload (pc := 65) C dL_law_65 rfl ?_
    refine x_if_ne (pc := 67) (tgt := 76) C dL_law_67 (by decide) (fun h67 => ?_) (fun h67 => ?_)
    · have n0 : ¬ i = 0 := fun z => h67 (by rw [z]; rfl)
      refine x_iload (pc := 76) C dL_law_76 rfl ?_
      refine x_iconst (pc := 78) C (1) dL_law_78 (by decide) ?_
      refine x_icmp_ne (pc := 79) (tgt := 88) C dL_law_79 (by decide) (fun h79 => ?_) (fun h79 => ?_)
      · have n1 : ¬ i = 1 := fun z => h79 (by rw [z]; rfl)
        refine x_iload (pc := 88) C dL_law_88 rfl ?_
        refine x_iconst (pc := 90) C (2) dL_law_90 (by decide) ?_
        refine x_icmp_ne (pc := 91) (tgt := 99) C dL_law_91 (by decide) (fun h91 => ?_) (fun h91 => ?_)
        · have n2 : ¬ i = 2 := fun z => h91 (by rw [z]; rfl)
          refine x_iload (pc := 99) C dL_law_99 rfl ?_
          refine x_iconst (pc := 101) C (3) dL_law_101 (by decide) ?_
          refine x_icmp_ne (pc := 102) (tgt := 110) C dL_law_102 (by decide) (fun h102 => ?_) (fun h102 => ?_)
          · have n3 : ¬ i = 3 := fun z => h102 (by rw [z]; rfl)
            refine x_iload (pc := 110) C dL_law_110 rfl ?_
            refine x_iconst (pc := 112) C (4) dL_law_112 (by decide) ?_
            refine x_icmp_ne (pc := 113) (tgt := 121) C dL_law_113 (by decide) (fun h113 => ?_) (fun h113 => ?_)
            · have n4 : ¬ i = 4 := fun z => h113 (by rw [z]; rfl)
              refine x_iload (pc := 121) C dL_law_121 rfl ?_
              refine x_iconst (pc := 123) C (5) dL_law_123 (by decide) ?_
              refine x_icmp_ne (pc := 124) (tgt := 132) C dL_law_124 (by decide) (fun h124 => ?_) (fun h124 => ?_)
              · have n5 : ¬ i = 5 := fun z => h124 (by rw [z]; rfl)
                refine x_iload (pc := 132) C dL_law_132 rfl ?_
                refine x_bipush (pc := 134) C (6) dL_law_134 (by decide) ?_
                refine x_icmp_ne (pc := 136) (tgt := 144) C dL_law_136 (by decide) (fun h136 => ?_) (fun h136 => ?_)
                · have n6 : ¬ i = 6 := fun z => h136 (by rw [z]; rfl)
                  have yi : i = 7 := by omega
                  refine x_bipush (pc := 144) C (120) dL_law_144 (by decide) ?_
                  refine x_iast (pc := 146) (o := 210) C dL_law_146 (hI 210 rfl) ⟨rfl, rfl⟩ (show _ < 8 by omega) (by decide) ?_
                  refine y_iinc (pc := 147) C (nI (i + 1)) dL_law_147 rfl (by exact nI_1 i) (by decide) rfl ?_
                  refine x_goto (pc := 150) (tgt := 55) C dL_law_150 (by decide) ?_
                  refine x_mem (seM_s (by rw [yi]; decide +kernel)) ?_
                  exact ih (i + 1) (by omega) trivial
                · have yi : i = 6 := nI_w (k := 6) (by omega) (by decide) h136
                  refine x_bipush (pc := 139) C (8) dL_law_139 (by decide) ?_
                  refine x_goto (pc := 141) (tgt := 146) C dL_law_141 (by decide) ?_
                  refine x_iast (pc := 146) (o := 210) C dL_law_146 (hI 210 rfl) ⟨rfl, rfl⟩ (show _ < 8 by omega) (by decide) ?_
                  refine y_iinc (pc := 147) C (nI (i + 1)) dL_law_147 rfl (by exact nI_1 i) (by decide) rfl ?_
                  refine x_goto (pc := 150) (tgt := 55) C dL_law_150 (by decide) ?_
                  refine x_mem (seM_s (by rw [yi]; decide +kernel)) ?_
                  exact ih (i + 1) (by omega) trivial
              · have yi : i = 5 := nI_w (k := 5) (by omega) (by decide) h124
                refine x_bipush (pc := 127) C (50) dL_law_127 (by decide) ?_
                refine x_goto (pc := 129) (tgt := 146) C dL_law_129 (by decide) ?_
                refine x_iast (pc := 146) (o := 210) C dL_law_146 (hI 210 rfl) ⟨rfl, rfl⟩ (show _ < 8 by omega) (by decide) ?_
                refine y_iinc (pc := 147) C (nI (i + 1)) dL_law_147 rfl (by exact nI_1 i) (by decide) rfl ?_
                refine x_goto (pc := 150) (tgt := 55) C dL_law_150 (by decide) ?_
                refine x_mem (seM_s (by rw [yi]; decide +kernel)) ?_
                exact ih (i + 1) (by omega) trivial
            · have yi : i = 4 := nI_w (k := 4) (by omega) (by decide) h113
              refine x_bipush (pc := 116) C (20) dL_law_116 (by decide) ?_
              refine x_goto (pc := 118) (tgt := 146) C dL_law_118 (by decide) ?_
              refine x_iast (pc := 146) (o := 210) C dL_law_146 (hI 210 rfl) ⟨rfl, rfl⟩ (show _ < 8 by omega) (by decide) ?_
              refine y_iinc (pc := 147) C (nI (i + 1)) dL_law_147 rfl (by exact nI_1 i) (by decide) rfl ?_
              refine x_goto (pc := 150) (tgt := 55) C dL_law_150 (by decide) ?_
              refine x_mem (seM_s (by rw [yi]; decide +kernel)) ?_
              exact ih (i + 1) (by omega) trivial
          · have yi : i = 3 := nI_w (k := 3) (by omega) (by decide) h102
            refine x_bipush (pc := 105) C (60) dL_law_105 (by decide) ?_
            refine x_goto (pc := 107) (tgt := 146) C dL_law_107 (by decide) ?_
            refine x_iast (pc := 146) (o := 210) C dL_law_146 (hI 210 rfl) ⟨rfl, rfl⟩ (show _ < 8 by omega) (by decide) ?_
            refine y_iinc (pc := 147) C (nI (i + 1)) dL_law_147 rfl (by exact nI_1 i) (by decide) rfl ?_
            refine x_goto (pc := 150) (tgt := 55) C dL_law_150 (by decide) ?_
            refine x_mem (seM_s (by rw [yi]; decide +kernel)) ?_
            exact ih (i + 1) (by omega) trivial
        · have yi : i = 2 := nI_w (k := 2) (by omega) (by decide) h91
          refine x_bipush (pc := 94) C (10) dL_law_94 (by decide) ?_
          refine x_goto (pc := 96) (tgt := 146) C dL_law_96 (by decide) ?_
          refine x_iast (pc := 146) (o := 210) C dL_law_146 (hI 210 rfl) ⟨rfl, rfl⟩ (show _ < 8 by omega) (by decide) ?_
          refine y_iinc (pc := 147) C (nI (i + 1)) dL_law_147 rfl (by exact nI_1 i) (by decide) rfl ?_
          refine x_goto (pc := 150) (tgt := 55) C dL_law_150 (by decide) ?_
          refine x_mem (seM_s (by rw [yi]; decide +kernel)) ?_
          exact ih (i + 1) (by omega) trivial
      · have yi : i = 1 := nI_w (k := 1) (by omega) (by decide) h79
        refine x_sipush (pc := 82) C (1380) dL_law_82 (by decide) ?_
        refine x_goto (pc := 85) (tgt := 146) C dL_law_85 (by decide) ?_
        refine x_iast (pc := 146) (o := 210) C dL_law_146 (hI 210 rfl) ⟨rfl, rfl⟩ (show _ < 8 by omega) (by decide) ?_
        refine y_iinc (pc := 147) C (nI (i + 1)) dL_law_147 rfl (by exact nI_1 i) (by decide) rfl ?_
        refine x_goto (pc := 150) (tgt := 55) C dL_law_150 (by decide) ?_
        refine x_mem (seM_s (by rw [yi]; decide +kernel)) ?_
        exact ih (i + 1) (by omega) trivial
    · have yi : i = 0 := nI_w (k := 0) (by omega) (by decide) h67
      refine x_sipush (pc := 70) C (480) dL_law_70 (by decide) ?_
      refine x_goto (pc := 73) (tgt := 146) C dL_law_73 (by decide) ?_
      refine x_iast (pc := 146) (o := 210) C dL_law_146 (hI 210 rfl) ⟨rfl, rfl⟩ (show _ < 8 by omega) (by decide) ?_
      refine y_iinc (pc := 147) C (nI (i + 1)) dL_law_147 rfl (by exact nI_1 i) (by decide) rfl ?_
      refine x_goto (pc := 150) (tgt := 55) C dL_law_150 (by decide) ?_
      refine x_mem (seM_s (by rw [yi]; decide +kernel)) ?_
      exact ih (i + 1) (by omega) trivial
