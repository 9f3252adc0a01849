set_option maxRecDepth 100000 in
set_option maxHeartbeats 4000000 in
theorem c_L_dayPart {l : Launch} {V : VV} {L : LL} {N : NN} {I : List Nat} (hI : PI I) (h218 : 218 ∉ I) {n : Nat} (hn : V 212 1 = nI n) (hn6 : n ≤ 6) (hB : ∀ s, s < n → ShB (GF V) s) (hG : GB (V 210)) (d : Int32) (w : Nat) (hw : w < 8) : Runs l 3 1 28 yL_dayPart (Cond.code yL_dayPart cL_dayPart 10 (some .int)) [aI d, aI (nI w), aR 210, aR 212, aR 213] V L N I (Is (some (aI (dayR (GF V) (airR (GF V) (V 210)) (clkR (GF V) (V 210) d n) (V 210 6) n d w))) (V) (L) N I) := by
  refine run_of RL (by decide +kernel) rfl (Nat.le_of_ble_eq_true rfl) (fun E hE C hQ hN => ?_)
  subst hE
  have hE : ¬ eI E 218 := by rw [hQ.2]; exact fun q => q.elim (fun e => absurd e (by decide)) (fun e => h218 e)
  have hPI := hI
  refine x_bipush (pc := 0) C (28) dL_dayPart_0 (by decide) ?_
  refine x_topi (nI 28) (by decide) ?_
  refine x_newA (pc := 2) C 218 (Or.inl rfl) rfl h218 [] (fun _ h => nomatch h) dL_dayPart_2 rfl ⟨by decide, by decide⟩ ?_
  have hI : PI (I ++ [218]) := fun i h => List.mem_append_left _ (hPI i h)
  have h218i : 218 ∈ I ++ [218] := List.mem_append_right _ List.mem_cons_self
  have hJ : ∀ j, j ∈ [218] → j ∈ I ++ [218] := fun j h => List.mem_append_right _ h
  refine y_astore (pc := 4) C dL_dayPart_4 (by decide) rfl ?_
  refine x_iload_n (pc := 6) C dL_dayPart_6 rfl ?_
  refine x_aload_n (pc := 7) C dL_dayPart_7 rfl ?_
  refine x_aload_n (pc := 8) C dL_dayPart_8 rfl ?_
  refine x_aload (pc := 9) C dL_dayPart_9 rfl ?_
  refine x_aload (pc := 11) C dL_dayPart_11 rfl ?_
  refine x_gS5 (pc := 13) C [218] hJ s_L_30 dL_dayPart_13 (c_L_clock (V := upR V 218) hI h218i hn hn6 hB d) (by decide) rfl ⟨Nat.le_refl _, Nat.le_refl _⟩ ?_
  obtain ⟨V2, hV2e⟩ : ∃ V2, V2 = ckW 218 (upR V 218) d n := ⟨_, rfl⟩
  rw [← hV2e]
  have hV2 : ∀ j, j ≠ 218 → V2 j = V j := fun j hj => by rw [hV2e, ckW_no hj]; exact if_neg hj
  have hA : ∀ s, s < n → GF V 2 s = d → ∀ k, k < 4 → AW 218 V2 k s = airR (GF V) (V 210) k s := fun s hs hd k hk => by rw [hV2e]; exact ckW_at (V := upR V 218) hs hd hk
  clear hV2e
  have hGF : GF V2 = GF V := funext fun k => funext fun s => congrFun (hV2 213 (by decide)) _
  have hn : V2 212 1 = nI n := (congrFun (hV2 212 (by decide)) 1).trans hn
  refine y_istore (pc := 16) C dL_dayPart_16 (by decide) rfl ?_
  refine x_iconst (pc := 18) C (0) dL_dayPart_18 (by decide) ?_
  refine y_istore (pc := 19) C dL_dayPart_19 (by decide) rfl ?_
  refine x_iconst (pc := 21) C (0) dL_dayPart_21 (by decide) ?_
  refine y_istore (pc := 22) C dL_dayPart_22 (by decide) rfl ?_
  have J244 : ∀ s : Int32, (¬ w = 6 → s = dayR (GF V) (airR (GF V) (V 210)) (clkR (GF V) (V 210) d n) (V 210 6) n d w) → Wx E 244 [some (aI d), some (aI (nI w)), some (aR 210), some (aR 212), some (aR 213), some (aR 218), some (aI (clkR (GF V) (V 210) d n)), some (aI s), none, none] [] V2 L N (I ++ [218]) 1 28 := by
    intro s hs
    refine x_iload_n (pc := 244) C dL_dayPart_244 rfl ?_
    refine x_bipush (pc := 245) C (6) dL_dayPart_245 (by decide) ?_
    refine x_icmp_ne (pc := 247) (tgt := 255) C dL_dayPart_247 (by decide) (fun h247 => ?_) (fun h247 => ?_)
    · have h6 : ¬ w = 6 := fun z => h247 (by rw [z]; rfl)
      refine x_iload (pc := 255) C dL_dayPart_255 rfl ?_
      refine x_drop (x := 218) hE ?_
      refine x_vcg (V' := V) (fun i hi => hV2 i (fun e => h218 (e ▸ hi))) ?_
      exact x_iret (pc := 257) C hQ dL_dayPart_257 (is_i (by first | exact hs h6 | rfl)) (Nat.le_of_ble_eq_true rfl) (Nat.le_of_ble_eq_true rfl)
    · obtain rfl : w = 6 := nI_w (k := 6) hw (by decide) h247
      refine x_iload (pc := 250) C dL_dayPart_250 rfl ?_
      refine x_goto (pc := 252) (tgt := 257) C dL_dayPart_252 (by decide) ?_
      refine x_drop (x := 218) hE ?_
      refine x_vcg (V' := V) (fun i hi => hV2 i (fun e => h218 (e ▸ hi))) ?_
      exact x_iret (pc := 257) C hQ dL_dayPart_257 (is_i (by first | exact hs h6 | rfl)) (Nat.le_of_ble_eq_true rfl) (Nat.le_of_ble_eq_true rfl)
  have J194 : ∀ s : Int32, s = sumTo (fun s => if GF V 2 s = d then partR (GF V) (airR (GF V) (V 210)) w s else 0) n → Wx E 194 [some (aI d), some (aI (nI w)), some (aR 210), some (aR 212), some (aR 213), some (aR 218), some (aI (clkR (GF V) (V 210) d n)), some (aI s), none, none] [] V2 L N (I ++ [218]) 1 28 := by
    intro s hs
    by_cases h7 : w = 7
    · subst h7
      have hz : sumTo (fun s => if GF V 2 s = d then partR (GF V) (airR (GF V) (V 210)) 7 s else 0) n = 0 := sumTo_0 fun s _ => by split <;> simp [partR]
      refine x_iconst (pc := 194) C (0) dL_dayPart_194 (by decide) ?_
      refine y_istore (pc := 195) C dL_dayPart_195 (by decide) rfl ?_
      suffices keyk : ∀ (k x : Nat) (s : Int32), k + x = 24 → (s = sumTo (fun h => if V 210 6 < airedR (GF V) (airR (GF V) (V 210)) n d (nI h) then 1 else 0) x) → Wx E 197 [some (aI d), some (aI (nI 7)), some (aR 210), some (aR 212), some (aR 213), some (aR 218), some (aI (clkR (GF V) (V 210) d n)), some (aI s), some (aI (nI x)), none] [] V2 L N (I ++ [218]) 1 28 by
        exact keyk (24) (0) s (by omega) (by rw [hs, hz]; rfl)
      intro k
      induction k with
      | zero =>
        intro x s hk hinv
        refine x_iload (pc := 197) C dL_dayPart_197 rfl ?_
        refine x_bipush (pc := 199) C (24) dL_dayPart_199 (by decide) ?_
        refine x_icmp_ge (pc := 201) (tgt := 244) C dL_dayPart_201 (by decide) (fun h201 => ?_) (fun h201 => absurd (by exact nI_le (a := 24) (b := x) (by omega) (by omega)) h201)
        refine x_fgt 8 ?_
        refine J244 s (fun _ => ?_)
        rw [hinv, show x = 24 by omega]
        unfold dayR
        rw [if_neg (by decide), if_pos rfl, sumTo2_a (fun s _ => by split <;> simp [partR])]
        rfl
      | succ k ih =>
        intro x s hk hinv
        refine x_iload (pc := 197) C dL_dayPart_197 rfl ?_
        refine x_bipush (pc := 199) C (24) dL_dayPart_199 (by decide) ?_
        refine x_icmp_ge (pc := 201) (tgt := 244) C dL_dayPart_201 (by decide) (fun h201 => absurd h201 (by exact nI_ge (a := x) (b := 24) (by omega) (by omega))) (fun h201 => ?_)
        refine x_iload_n (pc := 204) C dL_dayPart_204 rfl ?_
        refine x_bipush (pc := 205) C (7) dL_dayPart_205 (by decide) ?_
        refine x_icmp_ne (pc := 207) (tgt := 244) C dL_dayPart_207 (by decide) (fun h207 => absurd h207 (by exact fun q => q rfl)) (fun h207 => ?_)
        refine x_iload (pc := 210) C dL_dayPart_210 rfl ?_
        refine x_iload_n (pc := 212) C dL_dayPart_212 rfl ?_
        refine x_iload (pc := 213) C dL_dayPart_213 rfl ?_
        refine x_aload_n (pc := 215) C dL_dayPart_215 rfl ?_
        refine x_aload (pc := 216) C dL_dayPart_216 rfl ?_
        refine x_aload (pc := 218) C dL_dayPart_218 rfl ?_
        refine x_gS5 (pc := 220) C [218] hJ s_L_34 dL_dayPart_220 (c_L_aired (V := V2) hI h218i hn hn6 (G := V 210) hG (by rw [show GF V2 = GF V from funext fun k => funext fun s => congrFun (hV2 213 (by decide)) _]; exact hB) d (by rw [show GF V2 = GF V from funext fun k => funext fun s => congrFun (hV2 213 (by decide)) _]; exact hA) x (by omega)) (by decide) rfl ⟨Nat.le_refl _, Nat.le_refl _⟩ ?_
        refine x_topi (airedR (GF V) (airR (GF V) (V 210)) n d (nI x)) (by rw [hGF, airedR_congr hA]) ?_
        refine x_aload_n (pc := 223) C dL_dayPart_223 rfl ?_
        refine x_bipush (pc := 224) C (6) dL_dayPart_224 (by decide) ?_
        refine x_topi (nI 6) (by decide) ?_
        refine x_iald (pc := 226) (o := 210) C dL_dayPart_226 (hI 210 rfl) ⟨rfl, rfl⟩ (show _ < 8 by decide) (by decide) ?_
        refine x_topi (V 210 6) (congrFun (hV2 210 (by decide)) _) ?_
        refine x_icmp_le (pc := 227) (tgt := 234) C dL_dayPart_227 (by decide) (fun h227 => ?_) (fun h227 => ?_)
        · refine x_iconst (pc := 234) C (0) dL_dayPart_234 (by decide) ?_
          refine x_iadd (pc := 235) C dL_dayPart_235 ?_
          refine y_istore (pc := 236) C dL_dayPart_236 (by decide) rfl ?_
          refine y_iinc (pc := 238) C (nI (x + 1)) dL_dayPart_238 rfl (by exact nI_1 x) (by decide) rfl ?_
          refine x_goto (pc := 241) (tgt := 197) C dL_dayPart_241 (by decide) ?_
          exact ih (x + 1) _ (by omega) (by rw [hinv, Int32.add_zero, sumTo, if_neg (Int32.not_lt.mpr h227), Int32.add_zero])
        · refine x_iconst (pc := 230) C (1) dL_dayPart_230 (by decide) ?_
          refine x_goto (pc := 231) (tgt := 235) C dL_dayPart_231 (by decide) ?_
          refine x_iadd (pc := 235) C dL_dayPart_235 ?_
          refine y_istore (pc := 236) C dL_dayPart_236 (by decide) rfl ?_
          refine y_iinc (pc := 238) C (nI (x + 1)) dL_dayPart_238 rfl (by exact nI_1 x) (by decide) rfl ?_
          refine x_goto (pc := 241) (tgt := 197) C dL_dayPart_241 (by decide) ?_
          exact ih (x + 1) _ (by omega) (by rw [hinv, sumTo, if_pos (Int32.not_le.mp h227)])
    · have J := J244 s (fun h6 => by rw [hs]; unfold dayR; rw [if_neg h6, if_neg h7]; exact sumTo2_0.symm)
      refine x_iconst (pc := 194) C (0) dL_dayPart_194 (by decide) ?_
      refine y_istore (pc := 195) C dL_dayPart_195 (by decide) rfl ?_
      refine x_iload (pc := 197) C dL_dayPart_197 rfl ?_
      refine x_bipush (pc := 199) C (24) dL_dayPart_199 (by decide) ?_
      refine x_icmp_ge (pc := 201) (tgt := 244) C dL_dayPart_201 (by decide) (fun h201 => absurd h201 (by decide)) (fun h201 => ?_)
      refine x_iload_n (pc := 204) C dL_dayPart_204 rfl ?_
      refine x_bipush (pc := 205) C (7) dL_dayPart_205 (by decide) ?_
      refine x_icmp_ne (pc := 207) (tgt := 244) C dL_dayPart_207 (by decide) (fun h207 => ?_) (fun h207 => absurd h207 (by exact fun z => h7 (nI_w (k := 7) hw (by decide) z)))
      refine x_fgt 8 ?_
      exact J
  suffices keyk : ∀ (k i : Nat) (s : Int32), k + i = n → (s = sumTo (fun s => if GF V 2 s = d then partR (GF V) (airR (GF V) (V 210)) w s else 0) i) → Wx E 24 [some (aI d), some (aI (nI w)), some (aR 210), some (aR 212), some (aR 213), some (aR 218), some (aI (clkR (GF V) (V 210) d n)), some (aI s), some (aI (nI i)), none] [] V2 L N (I ++ [218]) 1 28 by
    exact keyk (n) (0) 0 (by omega) (rfl)
  intro k
  induction k with
  | zero =>
    intro i s hk hinv
    refine x_iload (pc := 24) C dL_dayPart_24 rfl ?_
    refine x_aload_n (pc := 26) C dL_dayPart_26 rfl ?_
    refine x_iconst (pc := 27) C (1) dL_dayPart_27 (by decide) ?_
    refine x_topi (nI 1) (by decide) ?_
    refine x_iald (pc := 28) (o := 212) C dL_dayPart_28 (hI 212 rfl) ⟨rfl, rfl⟩ (show _ < 3 by decide) (by decide) ?_
    refine x_topi (nI n) hn ?_
    refine x_icmp_ge (pc := 29) (tgt := 194) C dL_dayPart_29 (by decide) (fun h29 => ?_) (fun h29 => absurd (by exact nI_le (by omega) (by omega)) h29)
    refine x_fgt 8 ?_
    exact J194 s (by rw [hinv, show i = n by omega])
  | succ k ih =>
    intro i s hk hinv
    refine x_iload (pc := 24) C dL_dayPart_24 rfl ?_
    refine x_aload_n (pc := 26) C dL_dayPart_26 rfl ?_
    refine x_iconst (pc := 27) C (1) dL_dayPart_27 (by decide) ?_
    refine x_topi (nI 1) (by decide) ?_
    refine x_iald (pc := 28) (o := 212) C dL_dayPart_28 (hI 212 rfl) ⟨rfl, rfl⟩ (show _ < 3 by decide) (by decide) ?_
    refine x_topi (nI n) hn ?_
    refine x_icmp_ge (pc := 29) (tgt := 194) C dL_dayPart_29 (by decide) (fun h29 => absurd h29 (by exact nI_ge (by omega) (by omega))) (fun h29 => ?_)
    refine x_aload (pc := 32) C dL_dayPart_32 rfl ?_
    refine x_bipush (pc := 34) C (9) dL_dayPart_34 (by decide) ?_
    refine x_iload (pc := 36) C dL_dayPart_36 rfl ?_
    refine x_imul (pc := 38) C dL_dayPart_38 ?_
    refine x_topi (nI (9 * i)) (pk_mul (9) (i)) ?_
    refine x_iconst (pc := 39) C (2) dL_dayPart_39 (by decide) ?_
    refine x_iadd (pc := 40) C dL_dayPart_40 ?_
    refine x_topi (nI (9 * i + 2)) (nI_add (9 * i) (2)) ?_
    refine x_iald (pc := 41) (o := 213) C dL_dayPart_41 (hI 213 rfl) ⟨rfl, rfl⟩ (show _ < 63 by omega) (by decide) ?_
    refine x_topi (GF V 2 i) (congrFun (hV2 213 (by decide)) _) ?_
    refine x_iload_n (pc := 42) C dL_dayPart_42 rfl ?_
    refine x_icmp_eq (pc := 43) (tgt := 49) C dL_dayPart_43 (by decide) (fun h43 => ?_) (fun h43 => ?_)
    · have e1 := hA i (by omega) h43 1 (by decide)
      have e2 := hA i (by omega) h43 2 (by decide)
      have e3 := hA i (by omega) h43 3 (by decide)
      have J185 : Wx E 185 [some (aI d), some (aI (nI w)), some (aR 210), some (aR 212), some (aR 213), some (aR 218), some (aI (clkR (GF V) (V 210) d n)), some (aI s), some (aI (nI i)), some (aI (b2i (decide (¬ airR (GF V) (V 210) 3 i = 2))))] [aI (partR (GF V) (airR (GF V) (V 210)) w i), aI s] V2 L N (I ++ [218]) 1 28 := by
        refine x_iadd (pc := 185) C dL_dayPart_185 ?_
        refine y_istore (pc := 186) C dL_dayPart_186 (by decide) rfl ?_
        refine y_iinc (pc := 188) C (nI (i + 1)) dL_dayPart_188 rfl (by exact nI_1 i) (by decide) rfl ?_
        refine x_goto (pc := 191) (tgt := 24) C dL_dayPart_191 (by decide) ?_
        refine x_fgt 9 ?_
        exact ih (i + 1) _ (by omega) (by rw [hinv, sumTo, if_pos h43])
      refine x_aload (pc := 49) C dL_dayPart_49 rfl ?_
      refine x_iconst (pc := 51) C (4) dL_dayPart_51 (by decide) ?_
      refine x_iload (pc := 52) C dL_dayPart_52 rfl ?_
      refine x_imul (pc := 54) C dL_dayPart_54 ?_
      refine x_topi (nI (4 * i)) (pk_mul (4) (i)) ?_
      refine x_iconst (pc := 55) C (3) dL_dayPart_55 (by decide) ?_
      refine x_iadd (pc := 56) C dL_dayPart_56 ?_
      refine x_topi (nI (4 * i + 3)) (nI_add (4 * i) (3)) ?_
      refine x_iald (pc := 57) (o := 218) C dL_dayPart_57 h218i ⟨rfl, rfl⟩ (show _ < 28 by omega) (by decide) ?_
      refine x_topi (AW 218 V2 3 i) (rfl) ?_
      refine x_iconst (pc := 58) C (2) dL_dayPart_58 (by decide) ?_
      have J67 : Wx E 67 [some (aI d), some (aI (nI w)), some (aR 210), some (aR 212), some (aR 213), some (aR 218), some (aI (clkR (GF V) (V 210) d n)), some (aI s), some (aI (nI i)), none] [aI (b2i (decide (¬ airR (GF V) (V 210) 3 i = 2)))] V2 L N (I ++ [218]) 1 28 := by
        refine y_istore (pc := 67) C dL_dayPart_67 (by decide) rfl ?_
        refine x_iload (pc := 69) C dL_dayPart_69 rfl ?_
        refine x_iload_n (pc := 71) C dL_dayPart_71 rfl ?_
        refine x_if_ne (pc := 72) (tgt := 79) C dL_dayPart_72 (by decide) (fun h72 => ?_) (fun h72 => ?_)
        · refine x_iload_n (pc := 79) C dL_dayPart_79 rfl ?_
          refine x_iconst (pc := 80) C (1) dL_dayPart_80 (by decide) ?_
          refine x_icmp_ne (pc := 81) (tgt := 97) C dL_dayPart_81 (by decide) (fun h81 => ?_) (fun h81 => ?_)
          · refine x_iload_n (pc := 97) C dL_dayPart_97 rfl ?_
            refine x_iconst (pc := 98) C (2) dL_dayPart_98 (by decide) ?_
            refine x_icmp_ne (pc := 99) (tgt := 114) C dL_dayPart_99 (by decide) (fun h99 => ?_) (fun h99 => ?_)
            · refine x_iload_n (pc := 114) C dL_dayPart_114 rfl ?_
              refine x_iconst (pc := 115) C (3) dL_dayPart_115 (by decide) ?_
              refine x_icmp_ne (pc := 116) (tgt := 144) C dL_dayPart_116 (by decide) (fun h116 => ?_) (fun h116 => ?_)
              · refine x_iload_n (pc := 144) C dL_dayPart_144 rfl ?_
                refine x_iconst (pc := 145) C (4) dL_dayPart_145 (by decide) ?_
                refine x_icmp_ne (pc := 146) (tgt := 162) C dL_dayPart_146 (by decide) (fun h146 => ?_) (fun h146 => ?_)
                · refine x_iload_n (pc := 162) C dL_dayPart_162 rfl ?_
                  refine x_iconst (pc := 163) C (5) dL_dayPart_163 (by decide) ?_
                  refine x_icmp_ne (pc := 164) (tgt := 184) C dL_dayPart_164 (by decide) (fun h164 => ?_) (fun h164 => ?_)
                  · refine x_iconst (pc := 184) C (0) dL_dayPart_184 (by decide) ?_
                    refine x_topi (partR (GF V) (airR (GF V) (V 210)) w i) (by simp [partR, show ¬ w = 0 from nI_wn h72, show ¬ w = 1 from nI_wn h81, show ¬ w = 2 from nI_wn h99, show ¬ w = 3 from nI_wn h116, show ¬ w = 4 from nI_wn h146, show ¬ w = 5 from nI_wn h164]) ?_
                    exact J185
                  · have w5 : w = 5 := nI_w (k := 5) hw (by decide) h164
                    refine x_iload (pc := 167) C dL_dayPart_167 rfl ?_
                    refine x_if_eq (pc := 169) (tgt := 184) C dL_dayPart_169 (by decide) (fun h169 => ?_) (fun h169 => ?_)
                    · refine x_iconst (pc := 184) C (0) dL_dayPart_184 (by decide) ?_
                      refine x_topi (partR (GF V) (airR (GF V) (V 210)) w i) (by rw [w5]; have z1 := Decidable.not_not.mp (b2i_nd h169); simp [partR, z1]) ?_
                      exact J185
                    · refine x_aload (pc := 172) C dL_dayPart_172 rfl ?_
                      refine x_iconst (pc := 174) C (4) dL_dayPart_174 (by decide) ?_
                      refine x_iload (pc := 175) C dL_dayPart_175 rfl ?_
                      refine x_imul (pc := 177) C dL_dayPart_177 ?_
                      refine x_topi (nI (4 * i)) (pk_mul (4) (i)) ?_
                      refine x_iconst (pc := 178) C (2) dL_dayPart_178 (by decide) ?_
                      refine x_iadd (pc := 179) C dL_dayPart_179 ?_
                      refine x_topi (nI (4 * i + 2)) (nI_add (4 * i) (2)) ?_
                      refine x_iald (pc := 180) (o := 218) C dL_dayPart_180 h218i ⟨rfl, rfl⟩ (show _ < 28 by omega) (by decide) ?_
                      refine x_topi (AW 218 V2 2 i) (rfl) ?_
                      refine x_goto (pc := 181) (tgt := 185) C dL_dayPart_181 (by decide) ?_
                      refine x_topi (partR (GF V) (airR (GF V) (V 210)) w i) (by rw [w5, e2]; have z1 := b2i_d h169; simp [partR, z1]) ?_
                      exact J185
                · have w4 : w = 4 := nI_w (k := 4) hw (by decide) h146
                  refine x_iload (pc := 149) C dL_dayPart_149 rfl ?_
                  refine x_if_eq (pc := 151) (tgt := 158) C dL_dayPart_151 (by decide) (fun h151 => ?_) (fun h151 => ?_)
                  · refine x_iconst (pc := 158) C (1) dL_dayPart_158 (by decide) ?_
                    refine x_goto (pc := 159) (tgt := 185) C dL_dayPart_159 (by decide) ?_
                    refine x_topi (partR (GF V) (airR (GF V) (V 210)) w i) (by rw [w4]; have z1 := Decidable.not_not.mp (b2i_nd h151); simp [partR, b2i, z1]) ?_
                    exact J185
                  · refine x_iconst (pc := 154) C (0) dL_dayPart_154 (by decide) ?_
                    refine x_goto (pc := 155) (tgt := 185) C dL_dayPart_155 (by decide) ?_
                    refine x_topi (partR (GF V) (airR (GF V) (V 210)) w i) (by rw [w4]; have z1 := b2i_d h151; simp [partR, b2i, z1]) ?_
                    exact J185
              · have w3 : w = 3 := nI_w (k := 3) hw (by decide) h116
                refine x_iload (pc := 119) C dL_dayPart_119 rfl ?_
                refine x_if_eq (pc := 121) (tgt := 140) C dL_dayPart_121 (by decide) (fun h121 => ?_) (fun h121 => ?_)
                · refine x_iconst (pc := 140) C (0) dL_dayPart_140 (by decide) ?_
                  refine x_goto (pc := 141) (tgt := 185) C dL_dayPart_141 (by decide) ?_
                  refine x_topi (partR (GF V) (airR (GF V) (V 210)) w i) (by rw [w3]; simp only [partR]; have := b2i_nd h121; simp [b2i, Decidable.not_not.mp this]) ?_
                  exact J185
                · refine x_aload (pc := 124) C dL_dayPart_124 rfl ?_
                  refine x_iconst (pc := 126) C (4) dL_dayPart_126 (by decide) ?_
                  refine x_iload (pc := 127) C dL_dayPart_127 rfl ?_
                  refine x_imul (pc := 129) C dL_dayPart_129 ?_
                  refine x_topi (nI (4 * i)) (pk_mul (4) (i)) ?_
                  refine x_iconst (pc := 130) C (2) dL_dayPart_130 (by decide) ?_
                  refine x_iadd (pc := 131) C dL_dayPart_131 ?_
                  refine x_topi (nI (4 * i + 2)) (nI_add (4 * i) (2)) ?_
                  refine x_iald (pc := 132) (o := 218) C dL_dayPart_132 h218i ⟨rfl, rfl⟩ (show _ < 28 by omega) (by decide) ?_
                  refine x_topi (AW 218 V2 2 i) (rfl) ?_
                  refine x_if_le (pc := 133) (tgt := 140) C dL_dayPart_133 (by decide) (fun h133 => ?_) (fun h133 => ?_)
                  · refine x_iconst (pc := 140) C (0) dL_dayPart_140 (by decide) ?_
                    refine x_goto (pc := 141) (tgt := 185) C dL_dayPart_141 (by decide) ?_
                    refine x_topi (partR (GF V) (airR (GF V) (V 210)) w i) (by rw [w3]; have z1 := b2i_d h121; have z2 := Int32.not_lt.mpr h133; rw [e2] at z2; simp [partR, b2i, z1, z2]) ?_
                    exact J185
                  · refine x_iconst (pc := 136) C (1) dL_dayPart_136 (by decide) ?_
                    refine x_goto (pc := 137) (tgt := 185) C dL_dayPart_137 (by decide) ?_
                    refine x_topi (partR (GF V) (airR (GF V) (V 210)) w i) (by rw [w3]; have z1 := b2i_d h121; have z2 := Int32.not_le.mp h133; rw [e2] at z2; simp [partR, b2i, z1, z2]) ?_
                    exact J185
            · refine x_aload (pc := 102) C dL_dayPart_102 rfl ?_
              refine x_iconst (pc := 104) C (4) dL_dayPart_104 (by decide) ?_
              refine x_iload (pc := 105) C dL_dayPart_105 rfl ?_
              refine x_imul (pc := 107) C dL_dayPart_107 ?_
              refine x_topi (nI (4 * i)) (pk_mul (4) (i)) ?_
              refine x_iconst (pc := 108) C (1) dL_dayPart_108 (by decide) ?_
              refine x_iadd (pc := 109) C dL_dayPart_109 ?_
              refine x_topi (nI (4 * i + 1)) (nI_add (4 * i) (1)) ?_
              refine x_iald (pc := 110) (o := 218) C dL_dayPart_110 h218i ⟨rfl, rfl⟩ (show _ < 28 by omega) (by decide) ?_
              refine x_topi (AW 218 V2 1 i) (rfl) ?_
              refine x_goto (pc := 111) (tgt := 185) C dL_dayPart_111 (by decide) ?_
              refine x_topi (partR (GF V) (airR (GF V) (V 210)) w i) (by have e : w = 2 := nI_w (k := 2) hw (by decide) h99; rw [e, e1]; rfl) ?_
              exact J185
          · refine x_aload (pc := 84) C dL_dayPart_84 rfl ?_
            refine x_bipush (pc := 86) C (9) dL_dayPart_86 (by decide) ?_
            refine x_iload (pc := 88) C dL_dayPart_88 rfl ?_
            refine x_imul (pc := 90) C dL_dayPart_90 ?_
            refine x_topi (nI (9 * i)) (pk_mul (9) (i)) ?_
            refine x_iconst (pc := 91) C (4) dL_dayPart_91 (by decide) ?_
            refine x_iadd (pc := 92) C dL_dayPart_92 ?_
            refine x_topi (nI (9 * i + 4)) (nI_add (9 * i) (4)) ?_
            refine x_iald (pc := 93) (o := 213) C dL_dayPart_93 (hI 213 rfl) ⟨rfl, rfl⟩ (show _ < 63 by omega) (by decide) ?_
            refine x_topi (GF V 4 i) (congrFun (hV2 213 (by decide)) _) ?_
            refine x_goto (pc := 94) (tgt := 185) C dL_dayPart_94 (by decide) ?_
            refine x_topi (partR (GF V) (airR (GF V) (V 210)) w i) (by have e : w = 1 := nI_w (k := 1) hw (by decide) h81; rw [e]; rfl) ?_
            exact J185
        · refine x_iconst (pc := 75) C (1) dL_dayPart_75 (by decide) ?_
          refine x_goto (pc := 76) (tgt := 185) C dL_dayPart_76 (by decide) ?_
          refine x_topi (partR (GF V) (airR (GF V) (V 210)) w i) (by have e : w = 0 := nI_w (k := 0) hw (by decide) h72; rw [e]; rfl) ?_
          exact J185
      refine x_icmp_eq (pc := 59) (tgt := 66) C dL_dayPart_59 (by decide) (fun h59 => ?_) (fun h59 => ?_)
      · refine x_iconst (pc := 66) C (0) dL_dayPart_66 (by decide) ?_
        refine x_topi (b2i (decide (¬ airR (GF V) (V 210) 3 i = 2))) ((b2i_cn (fun z => z (e3.symm.trans h59))).symm) ?_
        exact J67
      · refine x_iconst (pc := 62) C (1) dL_dayPart_62 (by decide) ?_
        refine x_goto (pc := 63) (tgt := 67) C dL_dayPart_63 (by decide) ?_
        refine x_topi (b2i (decide (¬ airR (GF V) (V 210) 3 i = 2))) ((b2i_c (p := ¬ airR (GF V) (V 210) 3 i = 2) (fun z => h59 (e3.trans z))).symm) ?_
        exact J67
    · refine x_goto (pc := 46) (tgt := 188) C dL_dayPart_46 (by decide) ?_
      refine y_iinc (pc := 188) C (nI (i + 1)) dL_dayPart_188 rfl (by exact nI_1 i) (by decide) rfl ?_
      refine x_goto (pc := 191) (tgt := 24) C dL_dayPart_191 (by decide) ?_
      refine x_fgt 9 ?_
      exact ih (i + 1) _ (by omega) (by rw [hinv, sumTo, if_neg h43, Int32.add_zero])
