-- the law: a case each, the loop
def Sc (E : EE) (bq len : Nat) (xs : Nat → Int32) : Prop := va_X bq len xs (eS E) (eS E).heap ∧ bq < (eS E).heap.size ∧ ¬ eF E bq
abbrev LLs (bq i : Nat) : zLS := [some (aQ bq), some (aR 0), some (aR 200), some (aR 210), some (aI (nI i)), none, none, none, none]
def bz (x : Int32) : Int32 := if x = 0 then 0 else 1
theorem bz_01 {x : Int32} : bz x = 0 ∨ bz x = 1 := by unfold bz; split <;> simp
section
variable {E : EE} {own : String} {cc : ByteArray} {ret : Option FieldType} {nL D MC MS pc : Nat} {ls : zLS} {st : List AV} {V : VV} {L : LL} {N : NN} {I : List Nat} {a b bq len : Nat} {xs : Nat → Int32}
theorem x_slen (C : OK E own cc nL ret D MC MS) (h : Sc E bq len xs) (d : decode cc pc = .ok (.arraylength, 1)) (K : Wx E (pc + 1) ls (aI (nI len) :: st) V L N I a b) : Wx E pc ls (aQ bq :: st) V L N I a b := by
  intro ad H locs lsa hP hD hS ha hl
  exact va_slen C.1 C.2.1 h.1 h.2.1 h.2.2 hS d (K ad H locs lsa hP hD hS ha hl)
theorem x_sld (C : OK E own cc nL ret D MC MS) {k : Nat} (h : Sc E bq len xs) (d : decode cc pc = .ok (.iaload, 1)) (hk : k < len) (hlen : len ≤ 3584) (K : Wx E (pc + 1) ls (aI (xs k) :: st) V L N I a b) : Wx E pc ls (aI (nI k) :: aQ bq :: st) V L N I a b := by
  intro ad H locs lsa hP hD hS ha hl
  refine va_sld C.1 C.2.1 h.1 h.2.1 h.2.2 hS (vp_in_nI hk (by omega)) d ?_
  have := K ad H locs lsa hP hD hS ha hl
  rw [nI_clamp (by omega)]
  exact this
theorem x_bool (C : OK E own cc nL ret D MC MS) {x : Int32} (d0 : decode cc pc = .ok (.ifCond .eq 7, 3)) (d1 : decode cc (pc + 3) = .ok (.iconst 1, 1)) (d2 : decode cc (pc + 4) = .ok (.goto 4, 3)) (d3 : decode cc (pc + 7) = .ok (.iconst 0, 1)) (K : Wx E (pc + 8) ls (aI (bz x) :: st) V L N I a b) : Wx E pc ls (aI x :: st) V L N I a b := by
  refine x_if_eq (tgt := pc + 7) C d0 (by omega) (fun h => ?_) (fun h => ?_)
  · refine x_iconst C 0 d3 (by decide) ?_
    rwa [show bz x = 0 from if_pos h] at K
  · refine x_iconst C 1 d1 (by decide) ?_
    refine x_goto (tgt := pc + 8) C d2 (by omega) ?_
    rwa [show bz x = 1 from if_neg h] at K
end
theorem lwp_no {P : PP} {cs : List String} {X : String} {V : VV} {L : LL} {N : NN} {I : List Nat} (h : LwP P cs (.inr X) V L N I) : False := by
  rcases h with ⟨v, L', _, h2, _⟩ | ⟨Y, k, _, _, h2⟩ <;> cases h2
theorem lwp_c {P : PP} {RM : RMT} {cs : List String} {r : Option AV} {V2 : VV} {L2 : LL} {N2 : NN} {I2 : List Nat} (hS : SP P RM cs) (h : LwP P cs (.inl r) V2 L2 N2 I2) : IN N2 I2 ∧ ∃ (k : Nat) (w : Int32), k ≤ 3 ∧ r = some (aI (nI k)) ∧ (k = 0 → L2 210 0 = w.toInt64) ∧ ∀ L', ∃ Q : VV → Prop, RM V2 L' N2 I2 (Pm (some (aI w)) Q L' N2 I2) ∧ ∀ V3, Q V3 → V3 200 0 = nI k ∧ Inv V3 N2 I2 := by
  rcases h with ⟨v, L', hp, hr, hL⟩ | ⟨X, j, hp, hX, hr⟩
  · obtain ⟨h1, k, w, hk, hm, h3⟩ := hS _ _ _ _ _ hp
    rcases hm with ⟨v', e, rfl, rfl⟩ | ⟨X, e, _⟩
    · cases e
      refine ⟨h1, 0, _, hk, ?_, fun _ => by rw [hL]; unfold upL; simp, h3⟩
      cases hr; rfl
    · cases e
  · obtain ⟨h1, k, w, hk, hm, h3⟩ := hS _ _ _ _ _ hp
    rcases hm with ⟨v', e, _, _⟩ | ⟨X', e, _, hj⟩
    · cases e
    · cases e
      have := hj j hX
      subst this
      exact ⟨h1, j + 1, w, hk, by cases hr; rfl, fun z => absurd z (Nat.succ_ne_zero j), h3⟩
theorem sp_h1 {P : PP} {RM : RMT} {x : String} (hS : SP P RM [x]) : ∀ r V2 L2 N2 I2, P r V2 L2 N2 I2 → PI I2 ∧ ((∃ v, r = .inl (some (aI v))) ∨ r = .inr x) := fun r V2 L2 N2 I2 hp => by
  obtain ⟨h1, k, w, hk, hm, h3⟩ := hS _ _ _ _ _ hp
  refine ⟨h1.1, ?_⟩
  rcases hm with ⟨v, e, _, _⟩ | ⟨X, e, hx, _⟩
  · exact Or.inl ⟨v, e⟩
  · simp only [List.mem_cons, List.not_mem_nil, or_false] at hx
    exact Or.inr (hx ▸ e)
theorem sp_h2 {P : PP} {RM : RMT} {x y : String} (hS : SP P RM [x, y]) : ∀ r V2 L2 N2 I2, P r V2 L2 N2 I2 → PI I2 ∧ ((∃ v, r = .inl (some (aI v))) ∨ r = .inr x ∨ r = .inr y) := fun r V2 L2 N2 I2 hp => by
  obtain ⟨h1, k, w, hk, hm, h3⟩ := hS _ _ _ _ _ hp
  refine ⟨h1.1, ?_⟩
  rcases hm with ⟨v, e, _, _⟩ | ⟨X, e, hx, _⟩
  · exact Or.inl ⟨v, e⟩
  · simp only [List.mem_cons, List.not_mem_nil, or_false] at hx
    rcases hx with q | q
    · exact Or.inr (Or.inl (q ▸ e))
    · exact Or.inr (Or.inr (q ▸ e))
theorem sp_h3 {P : PP} {RM : RMT} {x y z : String} (hS : SP P RM [x, y, z]) : ∀ r V2 L2 N2 I2, P r V2 L2 N2 I2 → PI I2 ∧ ((∃ v, r = .inl (some (aI v))) ∨ r = .inr x ∨ r = .inr y ∨ r = .inr z) := fun r V2 L2 N2 I2 hp => by
  obtain ⟨h1, k, w, hk, hm, h3⟩ := hS _ _ _ _ _ hp
  refine ⟨h1.1, ?_⟩
  rcases hm with ⟨v, e, _, _⟩ | ⟨X, e, hx, _⟩
  · exact Or.inl ⟨v, e⟩
  · simp only [List.mem_cons, List.not_mem_nil, or_false] at hx
    rcases hx with q | q | q
    · exact Or.inr (Or.inl (q ▸ e))
    · exact Or.inr (Or.inr (Or.inl (q ▸ e)))
    · exact Or.inr (Or.inr (Or.inr (q ▸ e)))
section
variable {E : EE} {MC MS : Nat} {V : VV} {L : LL} {N : NN} {I : List Nat} {a b bq len : Nat} {xs : Nat → Int32}
set_option maxRecDepth 100000 in
set_option maxHeartbeats 4000000 in
theorem w_set (C : OK E RL cL_law 9 (some .boolean) 11 MC MS) (hsc : Sc E bq len xs) {i : Nat} (hi : i + 7 ≤ len) (hlen : len ≤ 3584) (h : Inv V N I) (hr : a + 16 ≤ MC ∧ b + 300 ≤ MS) (K : ∀ V' L' N' I', Inv V' N' I' → Wx E 1692 (LLs bq i) [] V' L' N' I' (a + 16) (b + 300)) : Wx E 160 (LLs bq i) [] V L N I a b := by
  obtain ⟨n, o, m, l0, hX⟩ := h
  have hI := hX.2.2.1.1.1
  obtain ⟨P, hR, hSP⟩ := s_set (l := eL E) (L := L) hX (xs (i + 1)) (xs (i + 2))
  refine x_aload_n (pc := 160) C dL_law_160 rfl ?_
  refine x_aload_nq (pc := 161) C dL_law_161 rfl ?_
  refine x_iload (pc := 162) C dL_law_162 rfl ?_
  refine x_iconst (pc := 164) C (nI 1) dL_law_164 (by decide) ?_
  refine x_iadd (pc := 165) C dL_law_165 ?_
  refine x_topi (nI (i + 1)) (nI_add i 1) ?_
  refine x_sld (pc := 166) C hsc dL_law_166 (show i + 1 < len by omega) hlen ?_
  refine x_aload_nq (pc := 167) C dL_law_167 rfl ?_
  refine x_iload (pc := 168) C dL_law_168 rfl ?_
  refine x_iconst (pc := 170) C (nI 2) dL_law_170 (by decide) ?_
  refine x_iadd (pc := 171) C dL_law_171 ?_
  refine x_topi (nI (i + 2)) (nI_add i 2) ?_
  refine x_sld (pc := 172) C hsc dL_law_172 (show i + 2 < len by omega) hlen ?_
  refine x_aload_n (pc := 173) C dL_law_173 rfl ?_
  refine x_callSX (pc := 174) (st := []) (As := [aR 0, aI (xs (i + 1)), aI (xs (i + 2)), aR 210]) C x_L_89 dL_law_174 (c_L_set hI (xs (i + 1)) (xs (i + 2)) hR (sp_h2 hSP)) rfl (by decide) (okB_s rfl) (by decide) ⟨by omega, by omega⟩ (fun X V2 L2 N2 I2 hq => (lwp_no hq).elim) (fun r V2 L2 N2 I2 hq => ?_)
  obtain ⟨hIN, k, w, hk3, rfl, hw, hM⟩ := lwp_c hSP hq
  obtain ⟨Q, hRM, hQ⟩ := hM L2
  have hI2 := hIN.1
  refine y_istore (pc := 177) C dL_law_177 (by decide) rfl ?_
  refine x_aload_n (pc := 179) C dL_law_179 rfl ?_
  refine x_aload_nq (pc := 180) C dL_law_180 rfl ?_
  refine x_iload (pc := 181) C dL_law_181 rfl ?_
  refine x_iconst (pc := 183) C (nI 1) dL_law_183 (by decide) ?_
  refine x_iadd (pc := 184) C dL_law_184 ?_
  refine x_topi (nI (i + 1)) (nI_add i 1) ?_
  refine x_sld (pc := 185) C hsc dL_law_185 (show i + 1 < len by omega) hlen ?_
  refine x_aload_nq (pc := 186) C dL_law_186 rfl ?_
  refine x_iload (pc := 187) C dL_law_187 rfl ?_
  refine x_iconst (pc := 189) C (nI 2) dL_law_189 (by decide) ?_
  refine x_iadd (pc := 190) C dL_law_190 ?_
  refine x_topi (nI (i + 2)) (nI_add i 2) ?_
  refine x_sld (pc := 191) C hsc dL_law_191 (show i + 2 < len by omega) hlen ?_
  refine x_pV2 (pc := 192) (o := 200) C v_L_94 dL_law_192 hRM (hI2 200 rfl) rfl (by decide) rfl ⟨by omega, by omega⟩ (fun V3 hq3 => ?_)
  obtain ⟨ht, hInv⟩ := hQ V3 hq3
  refine y_istore (pc := 195) C dL_law_195 (by decide) rfl ?_
  refine x_aload_n (pc := 197) C dL_law_197 rfl ?_
  refine x_cV0 (pc := 198) (o := 200) C v_L_95 dL_law_198 (c_X7_thrown hI2) (hI2 200 rfl) rfl (by decide) rfl ⟨by omega, by omega⟩ ?_
  refine x_iload (pc := 201) C dL_law_201 rfl ?_
  refine x_icmp_eq (pc := 203) (tgt := 208) C dL_law_203 (by decide) (fun _ => ?_) (fun hne => absurd ht hne)
  refine x_iload (pc := 208) C dL_law_208 rfl ?_
  refine x_if_ne (pc := 210) (tgt := 225) C dL_law_210 (by decide) (fun _ => ?_) (fun hk0 => ?_)
  · refine x_goto (pc := 225) (tgt := 1692) C dL_law_225 (by decide) ?_
    refine x_fgt 5 ?_
    refine x_fgt 6 ?_
    exact x_wid (by omega) (by omega) (K _ _ _ _ hInv)
  · have k0 : k = 0 := (nI_eq (b := 0) (by omega) (by decide)).mp hk0
    refine x_aload_n (pc := 213) C dL_law_213 rfl ?_
    refine x_iconst (pc := 214) C (0) dL_law_214 (by decide) ?_
    refine x_lald (pc := 215) (o := 210) C dL_law_215 (hI2 210 rfl) ⟨rfl, rfl⟩ ?_
    refine x_iload (pc := 216) C dL_law_216 rfl ?_
    refine x_i2l (pc := 218) C dL_law_218 ?_
    refine x_lcmp (pc := 219) C dL_law_219 ?_
    refine x_if_eq (pc := 220) (tgt := 225) C dL_law_220 (by decide) (fun _ => ?_) (fun hne => absurd ((lg_cmp_eq _ _).mpr (hw k0)) hne)
    refine x_goto (pc := 225) (tgt := 1692) C dL_law_225 (by decide) ?_
    refine x_fgt 5 ?_
    refine x_fgt 6 ?_
    exact x_wid (by omega) (by omega) (K _ _ _ _ hInv)
set_option maxRecDepth 100000 in
set_option maxHeartbeats 4000000 in
theorem w_setQuota (C : OK E RL cL_law 9 (some .boolean) 11 MC MS) (hsc : Sc E bq len xs) {i : Nat} (hi : i + 7 ≤ len) (hlen : len ≤ 3584) (h : Inv V N I) (hr : a + 16 ≤ MC ∧ b + 300 ≤ MS) (K : ∀ V' L' N' I', Inv V' N' I' → Wx E 1692 (LLs bq i) [] V' L' N' I' (a + 16) (b + 300)) : Wx E 228 (LLs bq i) [] V L N I a b := by
  obtain ⟨n, o, m, l0, hX⟩ := h
  have hI := hX.2.2.1.1.1
  obtain ⟨P, hR, hSP⟩ := s_setQuota (l := eL E) (L := L) hX (xs (i + 1)) (xs (i + 2))
  refine x_aload_n (pc := 228) C dL_law_228 rfl ?_
  refine x_aload_nq (pc := 229) C dL_law_229 rfl ?_
  refine x_iload (pc := 230) C dL_law_230 rfl ?_
  refine x_iconst (pc := 232) C (nI 1) dL_law_232 (by decide) ?_
  refine x_iadd (pc := 233) C dL_law_233 ?_
  refine x_topi (nI (i + 1)) (nI_add i 1) ?_
  refine x_sld (pc := 234) C hsc dL_law_234 (show i + 1 < len by omega) hlen ?_
  refine x_aload_nq (pc := 235) C dL_law_235 rfl ?_
  refine x_iload (pc := 236) C dL_law_236 rfl ?_
  refine x_iconst (pc := 238) C (nI 2) dL_law_238 (by decide) ?_
  refine x_iadd (pc := 239) C dL_law_239 ?_
  refine x_topi (nI (i + 2)) (nI_add i 2) ?_
  refine x_sld (pc := 240) C hsc dL_law_240 (show i + 2 < len by omega) hlen ?_
  refine x_aload_n (pc := 241) C dL_law_241 rfl ?_
  refine x_callSX (pc := 242) (st := []) (As := [aR 0, aI (xs (i + 1)), aI (xs (i + 2)), aR 210]) C x_L_98 dL_law_242 (c_L_setQuota hI (xs (i + 1)) (xs (i + 2)) hR (sp_h2 hSP)) rfl (by decide) (okB_s rfl) (by decide) ⟨by omega, by omega⟩ (fun X V2 L2 N2 I2 hq => (lwp_no hq).elim) (fun r V2 L2 N2 I2 hq => ?_)
  obtain ⟨hIN, k, w, hk3, rfl, hw, hM⟩ := lwp_c hSP hq
  obtain ⟨Q, hRM, hQ⟩ := hM L2
  have hI2 := hIN.1
  refine y_istore (pc := 245) C dL_law_245 (by decide) rfl ?_
  refine x_aload_n (pc := 247) C dL_law_247 rfl ?_
  refine x_aload_nq (pc := 248) C dL_law_248 rfl ?_
  refine x_iload (pc := 249) C dL_law_249 rfl ?_
  refine x_iconst (pc := 251) C (nI 1) dL_law_251 (by decide) ?_
  refine x_iadd (pc := 252) C dL_law_252 ?_
  refine x_topi (nI (i + 1)) (nI_add i 1) ?_
  refine x_sld (pc := 253) C hsc dL_law_253 (show i + 1 < len by omega) hlen ?_
  refine x_aload_nq (pc := 254) C dL_law_254 rfl ?_
  refine x_iload (pc := 255) C dL_law_255 rfl ?_
  refine x_iconst (pc := 257) C (nI 2) dL_law_257 (by decide) ?_
  refine x_iadd (pc := 258) C dL_law_258 ?_
  refine x_topi (nI (i + 2)) (nI_add i 2) ?_
  refine x_sld (pc := 259) C hsc dL_law_259 (show i + 2 < len by omega) hlen ?_
  refine x_pV2 (pc := 260) (o := 200) C v_L_100 dL_law_260 hRM (hI2 200 rfl) rfl (by decide) rfl ⟨by omega, by omega⟩ (fun V3 hq3 => ?_)
  obtain ⟨ht, hInv⟩ := hQ V3 hq3
  refine y_istore (pc := 263) C dL_law_263 (by decide) rfl ?_
  refine x_aload_n (pc := 265) C dL_law_265 rfl ?_
  refine x_cV0 (pc := 266) (o := 200) C v_L_95 dL_law_266 (c_X7_thrown hI2) (hI2 200 rfl) rfl (by decide) rfl ⟨by omega, by omega⟩ ?_
  refine x_iload (pc := 269) C dL_law_269 rfl ?_
  refine x_icmp_eq (pc := 271) (tgt := 276) C dL_law_271 (by decide) (fun _ => ?_) (fun hne => absurd ht hne)
  refine x_iload (pc := 276) C dL_law_276 rfl ?_
  refine x_if_ne (pc := 278) (tgt := 293) C dL_law_278 (by decide) (fun _ => ?_) (fun hk0 => ?_)
  · refine x_goto (pc := 293) (tgt := 1692) C dL_law_293 (by decide) ?_
    refine x_fgt 5 ?_
    refine x_fgt 6 ?_
    exact x_wid (by omega) (by omega) (K _ _ _ _ hInv)
  · have k0 : k = 0 := (nI_eq (b := 0) (by omega) (by decide)).mp hk0
    refine x_aload_n (pc := 281) C dL_law_281 rfl ?_
    refine x_iconst (pc := 282) C (0) dL_law_282 (by decide) ?_
    refine x_lald (pc := 283) (o := 210) C dL_law_283 (hI2 210 rfl) ⟨rfl, rfl⟩ ?_
    refine x_iload (pc := 284) C dL_law_284 rfl ?_
    refine x_i2l (pc := 286) C dL_law_286 ?_
    refine x_lcmp (pc := 287) C dL_law_287 ?_
    refine x_if_eq (pc := 288) (tgt := 293) C dL_law_288 (by decide) (fun _ => ?_) (fun hne => absurd ((lg_cmp_eq _ _).mpr (hw k0)) hne)
    refine x_goto (pc := 293) (tgt := 1692) C dL_law_293 (by decide) ?_
    refine x_fgt 5 ?_
    refine x_fgt 6 ?_
    exact x_wid (by omega) (by omega) (K _ _ _ _ hInv)
set_option maxRecDepth 100000 in
set_option maxHeartbeats 4000000 in
theorem w_add (C : OK E RL cL_law 9 (some .boolean) 11 MC MS) (hsc : Sc E bq len xs) {i : Nat} (hi : i + 7 ≤ len) (hlen : len ≤ 3584) (h : Inv V N I) (hr : a + 16 ≤ MC ∧ b + 300 ≤ MS) (K : ∀ V' L' N' I', Inv V' N' I' → Wx E 1692 (LLs bq i) [] V' L' N' I' (a + 16) (b + 300)) : Wx E 296 (LLs bq i) [] V L N I a b := by
  obtain ⟨n, o, m, l0, hX⟩ := h
  have hI := hX.2.2.1.1.1
  obtain ⟨P, hR, hSP⟩ := s_add (l := eL E) (L := L) hX (bz (xs (i + 1))) (xs (i + 2)) (xs (i + 3)) (xs (i + 4)) (xs (i + 5)) (xs (i + 6)) bz_01
  refine x_aload_n (pc := 296) C dL_law_296 rfl ?_
  refine x_aload_nq (pc := 297) C dL_law_297 rfl ?_
  refine x_iload (pc := 298) C dL_law_298 rfl ?_
  refine x_iconst (pc := 300) C (nI 1) dL_law_300 (by decide) ?_
  refine x_iadd (pc := 301) C dL_law_301 ?_
  refine x_topi (nI (i + 1)) (nI_add i 1) ?_
  refine x_sld (pc := 302) C hsc dL_law_302 (show i + 1 < len by omega) hlen ?_
  refine x_bool (pc := 303) C dL_law_303 dL_law_306 dL_law_307 dL_law_310 ?_
  refine x_aload_nq (pc := 311) C dL_law_311 rfl ?_
  refine x_iload (pc := 312) C dL_law_312 rfl ?_
  refine x_iconst (pc := 314) C (nI 2) dL_law_314 (by decide) ?_
  refine x_iadd (pc := 315) C dL_law_315 ?_
  refine x_topi (nI (i + 2)) (nI_add i 2) ?_
  refine x_sld (pc := 316) C hsc dL_law_316 (show i + 2 < len by omega) hlen ?_
  refine x_aload_nq (pc := 317) C dL_law_317 rfl ?_
  refine x_iload (pc := 318) C dL_law_318 rfl ?_
  refine x_iconst (pc := 320) C (nI 3) dL_law_320 (by decide) ?_
  refine x_iadd (pc := 321) C dL_law_321 ?_
  refine x_topi (nI (i + 3)) (nI_add i 3) ?_
  refine x_sld (pc := 322) C hsc dL_law_322 (show i + 3 < len by omega) hlen ?_
  refine x_aload_nq (pc := 323) C dL_law_323 rfl ?_
  refine x_iload (pc := 324) C dL_law_324 rfl ?_
  refine x_iconst (pc := 326) C (nI 4) dL_law_326 (by decide) ?_
  refine x_iadd (pc := 327) C dL_law_327 ?_
  refine x_topi (nI (i + 4)) (nI_add i 4) ?_
  refine x_sld (pc := 328) C hsc dL_law_328 (show i + 4 < len by omega) hlen ?_
  refine x_aload_nq (pc := 329) C dL_law_329 rfl ?_
  refine x_iload (pc := 330) C dL_law_330 rfl ?_
  refine x_iconst (pc := 332) C (nI 5) dL_law_332 (by decide) ?_
  refine x_iadd (pc := 333) C dL_law_333 ?_
  refine x_topi (nI (i + 5)) (nI_add i 5) ?_
  refine x_sld (pc := 334) C hsc dL_law_334 (show i + 5 < len by omega) hlen ?_
  refine x_aload_nq (pc := 335) C dL_law_335 rfl ?_
  refine x_iload (pc := 336) C dL_law_336 rfl ?_
  refine x_bipush (pc := 338) C (nI 6) dL_law_338 (by decide) ?_
  refine x_iadd (pc := 340) C dL_law_340 ?_
  refine x_topi (nI (i + 6)) (nI_add i 6) ?_
  refine x_sld (pc := 341) C hsc dL_law_341 (show i + 6 < len by omega) hlen ?_
  refine x_aload_n (pc := 342) C dL_law_342 rfl ?_
  refine x_callSX (pc := 343) (st := []) (As := [aR 0, aI (bz (xs (i + 1))), aI (xs (i + 2)), aI (xs (i + 3)), aI (xs (i + 4)), aI (xs (i + 5)), aI (xs (i + 6)), aR 210]) C x_L_101 dL_law_343 (c_L_add hI (bz (xs (i + 1))) (xs (i + 2)) (xs (i + 3)) (xs (i + 4)) (xs (i + 5)) (xs (i + 6)) hR (sp_h2 hSP)) rfl (by decide) (okB_s rfl) (by decide) ⟨by omega, by omega⟩ (fun X V2 L2 N2 I2 hq => (lwp_no hq).elim) (fun r V2 L2 N2 I2 hq => ?_)
  obtain ⟨hIN, k, w, hk3, rfl, hw, hM⟩ := lwp_c hSP hq
  obtain ⟨Q, hRM, hQ⟩ := hM L2
  have hI2 := hIN.1
  refine y_istore (pc := 346) C dL_law_346 (by decide) rfl ?_
  refine x_aload_n (pc := 348) C dL_law_348 rfl ?_
  refine x_aload_nq (pc := 349) C dL_law_349 rfl ?_
  refine x_iload (pc := 350) C dL_law_350 rfl ?_
  refine x_iconst (pc := 352) C (nI 1) dL_law_352 (by decide) ?_
  refine x_iadd (pc := 353) C dL_law_353 ?_
  refine x_topi (nI (i + 1)) (nI_add i 1) ?_
  refine x_sld (pc := 354) C hsc dL_law_354 (show i + 1 < len by omega) hlen ?_
  refine x_bool (pc := 355) C dL_law_355 dL_law_358 dL_law_359 dL_law_362 ?_
  refine x_aload_nq (pc := 363) C dL_law_363 rfl ?_
  refine x_iload (pc := 364) C dL_law_364 rfl ?_
  refine x_iconst (pc := 366) C (nI 2) dL_law_366 (by decide) ?_
  refine x_iadd (pc := 367) C dL_law_367 ?_
  refine x_topi (nI (i + 2)) (nI_add i 2) ?_
  refine x_sld (pc := 368) C hsc dL_law_368 (show i + 2 < len by omega) hlen ?_
  refine x_aload_nq (pc := 369) C dL_law_369 rfl ?_
  refine x_iload (pc := 370) C dL_law_370 rfl ?_
  refine x_iconst (pc := 372) C (nI 3) dL_law_372 (by decide) ?_
  refine x_iadd (pc := 373) C dL_law_373 ?_
  refine x_topi (nI (i + 3)) (nI_add i 3) ?_
  refine x_sld (pc := 374) C hsc dL_law_374 (show i + 3 < len by omega) hlen ?_
  refine x_aload_nq (pc := 375) C dL_law_375 rfl ?_
  refine x_iload (pc := 376) C dL_law_376 rfl ?_
  refine x_iconst (pc := 378) C (nI 4) dL_law_378 (by decide) ?_
  refine x_iadd (pc := 379) C dL_law_379 ?_
  refine x_topi (nI (i + 4)) (nI_add i 4) ?_
  refine x_sld (pc := 380) C hsc dL_law_380 (show i + 4 < len by omega) hlen ?_
  refine x_aload_nq (pc := 381) C dL_law_381 rfl ?_
  refine x_iload (pc := 382) C dL_law_382 rfl ?_
  refine x_iconst (pc := 384) C (nI 5) dL_law_384 (by decide) ?_
  refine x_iadd (pc := 385) C dL_law_385 ?_
  refine x_topi (nI (i + 5)) (nI_add i 5) ?_
  refine x_sld (pc := 386) C hsc dL_law_386 (show i + 5 < len by omega) hlen ?_
  refine x_aload_nq (pc := 387) C dL_law_387 rfl ?_
  refine x_iload (pc := 388) C dL_law_388 rfl ?_
  refine x_bipush (pc := 390) C (nI 6) dL_law_390 (by decide) ?_
  refine x_iadd (pc := 392) C dL_law_392 ?_
  refine x_topi (nI (i + 6)) (nI_add i 6) ?_
  refine x_sld (pc := 393) C hsc dL_law_393 (show i + 6 < len by omega) hlen ?_
  refine x_pV6 (pc := 394) (o := 200) C v_L_104 dL_law_394 hRM (hI2 200 rfl) rfl (by decide) rfl ⟨by omega, by omega⟩ (fun V3 hq3 => ?_)
  obtain ⟨ht, hInv⟩ := hQ V3 hq3
  refine y_istore (pc := 397) C dL_law_397 (by decide) rfl ?_
  refine x_aload_n (pc := 399) C dL_law_399 rfl ?_
  refine x_cV0 (pc := 400) (o := 200) C v_L_95 dL_law_400 (c_X7_thrown hI2) (hI2 200 rfl) rfl (by decide) rfl ⟨by omega, by omega⟩ ?_
  refine x_iload (pc := 403) C dL_law_403 rfl ?_
  refine x_icmp_eq (pc := 405) (tgt := 410) C dL_law_405 (by decide) (fun _ => ?_) (fun hne => absurd ht hne)
  refine x_iload (pc := 410) C dL_law_410 rfl ?_
  refine x_if_ne (pc := 412) (tgt := 427) C dL_law_412 (by decide) (fun _ => ?_) (fun hk0 => ?_)
  · refine x_goto (pc := 427) (tgt := 1692) C dL_law_427 (by decide) ?_
    refine x_fgt 5 ?_
    refine x_fgt 6 ?_
    exact x_wid (by omega) (by omega) (K _ _ _ _ hInv)
  · have k0 : k = 0 := (nI_eq (b := 0) (by omega) (by decide)).mp hk0
    refine x_aload_n (pc := 415) C dL_law_415 rfl ?_
    refine x_iconst (pc := 416) C (0) dL_law_416 (by decide) ?_
    refine x_lald (pc := 417) (o := 210) C dL_law_417 (hI2 210 rfl) ⟨rfl, rfl⟩ ?_
    refine x_iload (pc := 418) C dL_law_418 rfl ?_
    refine x_i2l (pc := 420) C dL_law_420 ?_
    refine x_lcmp (pc := 421) C dL_law_421 ?_
    refine x_if_eq (pc := 422) (tgt := 427) C dL_law_422 (by decide) (fun _ => ?_) (fun hne => absurd ((lg_cmp_eq _ _).mpr (hw k0)) hne)
    refine x_goto (pc := 427) (tgt := 1692) C dL_law_427 (by decide) ?_
    refine x_fgt 5 ?_
    refine x_fgt 6 ?_
    exact x_wid (by omega) (by omega) (K _ _ _ _ hInv)
set_option maxRecDepth 100000 in
set_option maxHeartbeats 4000000 in
theorem w_repeat (C : OK E RL cL_law 9 (some .boolean) 11 MC MS) (hsc : Sc E bq len xs) {i : Nat} (hi : i + 7 ≤ len) (hlen : len ≤ 3584) (h : Inv V N I) (hr : a + 16 ≤ MC ∧ b + 300 ≤ MS) (K : ∀ V' L' N' I', Inv V' N' I' → Wx E 1692 (LLs bq i) [] V' L' N' I' (a + 16) (b + 300)) : Wx E 430 (LLs bq i) [] V L N I a b := by
  obtain ⟨n, o, m, l0, hX⟩ := h
  have hI := hX.2.2.1.1.1
  obtain ⟨P, hR, hSP⟩ := s_repeat (l := eL E) (L := L) hX (xs (i + 1)) (xs (i + 2)) (xs (i + 3))
  refine x_aload_n (pc := 430) C dL_law_430 rfl ?_
  refine x_aload_nq (pc := 431) C dL_law_431 rfl ?_
  refine x_iload (pc := 432) C dL_law_432 rfl ?_
  refine x_iconst (pc := 434) C (nI 1) dL_law_434 (by decide) ?_
  refine x_iadd (pc := 435) C dL_law_435 ?_
  refine x_topi (nI (i + 1)) (nI_add i 1) ?_
  refine x_sld (pc := 436) C hsc dL_law_436 (show i + 1 < len by omega) hlen ?_
  refine x_aload_nq (pc := 437) C dL_law_437 rfl ?_
  refine x_iload (pc := 438) C dL_law_438 rfl ?_
  refine x_iconst (pc := 440) C (nI 2) dL_law_440 (by decide) ?_
  refine x_iadd (pc := 441) C dL_law_441 ?_
  refine x_topi (nI (i + 2)) (nI_add i 2) ?_
  refine x_sld (pc := 442) C hsc dL_law_442 (show i + 2 < len by omega) hlen ?_
  refine x_aload_nq (pc := 443) C dL_law_443 rfl ?_
  refine x_iload (pc := 444) C dL_law_444 rfl ?_
  refine x_iconst (pc := 446) C (nI 3) dL_law_446 (by decide) ?_
  refine x_iadd (pc := 447) C dL_law_447 ?_
  refine x_topi (nI (i + 3)) (nI_add i 3) ?_
  refine x_sld (pc := 448) C hsc dL_law_448 (show i + 3 < len by omega) hlen ?_
  refine x_aload_n (pc := 449) C dL_law_449 rfl ?_
  refine x_callSX (pc := 450) (st := []) (As := [aR 0, aI (xs (i + 1)), aI (xs (i + 2)), aI (xs (i + 3)), aR 210]) C x_L_105 dL_law_450 (c_L_repeat hI (xs (i + 1)) (xs (i + 2)) (xs (i + 3)) hR (sp_h3 hSP)) rfl (by decide) (okB_s rfl) (by decide) ⟨by omega, by omega⟩ (fun X V2 L2 N2 I2 hq => (lwp_no hq).elim) (fun r V2 L2 N2 I2 hq => ?_)
  obtain ⟨hIN, k, w, hk3, rfl, hw, hM⟩ := lwp_c hSP hq
  obtain ⟨Q, hRM, hQ⟩ := hM L2
  have hI2 := hIN.1
  refine y_istore (pc := 453) C dL_law_453 (by decide) rfl ?_
  refine x_aload_n (pc := 455) C dL_law_455 rfl ?_
  refine x_aload_nq (pc := 456) C dL_law_456 rfl ?_
  refine x_iload (pc := 457) C dL_law_457 rfl ?_
  refine x_iconst (pc := 459) C (nI 1) dL_law_459 (by decide) ?_
  refine x_iadd (pc := 460) C dL_law_460 ?_
  refine x_topi (nI (i + 1)) (nI_add i 1) ?_
  refine x_sld (pc := 461) C hsc dL_law_461 (show i + 1 < len by omega) hlen ?_
  refine x_aload_nq (pc := 462) C dL_law_462 rfl ?_
  refine x_iload (pc := 463) C dL_law_463 rfl ?_
  refine x_iconst (pc := 465) C (nI 2) dL_law_465 (by decide) ?_
  refine x_iadd (pc := 466) C dL_law_466 ?_
  refine x_topi (nI (i + 2)) (nI_add i 2) ?_
  refine x_sld (pc := 467) C hsc dL_law_467 (show i + 2 < len by omega) hlen ?_
  refine x_aload_nq (pc := 468) C dL_law_468 rfl ?_
  refine x_iload (pc := 469) C dL_law_469 rfl ?_
  refine x_iconst (pc := 471) C (nI 3) dL_law_471 (by decide) ?_
  refine x_iadd (pc := 472) C dL_law_472 ?_
  refine x_topi (nI (i + 3)) (nI_add i 3) ?_
  refine x_sld (pc := 473) C hsc dL_law_473 (show i + 3 < len by omega) hlen ?_
  refine x_pV3 (pc := 474) (o := 200) C v_L_108 dL_law_474 hRM (hI2 200 rfl) rfl (by decide) rfl ⟨by omega, by omega⟩ (fun V3 hq3 => ?_)
  obtain ⟨ht, hInv⟩ := hQ V3 hq3
  refine y_istore (pc := 477) C dL_law_477 (by decide) rfl ?_
  refine x_aload_n (pc := 479) C dL_law_479 rfl ?_
  refine x_cV0 (pc := 480) (o := 200) C v_L_95 dL_law_480 (c_X7_thrown hI2) (hI2 200 rfl) rfl (by decide) rfl ⟨by omega, by omega⟩ ?_
  refine x_iload (pc := 483) C dL_law_483 rfl ?_
  refine x_icmp_eq (pc := 485) (tgt := 490) C dL_law_485 (by decide) (fun _ => ?_) (fun hne => absurd ht hne)
  refine x_iload (pc := 490) C dL_law_490 rfl ?_
  refine x_if_ne (pc := 492) (tgt := 507) C dL_law_492 (by decide) (fun _ => ?_) (fun hk0 => ?_)
  · refine x_goto (pc := 507) (tgt := 1692) C dL_law_507 (by decide) ?_
    refine x_fgt 5 ?_
    refine x_fgt 6 ?_
    exact x_wid (by omega) (by omega) (K _ _ _ _ hInv)
  · have k0 : k = 0 := (nI_eq (b := 0) (by omega) (by decide)).mp hk0
    refine x_aload_n (pc := 495) C dL_law_495 rfl ?_
    refine x_iconst (pc := 496) C (0) dL_law_496 (by decide) ?_
    refine x_lald (pc := 497) (o := 210) C dL_law_497 (hI2 210 rfl) ⟨rfl, rfl⟩ ?_
    refine x_iload (pc := 498) C dL_law_498 rfl ?_
    refine x_i2l (pc := 500) C dL_law_500 ?_
    refine x_lcmp (pc := 501) C dL_law_501 ?_
    refine x_if_eq (pc := 502) (tgt := 507) C dL_law_502 (by decide) (fun _ => ?_) (fun hne => absurd ((lg_cmp_eq _ _).mpr (hw k0)) hne)
    refine x_goto (pc := 507) (tgt := 1692) C dL_law_507 (by decide) ?_
    refine x_fgt 5 ?_
    refine x_fgt 6 ?_
    exact x_wid (by omega) (by omega) (K _ _ _ _ hInv)
set_option maxRecDepth 100000 in
set_option maxHeartbeats 4000000 in
theorem w_remove (C : OK E RL cL_law 9 (some .boolean) 11 MC MS) (hsc : Sc E bq len xs) {i : Nat} (hi : i + 7 ≤ len) (hlen : len ≤ 3584) (h : Inv V N I) (hr : a + 16 ≤ MC ∧ b + 300 ≤ MS) (K : ∀ V' L' N' I', Inv V' N' I' → Wx E 1692 (LLs bq i) [] V' L' N' I' (a + 16) (b + 300)) : Wx E 510 (LLs bq i) [] V L N I a b := by
  obtain ⟨n, o, m, l0, hX⟩ := h
  have hI := hX.2.2.1.1.1
  obtain ⟨P, hR, hSP⟩ := s_remove (l := eL E) (L := L) hX (xs (i + 1))
  refine x_aload_n (pc := 510) C dL_law_510 rfl ?_
  refine x_aload_nq (pc := 511) C dL_law_511 rfl ?_
  refine x_iload (pc := 512) C dL_law_512 rfl ?_
  refine x_iconst (pc := 514) C (nI 1) dL_law_514 (by decide) ?_
  refine x_iadd (pc := 515) C dL_law_515 ?_
  refine x_topi (nI (i + 1)) (nI_add i 1) ?_
  refine x_sld (pc := 516) C hsc dL_law_516 (show i + 1 < len by omega) hlen ?_
  refine x_aload_n (pc := 517) C dL_law_517 rfl ?_
  refine x_callSX (pc := 518) (st := []) (As := [aR 0, aI (xs (i + 1)), aR 210]) C x_L_109 dL_law_518 (c_L_remove hI (xs (i + 1)) hR (sp_h1 hSP)) rfl (by decide) (okB_s rfl) (by decide) ⟨by omega, by omega⟩ (fun X V2 L2 N2 I2 hq => (lwp_no hq).elim) (fun r V2 L2 N2 I2 hq => ?_)
  obtain ⟨hIN, k, w, hk3, rfl, hw, hM⟩ := lwp_c hSP hq
  obtain ⟨Q, hRM, hQ⟩ := hM L2
  have hI2 := hIN.1
  refine y_istore (pc := 521) C dL_law_521 (by decide) rfl ?_
  refine x_aload_n (pc := 523) C dL_law_523 rfl ?_
  refine x_aload_nq (pc := 524) C dL_law_524 rfl ?_
  refine x_iload (pc := 525) C dL_law_525 rfl ?_
  refine x_iconst (pc := 527) C (nI 1) dL_law_527 (by decide) ?_
  refine x_iadd (pc := 528) C dL_law_528 ?_
  refine x_topi (nI (i + 1)) (nI_add i 1) ?_
  refine x_sld (pc := 529) C hsc dL_law_529 (show i + 1 < len by omega) hlen ?_
  refine x_pV1 (pc := 530) (o := 200) C v_L_112 dL_law_530 hRM (hI2 200 rfl) rfl (by decide) rfl ⟨by omega, by omega⟩ (fun V3 hq3 => ?_)
  obtain ⟨ht, hInv⟩ := hQ V3 hq3
  refine y_istore (pc := 533) C dL_law_533 (by decide) rfl ?_
  refine x_aload_n (pc := 535) C dL_law_535 rfl ?_
  refine x_cV0 (pc := 536) (o := 200) C v_L_95 dL_law_536 (c_X7_thrown hI2) (hI2 200 rfl) rfl (by decide) rfl ⟨by omega, by omega⟩ ?_
  refine x_iload (pc := 539) C dL_law_539 rfl ?_
  refine x_icmp_eq (pc := 541) (tgt := 546) C dL_law_541 (by decide) (fun _ => ?_) (fun hne => absurd ht hne)
  refine x_iload (pc := 546) C dL_law_546 rfl ?_
  refine x_if_ne (pc := 548) (tgt := 563) C dL_law_548 (by decide) (fun _ => ?_) (fun hk0 => ?_)
  · refine x_goto (pc := 563) (tgt := 1692) C dL_law_563 (by decide) ?_
    refine x_fgt 5 ?_
    refine x_fgt 6 ?_
    exact x_wid (by omega) (by omega) (K _ _ _ _ hInv)
  · have k0 : k = 0 := (nI_eq (b := 0) (by omega) (by decide)).mp hk0
    refine x_aload_n (pc := 551) C dL_law_551 rfl ?_
    refine x_iconst (pc := 552) C (0) dL_law_552 (by decide) ?_
    refine x_lald (pc := 553) (o := 210) C dL_law_553 (hI2 210 rfl) ⟨rfl, rfl⟩ ?_
    refine x_iload (pc := 554) C dL_law_554 rfl ?_
    refine x_i2l (pc := 556) C dL_law_556 ?_
    refine x_lcmp (pc := 557) C dL_law_557 ?_
    refine x_if_eq (pc := 558) (tgt := 563) C dL_law_558 (by decide) (fun _ => ?_) (fun hne => absurd ((lg_cmp_eq _ _).mpr (hw k0)) hne)
    refine x_goto (pc := 563) (tgt := 1692) C dL_law_563 (by decide) ?_
    refine x_fgt 5 ?_
    refine x_fgt 6 ?_
    exact x_wid (by omega) (by omega) (K _ _ _ _ hInv)
set_option maxRecDepth 100000 in
set_option maxHeartbeats 4000000 in
theorem w_overrun (C : OK E RL cL_law 9 (some .boolean) 11 MC MS) (hsc : Sc E bq len xs) {i : Nat} (hi : i + 7 ≤ len) (hlen : len ≤ 3584) (h : Inv V N I) (hr : a + 16 ≤ MC ∧ b + 300 ≤ MS) (K : ∀ V' L' N' I', Inv V' N' I' → Wx E 1692 (LLs bq i) [] V' L' N' I' (a + 16) (b + 300)) : Wx E 566 (LLs bq i) [] V L N I a b := by
  obtain ⟨n, o, m, l0, hX⟩ := h
  have hI := hX.2.2.1.1.1
  obtain ⟨P, hR, hSP⟩ := s_overrun (l := eL E) (L := L) hX (xs (i + 1)) (xs (i + 2))
  refine x_aload_n (pc := 566) C dL_law_566 rfl ?_
  refine x_aload_nq (pc := 567) C dL_law_567 rfl ?_
  refine x_iload (pc := 568) C dL_law_568 rfl ?_
  refine x_iconst (pc := 570) C (nI 1) dL_law_570 (by decide) ?_
  refine x_iadd (pc := 571) C dL_law_571 ?_
  refine x_topi (nI (i + 1)) (nI_add i 1) ?_
  refine x_sld (pc := 572) C hsc dL_law_572 (show i + 1 < len by omega) hlen ?_
  refine x_aload_nq (pc := 573) C dL_law_573 rfl ?_
  refine x_iload (pc := 574) C dL_law_574 rfl ?_
  refine x_iconst (pc := 576) C (nI 2) dL_law_576 (by decide) ?_
  refine x_iadd (pc := 577) C dL_law_577 ?_
  refine x_topi (nI (i + 2)) (nI_add i 2) ?_
  refine x_sld (pc := 578) C hsc dL_law_578 (show i + 2 < len by omega) hlen ?_
  refine x_aload_n (pc := 579) C dL_law_579 rfl ?_
  refine x_callSX (pc := 580) (st := []) (As := [aR 0, aI (xs (i + 1)), aI (xs (i + 2)), aR 210]) C x_L_113 dL_law_580 (c_L_overrun hI (xs (i + 1)) (xs (i + 2)) hR (sp_h3 hSP)) rfl (by decide) (okB_s rfl) (by decide) ⟨by omega, by omega⟩ (fun X V2 L2 N2 I2 hq => (lwp_no hq).elim) (fun r V2 L2 N2 I2 hq => ?_)
  obtain ⟨hIN, k, w, hk3, rfl, hw, hM⟩ := lwp_c hSP hq
  obtain ⟨Q, hRM, hQ⟩ := hM L2
  have hI2 := hIN.1
  refine y_istore (pc := 583) C dL_law_583 (by decide) rfl ?_
  refine x_aload_n (pc := 585) C dL_law_585 rfl ?_
  refine x_aload_nq (pc := 586) C dL_law_586 rfl ?_
  refine x_iload (pc := 587) C dL_law_587 rfl ?_
  refine x_iconst (pc := 589) C (nI 1) dL_law_589 (by decide) ?_
  refine x_iadd (pc := 590) C dL_law_590 ?_
  refine x_topi (nI (i + 1)) (nI_add i 1) ?_
  refine x_sld (pc := 591) C hsc dL_law_591 (show i + 1 < len by omega) hlen ?_
  refine x_aload_nq (pc := 592) C dL_law_592 rfl ?_
  refine x_iload (pc := 593) C dL_law_593 rfl ?_
  refine x_iconst (pc := 595) C (nI 2) dL_law_595 (by decide) ?_
  refine x_iadd (pc := 596) C dL_law_596 ?_
  refine x_topi (nI (i + 2)) (nI_add i 2) ?_
  refine x_sld (pc := 597) C hsc dL_law_597 (show i + 2 < len by omega) hlen ?_
  refine x_pV2 (pc := 598) (o := 200) C v_L_115 dL_law_598 hRM (hI2 200 rfl) rfl (by decide) rfl ⟨by omega, by omega⟩ (fun V3 hq3 => ?_)
  obtain ⟨ht, hInv⟩ := hQ V3 hq3
  refine y_istore (pc := 601) C dL_law_601 (by decide) rfl ?_
  refine x_aload_n (pc := 603) C dL_law_603 rfl ?_
  refine x_cV0 (pc := 604) (o := 200) C v_L_95 dL_law_604 (c_X7_thrown hI2) (hI2 200 rfl) rfl (by decide) rfl ⟨by omega, by omega⟩ ?_
  refine x_iload (pc := 607) C dL_law_607 rfl ?_
  refine x_icmp_eq (pc := 609) (tgt := 614) C dL_law_609 (by decide) (fun _ => ?_) (fun hne => absurd ht hne)
  refine x_iload (pc := 614) C dL_law_614 rfl ?_
  refine x_if_ne (pc := 616) (tgt := 631) C dL_law_616 (by decide) (fun _ => ?_) (fun hk0 => ?_)
  · refine x_goto (pc := 631) (tgt := 1692) C dL_law_631 (by decide) ?_
    refine x_fgt 5 ?_
    refine x_fgt 6 ?_
    exact x_wid (by omega) (by omega) (K _ _ _ _ hInv)
  · have k0 : k = 0 := (nI_eq (b := 0) (by omega) (by decide)).mp hk0
    refine x_aload_n (pc := 619) C dL_law_619 rfl ?_
    refine x_iconst (pc := 620) C (0) dL_law_620 (by decide) ?_
    refine x_lald (pc := 621) (o := 210) C dL_law_621 (hI2 210 rfl) ⟨rfl, rfl⟩ ?_
    refine x_iload (pc := 622) C dL_law_622 rfl ?_
    refine x_i2l (pc := 624) C dL_law_624 ?_
    refine x_lcmp (pc := 625) C dL_law_625 ?_
    refine x_if_eq (pc := 626) (tgt := 631) C dL_law_626 (by decide) (fun _ => ?_) (fun hne => absurd ((lg_cmp_eq _ _).mpr (hw k0)) hne)
    refine x_goto (pc := 631) (tgt := 1692) C dL_law_631 (by decide) ?_
    refine x_fgt 5 ?_
    refine x_fgt 6 ?_
    exact x_wid (by omega) (by omega) (K _ _ _ _ hInv)
set_option maxRecDepth 100000 in
set_option maxHeartbeats 4000000 in
theorem w_closeWeek (C : OK E RL cL_law 9 (some .boolean) 11 MC MS) (hsc : Sc E bq len xs) {i : Nat} (hi : i + 7 ≤ len) (hlen : len ≤ 3584) (h : Inv V N I) (hr : a + 16 ≤ MC ∧ b + 300 ≤ MS) (K : ∀ V' L' N' I', Inv V' N' I' → Wx E 1692 (LLs bq i) [] V' L' N' I' (a + 16) (b + 300)) : Wx E 634 (LLs bq i) [] V L N I a b := by
  obtain ⟨n, o, m, l0, hX⟩ := h
  have hI := hX.2.2.1.1.1
  obtain ⟨P, hR, hSP⟩ := s_closeWeek (l := eL E) (L := L) hX 
  refine x_aload_n (pc := 634) C dL_law_634 rfl ?_
  refine x_aload_n (pc := 635) C dL_law_635 rfl ?_
  refine x_callSX (pc := 636) (st := []) (As := [aR 0, aR 210]) C x_L_116 dL_law_636 (c_L_closeWeek hI  hR (sp_h1 hSP)) rfl (by decide) (okB_s rfl) (by decide) ⟨by omega, by omega⟩ (fun X V2 L2 N2 I2 hq => (lwp_no hq).elim) (fun r V2 L2 N2 I2 hq => ?_)
  obtain ⟨hIN, k, w, hk3, rfl, hw, hM⟩ := lwp_c hSP hq
  obtain ⟨Q, hRM, hQ⟩ := hM L2
  have hI2 := hIN.1
  refine y_istore (pc := 639) C dL_law_639 (by decide) rfl ?_
  refine x_aload_n (pc := 641) C dL_law_641 rfl ?_
  refine x_pV0 (pc := 642) (o := 200) C v_L_119 dL_law_642 hRM (hI2 200 rfl) rfl (by decide) rfl ⟨by omega, by omega⟩ (fun V3 hq3 => ?_)
  obtain ⟨ht, hInv⟩ := hQ V3 hq3
  refine y_istore (pc := 645) C dL_law_645 (by decide) rfl ?_
  refine x_aload_n (pc := 647) C dL_law_647 rfl ?_
  refine x_cV0 (pc := 648) (o := 200) C v_L_95 dL_law_648 (c_X7_thrown hI2) (hI2 200 rfl) rfl (by decide) rfl ⟨by omega, by omega⟩ ?_
  refine x_iload (pc := 651) C dL_law_651 rfl ?_
  refine x_icmp_eq (pc := 653) (tgt := 658) C dL_law_653 (by decide) (fun _ => ?_) (fun hne => absurd ht hne)
  refine x_iload (pc := 658) C dL_law_658 rfl ?_
  refine x_if_ne (pc := 660) (tgt := 675) C dL_law_660 (by decide) (fun _ => ?_) (fun hk0 => ?_)
  · refine x_goto (pc := 675) (tgt := 1692) C dL_law_675 (by decide) ?_
    refine x_fgt 5 ?_
    refine x_fgt 6 ?_
    exact x_wid (by omega) (by omega) (K _ _ _ _ hInv)
  · have k0 : k = 0 := (nI_eq (b := 0) (by omega) (by decide)).mp hk0
    refine x_aload_n (pc := 663) C dL_law_663 rfl ?_
    refine x_iconst (pc := 664) C (0) dL_law_664 (by decide) ?_
    refine x_lald (pc := 665) (o := 210) C dL_law_665 (hI2 210 rfl) ⟨rfl, rfl⟩ ?_
    refine x_iload (pc := 666) C dL_law_666 rfl ?_
    refine x_i2l (pc := 668) C dL_law_668 ?_
    refine x_lcmp (pc := 669) C dL_law_669 ?_
    refine x_if_eq (pc := 670) (tgt := 675) C dL_law_670 (by decide) (fun _ => ?_) (fun hne => absurd ((lg_cmp_eq _ _).mpr (hw k0)) hne)
    refine x_goto (pc := 675) (tgt := 1692) C dL_law_675 (by decide) ?_
    refine x_fgt 5 ?_
    refine x_fgt 6 ?_
    exact x_wid (by omega) (by omega) (K _ _ _ _ hInv)
set_option maxRecDepth 100000 in
set_option maxHeartbeats 4000000 in
theorem w_append (C : OK E RL cL_law 9 (some .boolean) 11 MC MS) (hsc : Sc E bq len xs) {i : Nat} (hi : i + 7 ≤ len) (hlen : len ≤ 3584) (h : Inv V N I) (hr : a + 16 ≤ MC ∧ b + 300 ≤ MS) (K : ∀ V' L' N' I', Inv V' N' I' → Wx E 1692 (LLs bq i) [] V' L' N' I' (a + 16) (b + 300)) : Wx E 678 (LLs bq i) [] V L N I a b := by
  obtain ⟨n, o, m, l0, hX⟩ := h
  have hI := hX.2.2.1.1.1
  obtain ⟨P, hR, hSP⟩ := s_append (l := eL E) (L := L) hX (xs (i + 1))
  refine x_aload_n (pc := 678) C dL_law_678 rfl ?_
  refine x_aload_nq (pc := 679) C dL_law_679 rfl ?_
  refine x_iload (pc := 680) C dL_law_680 rfl ?_
  refine x_iconst (pc := 682) C (nI 1) dL_law_682 (by decide) ?_
  refine x_iadd (pc := 683) C dL_law_683 ?_
  refine x_topi (nI (i + 1)) (nI_add i 1) ?_
  refine x_sld (pc := 684) C hsc dL_law_684 (show i + 1 < len by omega) hlen ?_
  refine x_aload_n (pc := 685) C dL_law_685 rfl ?_
  refine x_callSX (pc := 686) (st := []) (As := [aR 0, aI (xs (i + 1)), aR 210]) C x_L_120 dL_law_686 (c_L_append hI (xs (i + 1)) hR (sp_h2 hSP)) rfl (by decide) (okB_s rfl) (by decide) ⟨by omega, by omega⟩ (fun X V2 L2 N2 I2 hq => (lwp_no hq).elim) (fun r V2 L2 N2 I2 hq => ?_)
  obtain ⟨hIN, k, w, hk3, rfl, hw, hM⟩ := lwp_c hSP hq
  obtain ⟨Q, hRM, hQ⟩ := hM L2
  have hI2 := hIN.1
  refine y_istore (pc := 689) C dL_law_689 (by decide) rfl ?_
  refine x_aload_n (pc := 691) C dL_law_691 rfl ?_
  refine x_aload_nq (pc := 692) C dL_law_692 rfl ?_
  refine x_iload (pc := 693) C dL_law_693 rfl ?_
  refine x_iconst (pc := 695) C (nI 1) dL_law_695 (by decide) ?_
  refine x_iadd (pc := 696) C dL_law_696 ?_
  refine x_topi (nI (i + 1)) (nI_add i 1) ?_
  refine x_sld (pc := 697) C hsc dL_law_697 (show i + 1 < len by omega) hlen ?_
  refine x_pV1 (pc := 698) (o := 200) C v_L_122 dL_law_698 hRM (hI2 200 rfl) rfl (by decide) rfl ⟨by omega, by omega⟩ (fun V3 hq3 => ?_)
  obtain ⟨ht, hInv⟩ := hQ V3 hq3
  refine y_istore (pc := 701) C dL_law_701 (by decide) rfl ?_
  refine x_aload_n (pc := 703) C dL_law_703 rfl ?_
  refine x_cV0 (pc := 704) (o := 200) C v_L_95 dL_law_704 (c_X7_thrown hI2) (hI2 200 rfl) rfl (by decide) rfl ⟨by omega, by omega⟩ ?_
  refine x_iload (pc := 707) C dL_law_707 rfl ?_
  refine x_icmp_eq (pc := 709) (tgt := 714) C dL_law_709 (by decide) (fun _ => ?_) (fun hne => absurd ht hne)
  refine x_iload (pc := 714) C dL_law_714 rfl ?_
  refine x_if_ne (pc := 716) (tgt := 731) C dL_law_716 (by decide) (fun _ => ?_) (fun hk0 => ?_)
  · refine x_goto (pc := 731) (tgt := 1692) C dL_law_731 (by decide) ?_
    refine x_fgt 5 ?_
    refine x_fgt 6 ?_
    exact x_wid (by omega) (by omega) (K _ _ _ _ hInv)
  · have k0 : k = 0 := (nI_eq (b := 0) (by omega) (by decide)).mp hk0
    refine x_aload_n (pc := 719) C dL_law_719 rfl ?_
    refine x_iconst (pc := 720) C (0) dL_law_720 (by decide) ?_
    refine x_lald (pc := 721) (o := 210) C dL_law_721 (hI2 210 rfl) ⟨rfl, rfl⟩ ?_
    refine x_iload (pc := 722) C dL_law_722 rfl ?_
    refine x_i2l (pc := 724) C dL_law_724 ?_
    refine x_lcmp (pc := 725) C dL_law_725 ?_
    refine x_if_eq (pc := 726) (tgt := 731) C dL_law_726 (by decide) (fun _ => ?_) (fun hne => absurd ((lg_cmp_eq _ _).mpr (hw k0)) hne)
    refine x_goto (pc := 731) (tgt := 1692) C dL_law_731 (by decide) ?_
    refine x_fgt 5 ?_
    refine x_fgt 6 ?_
    exact x_wid (by omega) (by omega) (K _ _ _ _ hInv)
set_option maxRecDepth 100000 in
set_option maxHeartbeats 4000000 in
theorem w_load (C : OK E RL cL_law 9 (some .boolean) 11 MC MS) (hsc : Sc E bq len xs) {i : Nat} (hi : i + 7 ≤ len) (hlen : len ≤ 3584) (h : Inv V N I) (hr : a + 16 ≤ MC ∧ b + 300 ≤ MS) (K : ∀ V' L' N' I', Inv V' N' I' → Wx E 1692 (LLs bq i) [] V' L' N' I' (a + 16) (b + 300)) : Wx E 760 (LLs bq i) [] V L N I a b := by
  obtain ⟨n, o, m, l0, hX⟩ := h
  have hI := hX.2.2.1.1.1
  obtain ⟨P, hR, hSP⟩ := s_load (l := eL E) (L := L) hX 
  refine x_aload_n (pc := 760) C dL_law_760 rfl ?_
  refine x_aload_n (pc := 761) C dL_law_761 rfl ?_
  refine x_callSX (pc := 762) (st := []) (As := [aR 0, aR 210]) C x_L_131 dL_law_762 (c_L_load hI  hR (sp_h1 hSP)) rfl (by decide) (okB_s rfl) (by decide) ⟨by omega, by omega⟩ (fun X V2 L2 N2 I2 hq => (lwp_no hq).elim) (fun r V2 L2 N2 I2 hq => ?_)
  obtain ⟨hIN, k, w, hk3, rfl, hw, hM⟩ := lwp_c hSP hq
  obtain ⟨Q, hRM, hQ⟩ := hM L2
  have hI2 := hIN.1
  refine y_istore (pc := 765) C dL_law_765 (by decide) rfl ?_
  refine x_aload_n (pc := 767) C dL_law_767 rfl ?_
  refine x_pV0 (pc := 768) (o := 200) C v_L_133 dL_law_768 hRM (hI2 200 rfl) rfl (by decide) rfl ⟨by omega, by omega⟩ (fun V3 hq3 => ?_)
  obtain ⟨ht, hInv⟩ := hQ V3 hq3
  refine y_istore (pc := 771) C dL_law_771 (by decide) rfl ?_
  refine x_aload_n (pc := 773) C dL_law_773 rfl ?_
  refine x_cV0 (pc := 774) (o := 200) C v_L_95 dL_law_774 (c_X7_thrown hI2) (hI2 200 rfl) rfl (by decide) rfl ⟨by omega, by omega⟩ ?_
  refine x_iload (pc := 777) C dL_law_777 rfl ?_
  refine x_icmp_eq (pc := 779) (tgt := 784) C dL_law_779 (by decide) (fun _ => ?_) (fun hne => absurd ht hne)
  refine x_iload (pc := 784) C dL_law_784 rfl ?_
  refine x_if_ne (pc := 786) (tgt := 801) C dL_law_786 (by decide) (fun _ => ?_) (fun hk0 => ?_)
  · refine x_goto (pc := 801) (tgt := 1692) C dL_law_801 (by decide) ?_
    refine x_fgt 5 ?_
    refine x_fgt 6 ?_
    exact x_wid (by omega) (by omega) (K _ _ _ _ hInv)
  · have k0 : k = 0 := (nI_eq (b := 0) (by omega) (by decide)).mp hk0
    refine x_aload_n (pc := 789) C dL_law_789 rfl ?_
    refine x_iconst (pc := 790) C (0) dL_law_790 (by decide) ?_
    refine x_lald (pc := 791) (o := 210) C dL_law_791 (hI2 210 rfl) ⟨rfl, rfl⟩ ?_
    refine x_iload (pc := 792) C dL_law_792 rfl ?_
    refine x_i2l (pc := 794) C dL_law_794 ?_
    refine x_lcmp (pc := 795) C dL_law_795 ?_
    refine x_if_eq (pc := 796) (tgt := 801) C dL_law_796 (by decide) (fun _ => ?_) (fun hne => absurd ((lg_cmp_eq _ _).mpr (hw k0)) hne)
    refine x_goto (pc := 801) (tgt := 1692) C dL_law_801 (by decide) ?_
    refine x_fgt 5 ?_
    refine x_fgt 6 ?_
    exact x_wid (by omega) (by omega) (K _ _ _ _ hInv)
set_option maxRecDepth 100000 in
set_option maxHeartbeats 4000000 in
theorem w_undo (C : OK E RL cL_law 9 (some .boolean) 11 MC MS) (hsc : Sc E bq len xs) {i : Nat} (hi : i + 7 ≤ len) (hlen : len ≤ 3584) (h : Inv V N I) (hr : a + 16 ≤ MC ∧ b + 300 ≤ MS) (K : ∀ V' L' N' I', Inv V' N' I' → Wx E 1692 (LLs bq i) [] V' L' N' I' (a + 16) (b + 300)) : Wx E 804 (LLs bq i) [] V L N I a b := by
  obtain ⟨n, o, m, l0, hX⟩ := h
  have hI := hX.2.2.1.1.1
  obtain ⟨P, hR, hSP⟩ := s_undo (l := eL E) (L := L) hX 
  refine x_aload_n (pc := 804) C dL_law_804 rfl ?_
  refine x_aload_n (pc := 805) C dL_law_805 rfl ?_
  refine x_callSX (pc := 806) (st := []) (As := [aR 0, aR 210]) C x_L_134 dL_law_806 (c_L_undo hI  hR (sp_h1 hSP)) rfl (by decide) (okB_s rfl) (by decide) ⟨by omega, by omega⟩ (fun X V2 L2 N2 I2 hq => (lwp_no hq).elim) (fun r V2 L2 N2 I2 hq => ?_)
  obtain ⟨hIN, k, w, hk3, rfl, hw, hM⟩ := lwp_c hSP hq
  obtain ⟨Q, hRM, hQ⟩ := hM L2
  have hI2 := hIN.1
  refine y_istore (pc := 809) C dL_law_809 (by decide) rfl ?_
  refine x_aload_n (pc := 811) C dL_law_811 rfl ?_
  refine x_pV0 (pc := 812) (o := 200) C v_L_136 dL_law_812 hRM (hI2 200 rfl) rfl (by decide) rfl ⟨by omega, by omega⟩ (fun V3 hq3 => ?_)
  obtain ⟨ht, hInv⟩ := hQ V3 hq3
  refine y_istore (pc := 815) C dL_law_815 (by decide) rfl ?_
  refine x_aload_n (pc := 817) C dL_law_817 rfl ?_
  refine x_cV0 (pc := 818) (o := 200) C v_L_95 dL_law_818 (c_X7_thrown hI2) (hI2 200 rfl) rfl (by decide) rfl ⟨by omega, by omega⟩ ?_
  refine x_iload (pc := 821) C dL_law_821 rfl ?_
  refine x_icmp_eq (pc := 823) (tgt := 828) C dL_law_823 (by decide) (fun _ => ?_) (fun hne => absurd ht hne)
  refine x_iload (pc := 828) C dL_law_828 rfl ?_
  refine x_if_ne (pc := 830) (tgt := 845) C dL_law_830 (by decide) (fun _ => ?_) (fun hk0 => ?_)
  · refine x_goto (pc := 845) (tgt := 1692) C dL_law_845 (by decide) ?_
    refine x_fgt 5 ?_
    refine x_fgt 6 ?_
    exact x_wid (by omega) (by omega) (K _ _ _ _ hInv)
  · have k0 : k = 0 := (nI_eq (b := 0) (by omega) (by decide)).mp hk0
    refine x_aload_n (pc := 833) C dL_law_833 rfl ?_
    refine x_iconst (pc := 834) C (0) dL_law_834 (by decide) ?_
    refine x_lald (pc := 835) (o := 210) C dL_law_835 (hI2 210 rfl) ⟨rfl, rfl⟩ ?_
    refine x_iload (pc := 836) C dL_law_836 rfl ?_
    refine x_i2l (pc := 838) C dL_law_838 ?_
    refine x_lcmp (pc := 839) C dL_law_839 ?_
    refine x_if_eq (pc := 840) (tgt := 845) C dL_law_840 (by decide) (fun _ => ?_) (fun hne => absurd ((lg_cmp_eq _ _).mpr (hw k0)) hne)
    refine x_goto (pc := 845) (tgt := 1692) C dL_law_845 (by decide) ?_
    refine x_fgt 5 ?_
    refine x_fgt 6 ?_
    exact x_wid (by omega) (by omega) (K _ _ _ _ hInv)
set_option maxRecDepth 100000 in
set_option maxHeartbeats 4000000 in
theorem w_show (C : OK E RL cL_law 9 (some .boolean) 11 MC MS) (hsc : Sc E bq len xs) {i : Nat} (hi : i + 7 ≤ len) (hlen : len ≤ 3584) (h : Inv V N I) (hr : a + 16 ≤ MC ∧ b + 300 ≤ MS) (K : ∀ V' L' N' I', Inv V' N' I' → Wx E 1692 (LLs bq i) [] V' L' N' I' (a + 16) (b + 300)) : Wx E 861 (LLs bq i) [] V L N I a b := by
  obtain ⟨n, o, m, l0, hX⟩ := h
  have hI := hX.2.2.1.1.1
  obtain ⟨P, hR, hSP⟩ := s_show (l := eL E) (L := L) hX (xs (i + 1)) (xs (i + 2))
  refine x_aload_n (pc := 861) C dL_law_861 rfl ?_
  refine x_aload_nq (pc := 862) C dL_law_862 rfl ?_
  refine x_iload (pc := 863) C dL_law_863 rfl ?_
  refine x_iconst (pc := 865) C (nI 1) dL_law_865 (by decide) ?_
  refine x_iadd (pc := 866) C dL_law_866 ?_
  refine x_topi (nI (i + 1)) (nI_add i 1) ?_
  refine x_sld (pc := 867) C hsc dL_law_867 (show i + 1 < len by omega) hlen ?_
  refine x_aload_nq (pc := 868) C dL_law_868 rfl ?_
  refine x_iload (pc := 869) C dL_law_869 rfl ?_
  refine x_iconst (pc := 871) C (nI 2) dL_law_871 (by decide) ?_
  refine x_iadd (pc := 872) C dL_law_872 ?_
  refine x_topi (nI (i + 2)) (nI_add i 2) ?_
  refine x_sld (pc := 873) C hsc dL_law_873 (show i + 2 < len by omega) hlen ?_
  refine x_aload_n (pc := 874) C dL_law_874 rfl ?_
  refine x_callSX (pc := 875) (st := []) (As := [aR 0, aI (xs (i + 1)), aI (xs (i + 2)), aR 210]) C x_L_141 dL_law_875 (c_L_show hI (xs (i + 1)) (xs (i + 2)) hR (sp_h2 hSP)) rfl (by decide) (okB_s rfl) (by decide) ⟨by omega, by omega⟩ (fun X V2 L2 N2 I2 hq => (lwp_no hq).elim) (fun r V2 L2 N2 I2 hq => ?_)
  obtain ⟨hIN, k, w, hk3, rfl, hw, hM⟩ := lwp_c hSP hq
  obtain ⟨Q, hRM, hQ⟩ := hM L2
  have hI2 := hIN.1
  refine y_istore (pc := 878) C dL_law_878 (by decide) rfl ?_
  refine x_aload_n (pc := 880) C dL_law_880 rfl ?_
  refine x_aload_nq (pc := 881) C dL_law_881 rfl ?_
  refine x_iload (pc := 882) C dL_law_882 rfl ?_
  refine x_iconst (pc := 884) C (nI 1) dL_law_884 (by decide) ?_
  refine x_iadd (pc := 885) C dL_law_885 ?_
  refine x_topi (nI (i + 1)) (nI_add i 1) ?_
  refine x_sld (pc := 886) C hsc dL_law_886 (show i + 1 < len by omega) hlen ?_
  refine x_aload_nq (pc := 887) C dL_law_887 rfl ?_
  refine x_iload (pc := 888) C dL_law_888 rfl ?_
  refine x_iconst (pc := 890) C (nI 2) dL_law_890 (by decide) ?_
  refine x_iadd (pc := 891) C dL_law_891 ?_
  refine x_topi (nI (i + 2)) (nI_add i 2) ?_
  refine x_sld (pc := 892) C hsc dL_law_892 (show i + 2 < len by omega) hlen ?_
  refine x_pV2 (pc := 893) (o := 200) C v_L_143 dL_law_893 hRM (hI2 200 rfl) rfl (by decide) rfl ⟨by omega, by omega⟩ (fun V3 hq3 => ?_)
  obtain ⟨ht, hInv⟩ := hQ V3 hq3
  refine y_istore (pc := 896) C dL_law_896 (by decide) rfl ?_
  refine x_aload_n (pc := 898) C dL_law_898 rfl ?_
  refine x_cV0 (pc := 899) (o := 200) C v_L_95 dL_law_899 (c_X7_thrown hI2) (hI2 200 rfl) rfl (by decide) rfl ⟨by omega, by omega⟩ ?_
  refine x_iload (pc := 902) C dL_law_902 rfl ?_
  refine x_icmp_eq (pc := 904) (tgt := 909) C dL_law_904 (by decide) (fun _ => ?_) (fun hne => absurd ht hne)
  refine x_iload (pc := 909) C dL_law_909 rfl ?_
  refine x_if_ne (pc := 911) (tgt := 926) C dL_law_911 (by decide) (fun _ => ?_) (fun hk0 => ?_)
  · refine x_goto (pc := 926) (tgt := 1692) C dL_law_926 (by decide) ?_
    refine x_fgt 5 ?_
    refine x_fgt 6 ?_
    exact x_wid (by omega) (by omega) (K _ _ _ _ hInv)
  · have k0 : k = 0 := (nI_eq (b := 0) (by omega) (by decide)).mp hk0
    refine x_aload_n (pc := 914) C dL_law_914 rfl ?_
    refine x_iconst (pc := 915) C (0) dL_law_915 (by decide) ?_
    refine x_lald (pc := 916) (o := 210) C dL_law_916 (hI2 210 rfl) ⟨rfl, rfl⟩ ?_
    refine x_iload (pc := 917) C dL_law_917 rfl ?_
    refine x_i2l (pc := 919) C dL_law_919 ?_
    refine x_lcmp (pc := 920) C dL_law_920 ?_
    refine x_if_eq (pc := 921) (tgt := 926) C dL_law_921 (by decide) (fun _ => ?_) (fun hne => absurd ((lg_cmp_eq _ _).mpr (hw k0)) hne)
    refine x_goto (pc := 926) (tgt := 1692) C dL_law_926 (by decide) ?_
    refine x_fgt 5 ?_
    refine x_fgt 6 ?_
    exact x_wid (by omega) (by omega) (K _ _ _ _ hInv)
set_option maxRecDepth 100000 in
set_option maxHeartbeats 4000000 in
theorem w_group (C : OK E RL cL_law 9 (some .boolean) 11 MC MS) (hsc : Sc E bq len xs) {i : Nat} (hi : i + 7 ≤ len) (hlen : len ≤ 3584) (h : Inv V N I) (hr : a + 16 ≤ MC ∧ b + 300 ≤ MS) (K : ∀ V' L' N' I', Inv V' N' I' → Wx E 1692 (LLs bq i) [] V' L' N' I' (a + 16) (b + 300)) : Wx E 929 (LLs bq i) [] V L N I a b := by
  obtain ⟨n, o, m, l0, hX⟩ := h
  have hI := hX.2.2.1.1.1
  obtain ⟨P, hR, hSP⟩ := s_group (l := eL E) (L := L) hX (xs (i + 1)) (xs (i + 2))
  refine x_aload_n (pc := 929) C dL_law_929 rfl ?_
  refine x_aload_nq (pc := 930) C dL_law_930 rfl ?_
  refine x_iload (pc := 931) C dL_law_931 rfl ?_
  refine x_iconst (pc := 933) C (nI 1) dL_law_933 (by decide) ?_
  refine x_iadd (pc := 934) C dL_law_934 ?_
  refine x_topi (nI (i + 1)) (nI_add i 1) ?_
  refine x_sld (pc := 935) C hsc dL_law_935 (show i + 1 < len by omega) hlen ?_
  refine x_aload_nq (pc := 936) C dL_law_936 rfl ?_
  refine x_iload (pc := 937) C dL_law_937 rfl ?_
  refine x_iconst (pc := 939) C (nI 2) dL_law_939 (by decide) ?_
  refine x_iadd (pc := 940) C dL_law_940 ?_
  refine x_topi (nI (i + 2)) (nI_add i 2) ?_
  refine x_sld (pc := 941) C hsc dL_law_941 (show i + 2 < len by omega) hlen ?_
  refine x_aload_n (pc := 942) C dL_law_942 rfl ?_
  refine x_callSX (pc := 943) (st := []) (As := [aR 0, aI (xs (i + 1)), aI (xs (i + 2)), aR 210]) C x_L_144 dL_law_943 (c_L_group hI (xs (i + 1)) (xs (i + 2)) hR (sp_h2 hSP)) rfl (by decide) (okB_s rfl) (by decide) ⟨by omega, by omega⟩ (fun X V2 L2 N2 I2 hq => (lwp_no hq).elim) (fun r V2 L2 N2 I2 hq => ?_)
  obtain ⟨hIN, k, w, hk3, rfl, hw, hM⟩ := lwp_c hSP hq
  obtain ⟨Q, hRM, hQ⟩ := hM L2
  have hI2 := hIN.1
  refine y_istore (pc := 946) C dL_law_946 (by decide) rfl ?_
  refine x_aload_n (pc := 948) C dL_law_948 rfl ?_
  refine x_aload_nq (pc := 949) C dL_law_949 rfl ?_
  refine x_iload (pc := 950) C dL_law_950 rfl ?_
  refine x_iconst (pc := 952) C (nI 1) dL_law_952 (by decide) ?_
  refine x_iadd (pc := 953) C dL_law_953 ?_
  refine x_topi (nI (i + 1)) (nI_add i 1) ?_
  refine x_sld (pc := 954) C hsc dL_law_954 (show i + 1 < len by omega) hlen ?_
  refine x_aload_nq (pc := 955) C dL_law_955 rfl ?_
  refine x_iload (pc := 956) C dL_law_956 rfl ?_
  refine x_iconst (pc := 958) C (nI 2) dL_law_958 (by decide) ?_
  refine x_iadd (pc := 959) C dL_law_959 ?_
  refine x_topi (nI (i + 2)) (nI_add i 2) ?_
  refine x_sld (pc := 960) C hsc dL_law_960 (show i + 2 < len by omega) hlen ?_
  refine x_pV2 (pc := 961) (o := 200) C v_L_146 dL_law_961 hRM (hI2 200 rfl) rfl (by decide) rfl ⟨by omega, by omega⟩ (fun V3 hq3 => ?_)
  obtain ⟨ht, hInv⟩ := hQ V3 hq3
  refine y_istore (pc := 964) C dL_law_964 (by decide) rfl ?_
  refine x_aload_n (pc := 966) C dL_law_966 rfl ?_
  refine x_cV0 (pc := 967) (o := 200) C v_L_95 dL_law_967 (c_X7_thrown hI2) (hI2 200 rfl) rfl (by decide) rfl ⟨by omega, by omega⟩ ?_
  refine x_iload (pc := 970) C dL_law_970 rfl ?_
  refine x_icmp_eq (pc := 972) (tgt := 977) C dL_law_972 (by decide) (fun _ => ?_) (fun hne => absurd ht hne)
  refine x_iload (pc := 977) C dL_law_977 rfl ?_
  refine x_if_ne (pc := 979) (tgt := 994) C dL_law_979 (by decide) (fun _ => ?_) (fun hk0 => ?_)
  · refine x_goto (pc := 994) (tgt := 1692) C dL_law_994 (by decide) ?_
    refine x_fgt 5 ?_
    refine x_fgt 6 ?_
    exact x_wid (by omega) (by omega) (K _ _ _ _ hInv)
  · have k0 : k = 0 := (nI_eq (b := 0) (by omega) (by decide)).mp hk0
    refine x_aload_n (pc := 982) C dL_law_982 rfl ?_
    refine x_iconst (pc := 983) C (0) dL_law_983 (by decide) ?_
    refine x_lald (pc := 984) (o := 210) C dL_law_984 (hI2 210 rfl) ⟨rfl, rfl⟩ ?_
    refine x_iload (pc := 985) C dL_law_985 rfl ?_
    refine x_i2l (pc := 987) C dL_law_987 ?_
    refine x_lcmp (pc := 988) C dL_law_988 ?_
    refine x_if_eq (pc := 989) (tgt := 994) C dL_law_989 (by decide) (fun _ => ?_) (fun hne => absurd ((lg_cmp_eq _ _).mpr (hw k0)) hne)
    refine x_goto (pc := 994) (tgt := 1692) C dL_law_994 (by decide) ?_
    refine x_fgt 5 ?_
    refine x_fgt 6 ?_
    exact x_wid (by omega) (by omega) (K _ _ _ _ hInv)
set_option maxRecDepth 100000 in
set_option maxHeartbeats 4000000 in
theorem w_sponsors (C : OK E RL cL_law 9 (some .boolean) 11 MC MS) (hsc : Sc E bq len xs) {i : Nat} (hi : i + 7 ≤ len) (hlen : len ≤ 3584) (h : Inv V N I) (hr : a + 16 ≤ MC ∧ b + 300 ≤ MS) (K : ∀ V' L' N' I', Inv V' N' I' → Wx E 1692 (LLs bq i) [] V' L' N' I' (a + 16) (b + 300)) : Wx E 997 (LLs bq i) [] V L N I a b := by
  obtain ⟨n, o, m, l0, hX⟩ := h
  have hI := hX.2.2.1.1.1
  obtain ⟨P, hR, hSP⟩ := s_sponsors (l := eL E) (L := L) hX (xs (i + 1)) (xs (i + 2)) (bz (xs (i + 3)))
  refine x_aload_n (pc := 997) C dL_law_997 rfl ?_
  refine x_aload_nq (pc := 998) C dL_law_998 rfl ?_
  refine x_iload (pc := 999) C dL_law_999 rfl ?_
  refine x_iconst (pc := 1001) C (nI 1) dL_law_1001 (by decide) ?_
  refine x_iadd (pc := 1002) C dL_law_1002 ?_
  refine x_topi (nI (i + 1)) (nI_add i 1) ?_
  refine x_sld (pc := 1003) C hsc dL_law_1003 (show i + 1 < len by omega) hlen ?_
  refine x_aload_nq (pc := 1004) C dL_law_1004 rfl ?_
  refine x_iload (pc := 1005) C dL_law_1005 rfl ?_
  refine x_iconst (pc := 1007) C (nI 2) dL_law_1007 (by decide) ?_
  refine x_iadd (pc := 1008) C dL_law_1008 ?_
  refine x_topi (nI (i + 2)) (nI_add i 2) ?_
  refine x_sld (pc := 1009) C hsc dL_law_1009 (show i + 2 < len by omega) hlen ?_
  refine x_aload_nq (pc := 1010) C dL_law_1010 rfl ?_
  refine x_iload (pc := 1011) C dL_law_1011 rfl ?_
  refine x_iconst (pc := 1013) C (nI 3) dL_law_1013 (by decide) ?_
  refine x_iadd (pc := 1014) C dL_law_1014 ?_
  refine x_topi (nI (i + 3)) (nI_add i 3) ?_
  refine x_sld (pc := 1015) C hsc dL_law_1015 (show i + 3 < len by omega) hlen ?_
  refine x_bool (pc := 1016) C dL_law_1016 dL_law_1019 dL_law_1020 dL_law_1023 ?_
  refine x_aload_n (pc := 1024) C dL_law_1024 rfl ?_
  refine x_callSX (pc := 1025) (st := []) (As := [aR 0, aI (xs (i + 1)), aI (xs (i + 2)), aI (bz (xs (i + 3))), aR 210]) C x_L_147 dL_law_1025 (c_L_sponsors hI (xs (i + 1)) (xs (i + 2)) (bz (xs (i + 3))) hR (sp_h1 hSP)) rfl (by decide) (okB_s rfl) (by decide) ⟨by omega, by omega⟩ (fun X V2 L2 N2 I2 hq => (lwp_no hq).elim) (fun r V2 L2 N2 I2 hq => ?_)
  obtain ⟨hIN, k, w, hk3, rfl, hw, hM⟩ := lwp_c hSP hq
  obtain ⟨Q, hRM, hQ⟩ := hM L2
  have hI2 := hIN.1
  refine y_istore (pc := 1028) C dL_law_1028 (by decide) rfl ?_
  refine x_aload_n (pc := 1030) C dL_law_1030 rfl ?_
  refine x_aload_nq (pc := 1031) C dL_law_1031 rfl ?_
  refine x_iload (pc := 1032) C dL_law_1032 rfl ?_
  refine x_iconst (pc := 1034) C (nI 1) dL_law_1034 (by decide) ?_
  refine x_iadd (pc := 1035) C dL_law_1035 ?_
  refine x_topi (nI (i + 1)) (nI_add i 1) ?_
  refine x_sld (pc := 1036) C hsc dL_law_1036 (show i + 1 < len by omega) hlen ?_
  refine x_aload_nq (pc := 1037) C dL_law_1037 rfl ?_
  refine x_iload (pc := 1038) C dL_law_1038 rfl ?_
  refine x_iconst (pc := 1040) C (nI 2) dL_law_1040 (by decide) ?_
  refine x_iadd (pc := 1041) C dL_law_1041 ?_
  refine x_topi (nI (i + 2)) (nI_add i 2) ?_
  refine x_sld (pc := 1042) C hsc dL_law_1042 (show i + 2 < len by omega) hlen ?_
  refine x_aload_nq (pc := 1043) C dL_law_1043 rfl ?_
  refine x_iload (pc := 1044) C dL_law_1044 rfl ?_
  refine x_iconst (pc := 1046) C (nI 3) dL_law_1046 (by decide) ?_
  refine x_iadd (pc := 1047) C dL_law_1047 ?_
  refine x_topi (nI (i + 3)) (nI_add i 3) ?_
  refine x_sld (pc := 1048) C hsc dL_law_1048 (show i + 3 < len by omega) hlen ?_
  refine x_bool (pc := 1049) C dL_law_1049 dL_law_1052 dL_law_1053 dL_law_1056 ?_
  refine x_pV3 (pc := 1057) (o := 200) C v_L_150 dL_law_1057 hRM (hI2 200 rfl) rfl (by decide) rfl ⟨by omega, by omega⟩ (fun V3 hq3 => ?_)
  obtain ⟨ht, hInv⟩ := hQ V3 hq3
  refine y_istore (pc := 1060) C dL_law_1060 (by decide) rfl ?_
  refine x_aload_n (pc := 1062) C dL_law_1062 rfl ?_
  refine x_cV0 (pc := 1063) (o := 200) C v_L_95 dL_law_1063 (c_X7_thrown hI2) (hI2 200 rfl) rfl (by decide) rfl ⟨by omega, by omega⟩ ?_
  refine x_iload (pc := 1066) C dL_law_1066 rfl ?_
  refine x_icmp_eq (pc := 1068) (tgt := 1073) C dL_law_1068 (by decide) (fun _ => ?_) (fun hne => absurd ht hne)
  refine x_iload (pc := 1073) C dL_law_1073 rfl ?_
  refine x_if_ne (pc := 1075) (tgt := 1090) C dL_law_1075 (by decide) (fun _ => ?_) (fun hk0 => ?_)
  · refine x_goto (pc := 1090) (tgt := 1692) C dL_law_1090 (by decide) ?_
    refine x_fgt 5 ?_
    refine x_fgt 6 ?_
    exact x_wid (by omega) (by omega) (K _ _ _ _ hInv)
  · have k0 : k = 0 := (nI_eq (b := 0) (by omega) (by decide)).mp hk0
    refine x_aload_n (pc := 1078) C dL_law_1078 rfl ?_
    refine x_iconst (pc := 1079) C (0) dL_law_1079 (by decide) ?_
    refine x_lald (pc := 1080) (o := 210) C dL_law_1080 (hI2 210 rfl) ⟨rfl, rfl⟩ ?_
    refine x_iload (pc := 1081) C dL_law_1081 rfl ?_
    refine x_i2l (pc := 1083) C dL_law_1083 ?_
    refine x_lcmp (pc := 1084) C dL_law_1084 ?_
    refine x_if_eq (pc := 1085) (tgt := 1090) C dL_law_1085 (by decide) (fun _ => ?_) (fun hne => absurd ((lg_cmp_eq _ _).mpr (hw k0)) hne)
    refine x_goto (pc := 1090) (tgt := 1692) C dL_law_1090 (by decide) ?_
    refine x_fgt 5 ?_
    refine x_fgt 6 ?_
    exact x_wid (by omega) (by omega) (K _ _ _ _ hInv)
set_option maxRecDepth 100000 in
set_option maxHeartbeats 4000000 in
theorem w_day (C : OK E RL cL_law 9 (some .boolean) 11 MC MS) (hsc : Sc E bq len xs) {i : Nat} (hi : i + 7 ≤ len) (hlen : len ≤ 3584) (h : Inv V N I) (hr : a + 16 ≤ MC ∧ b + 300 ≤ MS) (K : ∀ V' L' N' I', Inv V' N' I' → Wx E 1692 (LLs bq i) [] V' L' N' I' (a + 16) (b + 300)) : Wx E 1093 (LLs bq i) [] V L N I a b := by
  obtain ⟨n, o, m, l0, hX⟩ := h
  have hI := hX.2.2.1.1.1
  obtain ⟨P, hR, hSP⟩ := s_day (l := eL E) (L := L) hX (xs (i + 1)) (xs (i + 2))
  refine x_aload_n (pc := 1093) C dL_law_1093 rfl ?_
  refine x_aload_nq (pc := 1094) C dL_law_1094 rfl ?_
  refine x_iload (pc := 1095) C dL_law_1095 rfl ?_
  refine x_iconst (pc := 1097) C (nI 1) dL_law_1097 (by decide) ?_
  refine x_iadd (pc := 1098) C dL_law_1098 ?_
  refine x_topi (nI (i + 1)) (nI_add i 1) ?_
  refine x_sld (pc := 1099) C hsc dL_law_1099 (show i + 1 < len by omega) hlen ?_
  refine x_aload_nq (pc := 1100) C dL_law_1100 rfl ?_
  refine x_iload (pc := 1101) C dL_law_1101 rfl ?_
  refine x_iconst (pc := 1103) C (nI 2) dL_law_1103 (by decide) ?_
  refine x_iadd (pc := 1104) C dL_law_1104 ?_
  refine x_topi (nI (i + 2)) (nI_add i 2) ?_
  refine x_sld (pc := 1105) C hsc dL_law_1105 (show i + 2 < len by omega) hlen ?_
  refine x_aload_n (pc := 1106) C dL_law_1106 rfl ?_
  refine x_callSX (pc := 1107) (st := []) (As := [aR 0, aI (xs (i + 1)), aI (xs (i + 2)), aR 210]) C x_L_151 dL_law_1107 (c_L_day hI (xs (i + 1)) (xs (i + 2)) hR (sp_h2 hSP)) rfl (by decide) (okB_s rfl) (by decide) ⟨by omega, by omega⟩ (fun X V2 L2 N2 I2 hq => (lwp_no hq).elim) (fun r V2 L2 N2 I2 hq => ?_)
  obtain ⟨hIN, k, w, hk3, rfl, hw, hM⟩ := lwp_c hSP hq
  obtain ⟨Q, hRM, hQ⟩ := hM L2
  have hI2 := hIN.1
  refine y_istore (pc := 1110) C dL_law_1110 (by decide) rfl ?_
  refine x_aload_n (pc := 1112) C dL_law_1112 rfl ?_
  refine x_aload_nq (pc := 1113) C dL_law_1113 rfl ?_
  refine x_iload (pc := 1114) C dL_law_1114 rfl ?_
  refine x_iconst (pc := 1116) C (nI 1) dL_law_1116 (by decide) ?_
  refine x_iadd (pc := 1117) C dL_law_1117 ?_
  refine x_topi (nI (i + 1)) (nI_add i 1) ?_
  refine x_sld (pc := 1118) C hsc dL_law_1118 (show i + 1 < len by omega) hlen ?_
  refine x_aload_nq (pc := 1119) C dL_law_1119 rfl ?_
  refine x_iload (pc := 1120) C dL_law_1120 rfl ?_
  refine x_iconst (pc := 1122) C (nI 2) dL_law_1122 (by decide) ?_
  refine x_iadd (pc := 1123) C dL_law_1123 ?_
  refine x_topi (nI (i + 2)) (nI_add i 2) ?_
  refine x_sld (pc := 1124) C hsc dL_law_1124 (show i + 2 < len by omega) hlen ?_
  refine x_pV2 (pc := 1125) (o := 200) C v_L_153 dL_law_1125 hRM (hI2 200 rfl) rfl (by decide) rfl ⟨by omega, by omega⟩ (fun V3 hq3 => ?_)
  obtain ⟨ht, hInv⟩ := hQ V3 hq3
  refine y_istore (pc := 1128) C dL_law_1128 (by decide) rfl ?_
  refine x_aload_n (pc := 1130) C dL_law_1130 rfl ?_
  refine x_cV0 (pc := 1131) (o := 200) C v_L_95 dL_law_1131 (c_X7_thrown hI2) (hI2 200 rfl) rfl (by decide) rfl ⟨by omega, by omega⟩ ?_
  refine x_iload (pc := 1134) C dL_law_1134 rfl ?_
  refine x_icmp_eq (pc := 1136) (tgt := 1141) C dL_law_1136 (by decide) (fun _ => ?_) (fun hne => absurd ht hne)
  refine x_iload (pc := 1141) C dL_law_1141 rfl ?_
  refine x_if_ne (pc := 1143) (tgt := 1158) C dL_law_1143 (by decide) (fun _ => ?_) (fun hk0 => ?_)
  · refine x_goto (pc := 1158) (tgt := 1692) C dL_law_1158 (by decide) ?_
    refine x_fgt 5 ?_
    refine x_fgt 6 ?_
    exact x_wid (by omega) (by omega) (K _ _ _ _ hInv)
  · have k0 : k = 0 := (nI_eq (b := 0) (by omega) (by decide)).mp hk0
    refine x_aload_n (pc := 1146) C dL_law_1146 rfl ?_
    refine x_iconst (pc := 1147) C (0) dL_law_1147 (by decide) ?_
    refine x_lald (pc := 1148) (o := 210) C dL_law_1148 (hI2 210 rfl) ⟨rfl, rfl⟩ ?_
    refine x_iload (pc := 1149) C dL_law_1149 rfl ?_
    refine x_i2l (pc := 1151) C dL_law_1151 ?_
    refine x_lcmp (pc := 1152) C dL_law_1152 ?_
    refine x_if_eq (pc := 1153) (tgt := 1158) C dL_law_1153 (by decide) (fun _ => ?_) (fun hne => absurd ((lg_cmp_eq _ _).mpr (hw k0)) hne)
    refine x_goto (pc := 1158) (tgt := 1692) C dL_law_1158 (by decide) ?_
    refine x_fgt 5 ?_
    refine x_fgt 6 ?_
    exact x_wid (by omega) (by omega) (K _ _ _ _ hInv)
set_option maxRecDepth 100000 in
set_option maxHeartbeats 4000000 in
theorem w_count (C : OK E RL cL_law 9 (some .boolean) 11 MC MS) (hsc : Sc E bq len xs) {i : Nat} (hi : i + 7 ≤ len) (hlen : len ≤ 3584) (h : Inv V N I) (hr : a + 16 ≤ MC ∧ b + 300 ≤ MS) (K : ∀ V' L' N' I', Inv V' N' I' → Wx E 1692 (LLs bq i) [] V' L' N' I' (a + 16) (b + 300)) : Wx E 1161 (LLs bq i) [] V L N I a b := by
  obtain ⟨n, o, m, l0, hX⟩ := h
  have hI := hX.2.2.1.1.1
  obtain ⟨P, hR, hSP⟩ := s_count (l := eL E) (L := L) hX (xs (i + 1))
  refine x_aload_n (pc := 1161) C dL_law_1161 rfl ?_
  refine x_aload_nq (pc := 1162) C dL_law_1162 rfl ?_
  refine x_iload (pc := 1163) C dL_law_1163 rfl ?_
  refine x_iconst (pc := 1165) C (nI 1) dL_law_1165 (by decide) ?_
  refine x_iadd (pc := 1166) C dL_law_1166 ?_
  refine x_topi (nI (i + 1)) (nI_add i 1) ?_
  refine x_sld (pc := 1167) C hsc dL_law_1167 (show i + 1 < len by omega) hlen ?_
  refine x_aload_n (pc := 1168) C dL_law_1168 rfl ?_
  refine x_callSX (pc := 1169) (st := []) (As := [aR 0, aI (xs (i + 1)), aR 210]) C x_L_154 dL_law_1169 (c_L_count hI (xs (i + 1)) hR (sp_h1 hSP)) rfl (by decide) (okB_s rfl) (by decide) ⟨by omega, by omega⟩ (fun X V2 L2 N2 I2 hq => (lwp_no hq).elim) (fun r V2 L2 N2 I2 hq => ?_)
  obtain ⟨hIN, k, w, hk3, rfl, hw, hM⟩ := lwp_c hSP hq
  obtain ⟨Q, hRM, hQ⟩ := hM L2
  have hI2 := hIN.1
  refine y_istore (pc := 1172) C dL_law_1172 (by decide) rfl ?_
  refine x_aload_n (pc := 1174) C dL_law_1174 rfl ?_
  refine x_aload_nq (pc := 1175) C dL_law_1175 rfl ?_
  refine x_iload (pc := 1176) C dL_law_1176 rfl ?_
  refine x_iconst (pc := 1178) C (nI 1) dL_law_1178 (by decide) ?_
  refine x_iadd (pc := 1179) C dL_law_1179 ?_
  refine x_topi (nI (i + 1)) (nI_add i 1) ?_
  refine x_sld (pc := 1180) C hsc dL_law_1180 (show i + 1 < len by omega) hlen ?_
  refine x_pV1 (pc := 1181) (o := 200) C v_L_156 dL_law_1181 hRM (hI2 200 rfl) rfl (by decide) rfl ⟨by omega, by omega⟩ (fun V3 hq3 => ?_)
  obtain ⟨ht, hInv⟩ := hQ V3 hq3
  refine y_istore (pc := 1184) C dL_law_1184 (by decide) rfl ?_
  refine x_aload_n (pc := 1186) C dL_law_1186 rfl ?_
  refine x_cV0 (pc := 1187) (o := 200) C v_L_95 dL_law_1187 (c_X7_thrown hI2) (hI2 200 rfl) rfl (by decide) rfl ⟨by omega, by omega⟩ ?_
  refine x_iload (pc := 1190) C dL_law_1190 rfl ?_
  refine x_icmp_eq (pc := 1192) (tgt := 1197) C dL_law_1192 (by decide) (fun _ => ?_) (fun hne => absurd ht hne)
  refine x_iload (pc := 1197) C dL_law_1197 rfl ?_
  refine x_if_ne (pc := 1199) (tgt := 1214) C dL_law_1199 (by decide) (fun _ => ?_) (fun hk0 => ?_)
  · refine x_goto (pc := 1214) (tgt := 1692) C dL_law_1214 (by decide) ?_
    refine x_fgt 5 ?_
    refine x_fgt 6 ?_
    exact x_wid (by omega) (by omega) (K _ _ _ _ hInv)
  · have k0 : k = 0 := (nI_eq (b := 0) (by omega) (by decide)).mp hk0
    refine x_aload_n (pc := 1202) C dL_law_1202 rfl ?_
    refine x_iconst (pc := 1203) C (0) dL_law_1203 (by decide) ?_
    refine x_lald (pc := 1204) (o := 210) C dL_law_1204 (hI2 210 rfl) ⟨rfl, rfl⟩ ?_
    refine x_iload (pc := 1205) C dL_law_1205 rfl ?_
    refine x_i2l (pc := 1207) C dL_law_1207 ?_
    refine x_lcmp (pc := 1208) C dL_law_1208 ?_
    refine x_if_eq (pc := 1209) (tgt := 1214) C dL_law_1209 (by decide) (fun _ => ?_) (fun hne => absurd ((lg_cmp_eq _ _).mpr (hw k0)) hne)
    refine x_goto (pc := 1214) (tgt := 1692) C dL_law_1214 (by decide) ?_
    refine x_fgt 5 ?_
    refine x_fgt 6 ?_
    exact x_wid (by omega) (by omega) (K _ _ _ _ hInv)
set_option maxRecDepth 100000 in
set_option maxHeartbeats 4000000 in
theorem w_setting (C : OK E RL cL_law 9 (some .boolean) 11 MC MS) (hsc : Sc E bq len xs) {i : Nat} (hi : i + 7 ≤ len) (hlen : len ≤ 3584) (h : Inv V N I) (hr : a + 16 ≤ MC ∧ b + 300 ≤ MS) (K : ∀ V' L' N' I', Inv V' N' I' → Wx E 1692 (LLs bq i) [] V' L' N' I' (a + 16) (b + 300)) : Wx E 1217 (LLs bq i) [] V L N I a b := by
  obtain ⟨n, o, m, l0, hX⟩ := h
  have hI := hX.2.2.1.1.1
  obtain ⟨P, hR, hSP⟩ := s_setting (l := eL E) (L := L) hX (xs (i + 1))
  refine x_aload_n (pc := 1217) C dL_law_1217 rfl ?_
  refine x_aload_nq (pc := 1218) C dL_law_1218 rfl ?_
  refine x_iload (pc := 1219) C dL_law_1219 rfl ?_
  refine x_iconst (pc := 1221) C (nI 1) dL_law_1221 (by decide) ?_
  refine x_iadd (pc := 1222) C dL_law_1222 ?_
  refine x_topi (nI (i + 1)) (nI_add i 1) ?_
  refine x_sld (pc := 1223) C hsc dL_law_1223 (show i + 1 < len by omega) hlen ?_
  refine x_aload_n (pc := 1224) C dL_law_1224 rfl ?_
  refine x_callSX (pc := 1225) (st := []) (As := [aR 0, aI (xs (i + 1)), aR 210]) C x_L_157 dL_law_1225 (c_L_setting hI (xs (i + 1)) hR (sp_h1 hSP)) rfl (by decide) (okB_s rfl) (by decide) ⟨by omega, by omega⟩ (fun X V2 L2 N2 I2 hq => (lwp_no hq).elim) (fun r V2 L2 N2 I2 hq => ?_)
  obtain ⟨hIN, k, w, hk3, rfl, hw, hM⟩ := lwp_c hSP hq
  obtain ⟨Q, hRM, hQ⟩ := hM L2
  have hI2 := hIN.1
  refine y_istore (pc := 1228) C dL_law_1228 (by decide) rfl ?_
  refine x_aload_n (pc := 1230) C dL_law_1230 rfl ?_
  refine x_aload_nq (pc := 1231) C dL_law_1231 rfl ?_
  refine x_iload (pc := 1232) C dL_law_1232 rfl ?_
  refine x_iconst (pc := 1234) C (nI 1) dL_law_1234 (by decide) ?_
  refine x_iadd (pc := 1235) C dL_law_1235 ?_
  refine x_topi (nI (i + 1)) (nI_add i 1) ?_
  refine x_sld (pc := 1236) C hsc dL_law_1236 (show i + 1 < len by omega) hlen ?_
  refine x_pV1 (pc := 1237) (o := 200) C v_L_159 dL_law_1237 hRM (hI2 200 rfl) rfl (by decide) rfl ⟨by omega, by omega⟩ (fun V3 hq3 => ?_)
  obtain ⟨ht, hInv⟩ := hQ V3 hq3
  refine y_istore (pc := 1240) C dL_law_1240 (by decide) rfl ?_
  refine x_aload_n (pc := 1242) C dL_law_1242 rfl ?_
  refine x_cV0 (pc := 1243) (o := 200) C v_L_95 dL_law_1243 (c_X7_thrown hI2) (hI2 200 rfl) rfl (by decide) rfl ⟨by omega, by omega⟩ ?_
  refine x_iload (pc := 1246) C dL_law_1246 rfl ?_
  refine x_icmp_eq (pc := 1248) (tgt := 1253) C dL_law_1248 (by decide) (fun _ => ?_) (fun hne => absurd ht hne)
  refine x_iload (pc := 1253) C dL_law_1253 rfl ?_
  refine x_if_ne (pc := 1255) (tgt := 1270) C dL_law_1255 (by decide) (fun _ => ?_) (fun hk0 => ?_)
  · refine x_goto (pc := 1270) (tgt := 1692) C dL_law_1270 (by decide) ?_
    refine x_fgt 5 ?_
    refine x_fgt 6 ?_
    exact x_wid (by omega) (by omega) (K _ _ _ _ hInv)
  · have k0 : k = 0 := (nI_eq (b := 0) (by omega) (by decide)).mp hk0
    refine x_aload_n (pc := 1258) C dL_law_1258 rfl ?_
    refine x_iconst (pc := 1259) C (0) dL_law_1259 (by decide) ?_
    refine x_lald (pc := 1260) (o := 210) C dL_law_1260 (hI2 210 rfl) ⟨rfl, rfl⟩ ?_
    refine x_iload (pc := 1261) C dL_law_1261 rfl ?_
    refine x_i2l (pc := 1263) C dL_law_1263 ?_
    refine x_lcmp (pc := 1264) C dL_law_1264 ?_
    refine x_if_eq (pc := 1265) (tgt := 1270) C dL_law_1265 (by decide) (fun _ => ?_) (fun hne => absurd ((lg_cmp_eq _ _).mpr (hw k0)) hne)
    refine x_goto (pc := 1270) (tgt := 1692) C dL_law_1270 (by decide) ?_
    refine x_fgt 5 ?_
    refine x_fgt 6 ?_
    exact x_wid (by omega) (by omega) (K _ _ _ _ hInv)
set_option maxRecDepth 100000 in
set_option maxHeartbeats 4000000 in
theorem w_why (C : OK E RL cL_law 9 (some .boolean) 11 MC MS) (hsc : Sc E bq len xs) {i : Nat} (hi : i + 7 ≤ len) (hlen : len ≤ 3584) (h : Inv V N I) (hr : a + 16 ≤ MC ∧ b + 300 ≤ MS) (K : ∀ V' L' N' I', Inv V' N' I' → Wx E 1692 (LLs bq i) [] V' L' N' I' (a + 16) (b + 300)) : Wx E 1273 (LLs bq i) [] V L N I a b := by
  obtain ⟨n, o, m, l0, hX⟩ := h
  have hI := hX.2.2.1.1.1
  obtain ⟨P, hR, hSP⟩ := s_why (l := eL E) (L := L) hX (xs (i + 1)) (xs (i + 2)) (xs (i + 3)) (xs (i + 4))
  refine x_aload_n (pc := 1273) C dL_law_1273 rfl ?_
  refine x_aload_nq (pc := 1274) C dL_law_1274 rfl ?_
  refine x_iload (pc := 1275) C dL_law_1275 rfl ?_
  refine x_iconst (pc := 1277) C (nI 1) dL_law_1277 (by decide) ?_
  refine x_iadd (pc := 1278) C dL_law_1278 ?_
  refine x_topi (nI (i + 1)) (nI_add i 1) ?_
  refine x_sld (pc := 1279) C hsc dL_law_1279 (show i + 1 < len by omega) hlen ?_
  refine x_aload_nq (pc := 1280) C dL_law_1280 rfl ?_
  refine x_iload (pc := 1281) C dL_law_1281 rfl ?_
  refine x_iconst (pc := 1283) C (nI 2) dL_law_1283 (by decide) ?_
  refine x_iadd (pc := 1284) C dL_law_1284 ?_
  refine x_topi (nI (i + 2)) (nI_add i 2) ?_
  refine x_sld (pc := 1285) C hsc dL_law_1285 (show i + 2 < len by omega) hlen ?_
  refine x_aload_nq (pc := 1286) C dL_law_1286 rfl ?_
  refine x_iload (pc := 1287) C dL_law_1287 rfl ?_
  refine x_iconst (pc := 1289) C (nI 3) dL_law_1289 (by decide) ?_
  refine x_iadd (pc := 1290) C dL_law_1290 ?_
  refine x_topi (nI (i + 3)) (nI_add i 3) ?_
  refine x_sld (pc := 1291) C hsc dL_law_1291 (show i + 3 < len by omega) hlen ?_
  refine x_aload_nq (pc := 1292) C dL_law_1292 rfl ?_
  refine x_iload (pc := 1293) C dL_law_1293 rfl ?_
  refine x_iconst (pc := 1295) C (nI 4) dL_law_1295 (by decide) ?_
  refine x_iadd (pc := 1296) C dL_law_1296 ?_
  refine x_topi (nI (i + 4)) (nI_add i 4) ?_
  refine x_sld (pc := 1297) C hsc dL_law_1297 (show i + 4 < len by omega) hlen ?_
  refine x_aload_n (pc := 1298) C dL_law_1298 rfl ?_
  refine x_callSX (pc := 1299) (st := []) (As := [aR 0, aI (xs (i + 1)), aI (xs (i + 2)), aI (xs (i + 3)), aI (xs (i + 4)), aR 210]) C x_L_160 dL_law_1299 (c_L_why hI (xs (i + 1)) (xs (i + 2)) (xs (i + 3)) (xs (i + 4)) hR (sp_h1 hSP)) rfl (by decide) (okB_s rfl) (by decide) ⟨by omega, by omega⟩ (fun X V2 L2 N2 I2 hq => (lwp_no hq).elim) (fun r V2 L2 N2 I2 hq => ?_)
  obtain ⟨hIN, k, w, hk3, rfl, hw, hM⟩ := lwp_c hSP hq
  obtain ⟨Q, hRM, hQ⟩ := hM L2
  have hI2 := hIN.1
  refine y_istore (pc := 1302) C dL_law_1302 (by decide) rfl ?_
  refine x_aload_n (pc := 1304) C dL_law_1304 rfl ?_
  refine x_aload_nq (pc := 1305) C dL_law_1305 rfl ?_
  refine x_iload (pc := 1306) C dL_law_1306 rfl ?_
  refine x_iconst (pc := 1308) C (nI 1) dL_law_1308 (by decide) ?_
  refine x_iadd (pc := 1309) C dL_law_1309 ?_
  refine x_topi (nI (i + 1)) (nI_add i 1) ?_
  refine x_sld (pc := 1310) C hsc dL_law_1310 (show i + 1 < len by omega) hlen ?_
  refine x_aload_nq (pc := 1311) C dL_law_1311 rfl ?_
  refine x_iload (pc := 1312) C dL_law_1312 rfl ?_
  refine x_iconst (pc := 1314) C (nI 2) dL_law_1314 (by decide) ?_
  refine x_iadd (pc := 1315) C dL_law_1315 ?_
  refine x_topi (nI (i + 2)) (nI_add i 2) ?_
  refine x_sld (pc := 1316) C hsc dL_law_1316 (show i + 2 < len by omega) hlen ?_
  refine x_aload_nq (pc := 1317) C dL_law_1317 rfl ?_
  refine x_iload (pc := 1318) C dL_law_1318 rfl ?_
  refine x_iconst (pc := 1320) C (nI 3) dL_law_1320 (by decide) ?_
  refine x_iadd (pc := 1321) C dL_law_1321 ?_
  refine x_topi (nI (i + 3)) (nI_add i 3) ?_
  refine x_sld (pc := 1322) C hsc dL_law_1322 (show i + 3 < len by omega) hlen ?_
  refine x_aload_nq (pc := 1323) C dL_law_1323 rfl ?_
  refine x_iload (pc := 1324) C dL_law_1324 rfl ?_
  refine x_iconst (pc := 1326) C (nI 4) dL_law_1326 (by decide) ?_
  refine x_iadd (pc := 1327) C dL_law_1327 ?_
  refine x_topi (nI (i + 4)) (nI_add i 4) ?_
  refine x_sld (pc := 1328) C hsc dL_law_1328 (show i + 4 < len by omega) hlen ?_
  refine x_pV4 (pc := 1329) (o := 200) C v_L_163 dL_law_1329 hRM (hI2 200 rfl) rfl (by decide) rfl ⟨by omega, by omega⟩ (fun V3 hq3 => ?_)
  obtain ⟨ht, hInv⟩ := hQ V3 hq3
  refine y_istore (pc := 1332) C dL_law_1332 (by decide) rfl ?_
  refine x_aload_n (pc := 1334) C dL_law_1334 rfl ?_
  refine x_cV0 (pc := 1335) (o := 200) C v_L_95 dL_law_1335 (c_X7_thrown hI2) (hI2 200 rfl) rfl (by decide) rfl ⟨by omega, by omega⟩ ?_
  refine x_iload (pc := 1338) C dL_law_1338 rfl ?_
  refine x_icmp_eq (pc := 1340) (tgt := 1345) C dL_law_1340 (by decide) (fun _ => ?_) (fun hne => absurd ht hne)
  refine x_iload (pc := 1345) C dL_law_1345 rfl ?_
  refine x_if_ne (pc := 1347) (tgt := 1362) C dL_law_1347 (by decide) (fun _ => ?_) (fun hk0 => ?_)
  · refine x_goto (pc := 1362) (tgt := 1692) C dL_law_1362 (by decide) ?_
    refine x_fgt 5 ?_
    refine x_fgt 6 ?_
    exact x_wid (by omega) (by omega) (K _ _ _ _ hInv)
  · have k0 : k = 0 := (nI_eq (b := 0) (by omega) (by decide)).mp hk0
    refine x_aload_n (pc := 1350) C dL_law_1350 rfl ?_
    refine x_iconst (pc := 1351) C (0) dL_law_1351 (by decide) ?_
    refine x_lald (pc := 1352) (o := 210) C dL_law_1352 (hI2 210 rfl) ⟨rfl, rfl⟩ ?_
    refine x_iload (pc := 1353) C dL_law_1353 rfl ?_
    refine x_i2l (pc := 1355) C dL_law_1355 ?_
    refine x_lcmp (pc := 1356) C dL_law_1356 ?_
    refine x_if_eq (pc := 1357) (tgt := 1362) C dL_law_1357 (by decide) (fun _ => ?_) (fun hne => absurd ((lg_cmp_eq _ _).mpr (hw k0)) hne)
    refine x_goto (pc := 1362) (tgt := 1692) C dL_law_1362 (by decide) ?_
    refine x_fgt 5 ?_
    refine x_fgt 6 ?_
    exact x_wid (by omega) (by omega) (K _ _ _ _ hInv)
set_option maxRecDepth 100000 in
set_option maxHeartbeats 4000000 in
theorem w_firstTime (C : OK E RL cL_law 9 (some .boolean) 11 MC MS) (hsc : Sc E bq len xs) {i : Nat} (hi : i + 7 ≤ len) (hlen : len ≤ 3584) (h : Inv V N I) (hr : a + 16 ≤ MC ∧ b + 300 ≤ MS) (K : ∀ V' L' N' I', Inv V' N' I' → Wx E 1692 (LLs bq i) [] V' L' N' I' (a + 16) (b + 300)) : Wx E 1365 (LLs bq i) [] V L N I a b := by
  obtain ⟨n, o, m, l0, hX⟩ := h
  have hI := hX.2.2.1.1.1
  obtain ⟨P, hR, hSP⟩ := s_firstTime (l := eL E) (L := L) hX (xs (i + 1)) (xs (i + 2)) (xs (i + 3))
  refine x_aload_n (pc := 1365) C dL_law_1365 rfl ?_
  refine x_aload_nq (pc := 1366) C dL_law_1366 rfl ?_
  refine x_iload (pc := 1367) C dL_law_1367 rfl ?_
  refine x_iconst (pc := 1369) C (nI 1) dL_law_1369 (by decide) ?_
  refine x_iadd (pc := 1370) C dL_law_1370 ?_
  refine x_topi (nI (i + 1)) (nI_add i 1) ?_
  refine x_sld (pc := 1371) C hsc dL_law_1371 (show i + 1 < len by omega) hlen ?_
  refine x_aload_nq (pc := 1372) C dL_law_1372 rfl ?_
  refine x_iload (pc := 1373) C dL_law_1373 rfl ?_
  refine x_iconst (pc := 1375) C (nI 2) dL_law_1375 (by decide) ?_
  refine x_iadd (pc := 1376) C dL_law_1376 ?_
  refine x_topi (nI (i + 2)) (nI_add i 2) ?_
  refine x_sld (pc := 1377) C hsc dL_law_1377 (show i + 2 < len by omega) hlen ?_
  refine x_aload_nq (pc := 1378) C dL_law_1378 rfl ?_
  refine x_iload (pc := 1379) C dL_law_1379 rfl ?_
  refine x_iconst (pc := 1381) C (nI 3) dL_law_1381 (by decide) ?_
  refine x_iadd (pc := 1382) C dL_law_1382 ?_
  refine x_topi (nI (i + 3)) (nI_add i 3) ?_
  refine x_sld (pc := 1383) C hsc dL_law_1383 (show i + 3 < len by omega) hlen ?_
  refine x_aload_n (pc := 1384) C dL_law_1384 rfl ?_
  refine x_callSX (pc := 1385) (st := []) (As := [aR 0, aI (xs (i + 1)), aI (xs (i + 2)), aI (xs (i + 3)), aR 210]) C x_L_164 dL_law_1385 (c_L_firstTime hI (xs (i + 1)) (xs (i + 2)) (xs (i + 3)) hR (sp_h1 hSP)) rfl (by decide) (okB_s rfl) (by decide) ⟨by omega, by omega⟩ (fun X V2 L2 N2 I2 hq => (lwp_no hq).elim) (fun r V2 L2 N2 I2 hq => ?_)
  obtain ⟨hIN, k, w, hk3, rfl, hw, hM⟩ := lwp_c hSP hq
  obtain ⟨Q, hRM, hQ⟩ := hM L2
  have hI2 := hIN.1
  refine y_istore (pc := 1388) C dL_law_1388 (by decide) rfl ?_
  refine x_aload_n (pc := 1390) C dL_law_1390 rfl ?_
  refine x_aload_nq (pc := 1391) C dL_law_1391 rfl ?_
  refine x_iload (pc := 1392) C dL_law_1392 rfl ?_
  refine x_iconst (pc := 1394) C (nI 1) dL_law_1394 (by decide) ?_
  refine x_iadd (pc := 1395) C dL_law_1395 ?_
  refine x_topi (nI (i + 1)) (nI_add i 1) ?_
  refine x_sld (pc := 1396) C hsc dL_law_1396 (show i + 1 < len by omega) hlen ?_
  refine x_aload_nq (pc := 1397) C dL_law_1397 rfl ?_
  refine x_iload (pc := 1398) C dL_law_1398 rfl ?_
  refine x_iconst (pc := 1400) C (nI 2) dL_law_1400 (by decide) ?_
  refine x_iadd (pc := 1401) C dL_law_1401 ?_
  refine x_topi (nI (i + 2)) (nI_add i 2) ?_
  refine x_sld (pc := 1402) C hsc dL_law_1402 (show i + 2 < len by omega) hlen ?_
  refine x_aload_nq (pc := 1403) C dL_law_1403 rfl ?_
  refine x_iload (pc := 1404) C dL_law_1404 rfl ?_
  refine x_iconst (pc := 1406) C (nI 3) dL_law_1406 (by decide) ?_
  refine x_iadd (pc := 1407) C dL_law_1407 ?_
  refine x_topi (nI (i + 3)) (nI_add i 3) ?_
  refine x_sld (pc := 1408) C hsc dL_law_1408 (show i + 3 < len by omega) hlen ?_
  refine x_pV3 (pc := 1409) (o := 200) C v_L_166 dL_law_1409 hRM (hI2 200 rfl) rfl (by decide) rfl ⟨by omega, by omega⟩ (fun V3 hq3 => ?_)
  obtain ⟨ht, hInv⟩ := hQ V3 hq3
  refine y_istore (pc := 1412) C dL_law_1412 (by decide) rfl ?_
  refine x_aload_n (pc := 1414) C dL_law_1414 rfl ?_
  refine x_cV0 (pc := 1415) (o := 200) C v_L_95 dL_law_1415 (c_X7_thrown hI2) (hI2 200 rfl) rfl (by decide) rfl ⟨by omega, by omega⟩ ?_
  refine x_iload (pc := 1418) C dL_law_1418 rfl ?_
  refine x_icmp_eq (pc := 1420) (tgt := 1425) C dL_law_1420 (by decide) (fun _ => ?_) (fun hne => absurd ht hne)
  refine x_iload (pc := 1425) C dL_law_1425 rfl ?_
  refine x_if_ne (pc := 1427) (tgt := 1442) C dL_law_1427 (by decide) (fun _ => ?_) (fun hk0 => ?_)
  · refine x_goto (pc := 1442) (tgt := 1692) C dL_law_1442 (by decide) ?_
    refine x_fgt 5 ?_
    refine x_fgt 6 ?_
    exact x_wid (by omega) (by omega) (K _ _ _ _ hInv)
  · have k0 : k = 0 := (nI_eq (b := 0) (by omega) (by decide)).mp hk0
    refine x_aload_n (pc := 1430) C dL_law_1430 rfl ?_
    refine x_iconst (pc := 1431) C (0) dL_law_1431 (by decide) ?_
    refine x_lald (pc := 1432) (o := 210) C dL_law_1432 (hI2 210 rfl) ⟨rfl, rfl⟩ ?_
    refine x_iload (pc := 1433) C dL_law_1433 rfl ?_
    refine x_i2l (pc := 1435) C dL_law_1435 ?_
    refine x_lcmp (pc := 1436) C dL_law_1436 ?_
    refine x_if_eq (pc := 1437) (tgt := 1442) C dL_law_1437 (by decide) (fun _ => ?_) (fun hne => absurd ((lg_cmp_eq _ _).mpr (hw k0)) hne)
    refine x_goto (pc := 1442) (tgt := 1692) C dL_law_1442 (by decide) ?_
    refine x_fgt 5 ?_
    refine x_fgt 6 ?_
    exact x_wid (by omega) (by omega) (K _ _ _ _ hInv)
set_option maxRecDepth 100000 in
set_option maxHeartbeats 4000000 in
theorem w_firstRepeat (C : OK E RL cL_law 9 (some .boolean) 11 MC MS) (hsc : Sc E bq len xs) {i : Nat} (hi : i + 7 ≤ len) (hlen : len ≤ 3584) (h : Inv V N I) (hr : a + 16 ≤ MC ∧ b + 300 ≤ MS) (K : ∀ V' L' N' I', Inv V' N' I' → Wx E 1692 (LLs bq i) [] V' L' N' I' (a + 16) (b + 300)) : Wx E 1445 (LLs bq i) [] V L N I a b := by
  obtain ⟨n, o, m, l0, hX⟩ := h
  have hI := hX.2.2.1.1.1
  obtain ⟨P, hR, hSP⟩ := s_firstRepeat (l := eL E) (L := L) hX (xs (i + 1))
  refine x_aload_n (pc := 1445) C dL_law_1445 rfl ?_
  refine x_aload_nq (pc := 1446) C dL_law_1446 rfl ?_
  refine x_iload (pc := 1447) C dL_law_1447 rfl ?_
  refine x_iconst (pc := 1449) C (nI 1) dL_law_1449 (by decide) ?_
  refine x_iadd (pc := 1450) C dL_law_1450 ?_
  refine x_topi (nI (i + 1)) (nI_add i 1) ?_
  refine x_sld (pc := 1451) C hsc dL_law_1451 (show i + 1 < len by omega) hlen ?_
  refine x_aload_n (pc := 1452) C dL_law_1452 rfl ?_
  refine x_callSX (pc := 1453) (st := []) (As := [aR 0, aI (xs (i + 1)), aR 210]) C x_L_167 dL_law_1453 (c_L_firstRepeat hI (xs (i + 1)) hR (sp_h1 hSP)) rfl (by decide) (okB_s rfl) (by decide) ⟨by omega, by omega⟩ (fun X V2 L2 N2 I2 hq => (lwp_no hq).elim) (fun r V2 L2 N2 I2 hq => ?_)
  obtain ⟨hIN, k, w, hk3, rfl, hw, hM⟩ := lwp_c hSP hq
  obtain ⟨Q, hRM, hQ⟩ := hM L2
  have hI2 := hIN.1
  refine y_istore (pc := 1456) C dL_law_1456 (by decide) rfl ?_
  refine x_aload_n (pc := 1458) C dL_law_1458 rfl ?_
  refine x_aload_nq (pc := 1459) C dL_law_1459 rfl ?_
  refine x_iload (pc := 1460) C dL_law_1460 rfl ?_
  refine x_iconst (pc := 1462) C (nI 1) dL_law_1462 (by decide) ?_
  refine x_iadd (pc := 1463) C dL_law_1463 ?_
  refine x_topi (nI (i + 1)) (nI_add i 1) ?_
  refine x_sld (pc := 1464) C hsc dL_law_1464 (show i + 1 < len by omega) hlen ?_
  refine x_pV1 (pc := 1465) (o := 200) C v_L_169 dL_law_1465 hRM (hI2 200 rfl) rfl (by decide) rfl ⟨by omega, by omega⟩ (fun V3 hq3 => ?_)
  obtain ⟨ht, hInv⟩ := hQ V3 hq3
  refine y_istore (pc := 1468) C dL_law_1468 (by decide) rfl ?_
  refine x_aload_n (pc := 1470) C dL_law_1470 rfl ?_
  refine x_cV0 (pc := 1471) (o := 200) C v_L_95 dL_law_1471 (c_X7_thrown hI2) (hI2 200 rfl) rfl (by decide) rfl ⟨by omega, by omega⟩ ?_
  refine x_iload (pc := 1474) C dL_law_1474 rfl ?_
  refine x_icmp_eq (pc := 1476) (tgt := 1481) C dL_law_1476 (by decide) (fun _ => ?_) (fun hne => absurd ht hne)
  refine x_iload (pc := 1481) C dL_law_1481 rfl ?_
  refine x_if_ne (pc := 1483) (tgt := 1498) C dL_law_1483 (by decide) (fun _ => ?_) (fun hk0 => ?_)
  · refine x_goto (pc := 1498) (tgt := 1692) C dL_law_1498 (by decide) ?_
    refine x_fgt 5 ?_
    refine x_fgt 6 ?_
    exact x_wid (by omega) (by omega) (K _ _ _ _ hInv)
  · have k0 : k = 0 := (nI_eq (b := 0) (by omega) (by decide)).mp hk0
    refine x_aload_n (pc := 1486) C dL_law_1486 rfl ?_
    refine x_iconst (pc := 1487) C (0) dL_law_1487 (by decide) ?_
    refine x_lald (pc := 1488) (o := 210) C dL_law_1488 (hI2 210 rfl) ⟨rfl, rfl⟩ ?_
    refine x_iload (pc := 1489) C dL_law_1489 rfl ?_
    refine x_i2l (pc := 1491) C dL_law_1491 ?_
    refine x_lcmp (pc := 1492) C dL_law_1492 ?_
    refine x_if_eq (pc := 1493) (tgt := 1498) C dL_law_1493 (by decide) (fun _ => ?_) (fun hne => absurd ((lg_cmp_eq _ _).mpr (hw k0)) hne)
    refine x_goto (pc := 1498) (tgt := 1692) C dL_law_1498 (by decide) ?_
    refine x_fgt 5 ?_
    refine x_fgt 6 ?_
    exact x_wid (by omega) (by omega) (K _ _ _ _ hInv)
set_option maxRecDepth 100000 in
set_option maxHeartbeats 4000000 in
theorem w_ifOverrun (C : OK E RL cL_law 9 (some .boolean) 11 MC MS) (hsc : Sc E bq len xs) {i : Nat} (hi : i + 7 ≤ len) (hlen : len ≤ 3584) (h : Inv V N I) (hr : a + 16 ≤ MC ∧ b + 300 ≤ MS) (K : ∀ V' L' N' I', Inv V' N' I' → Wx E 1692 (LLs bq i) [] V' L' N' I' (a + 16) (b + 300)) : Wx E 1501 (LLs bq i) [] V L N I a b := by
  obtain ⟨n, o, m, l0, hX⟩ := h
  have hI := hX.2.2.1.1.1
  obtain ⟨P, hR, hSP⟩ := s_ifOverrun (l := eL E) (L := L) hX (xs (i + 1)) (xs (i + 2)) (xs (i + 3))
  refine x_aload_n (pc := 1501) C dL_law_1501 rfl ?_
  refine x_aload_nq (pc := 1502) C dL_law_1502 rfl ?_
  refine x_iload (pc := 1503) C dL_law_1503 rfl ?_
  refine x_iconst (pc := 1505) C (nI 1) dL_law_1505 (by decide) ?_
  refine x_iadd (pc := 1506) C dL_law_1506 ?_
  refine x_topi (nI (i + 1)) (nI_add i 1) ?_
  refine x_sld (pc := 1507) C hsc dL_law_1507 (show i + 1 < len by omega) hlen ?_
  refine x_aload_nq (pc := 1508) C dL_law_1508 rfl ?_
  refine x_iload (pc := 1509) C dL_law_1509 rfl ?_
  refine x_iconst (pc := 1511) C (nI 2) dL_law_1511 (by decide) ?_
  refine x_iadd (pc := 1512) C dL_law_1512 ?_
  refine x_topi (nI (i + 2)) (nI_add i 2) ?_
  refine x_sld (pc := 1513) C hsc dL_law_1513 (show i + 2 < len by omega) hlen ?_
  refine x_aload_nq (pc := 1514) C dL_law_1514 rfl ?_
  refine x_iload (pc := 1515) C dL_law_1515 rfl ?_
  refine x_iconst (pc := 1517) C (nI 3) dL_law_1517 (by decide) ?_
  refine x_iadd (pc := 1518) C dL_law_1518 ?_
  refine x_topi (nI (i + 3)) (nI_add i 3) ?_
  refine x_sld (pc := 1519) C hsc dL_law_1519 (show i + 3 < len by omega) hlen ?_
  refine x_aload_n (pc := 1520) C dL_law_1520 rfl ?_
  refine x_callSX (pc := 1521) (st := []) (As := [aR 0, aI (xs (i + 1)), aI (xs (i + 2)), aI (xs (i + 3)), aR 210]) C x_L_170 dL_law_1521 (c_L_ifOverrun hI (xs (i + 1)) (xs (i + 2)) (xs (i + 3)) hR (sp_h3 hSP)) rfl (by decide) (okB_s rfl) (by decide) ⟨by omega, by omega⟩ (fun X V2 L2 N2 I2 hq => (lwp_no hq).elim) (fun r V2 L2 N2 I2 hq => ?_)
  obtain ⟨hIN, k, w, hk3, rfl, hw, hM⟩ := lwp_c hSP hq
  obtain ⟨Q, hRM, hQ⟩ := hM L2
  have hI2 := hIN.1
  refine y_istore (pc := 1524) C dL_law_1524 (by decide) rfl ?_
  refine x_aload_n (pc := 1526) C dL_law_1526 rfl ?_
  refine x_aload_nq (pc := 1527) C dL_law_1527 rfl ?_
  refine x_iload (pc := 1528) C dL_law_1528 rfl ?_
  refine x_iconst (pc := 1530) C (nI 1) dL_law_1530 (by decide) ?_
  refine x_iadd (pc := 1531) C dL_law_1531 ?_
  refine x_topi (nI (i + 1)) (nI_add i 1) ?_
  refine x_sld (pc := 1532) C hsc dL_law_1532 (show i + 1 < len by omega) hlen ?_
  refine x_aload_nq (pc := 1533) C dL_law_1533 rfl ?_
  refine x_iload (pc := 1534) C dL_law_1534 rfl ?_
  refine x_iconst (pc := 1536) C (nI 2) dL_law_1536 (by decide) ?_
  refine x_iadd (pc := 1537) C dL_law_1537 ?_
  refine x_topi (nI (i + 2)) (nI_add i 2) ?_
  refine x_sld (pc := 1538) C hsc dL_law_1538 (show i + 2 < len by omega) hlen ?_
  refine x_aload_nq (pc := 1539) C dL_law_1539 rfl ?_
  refine x_iload (pc := 1540) C dL_law_1540 rfl ?_
  refine x_iconst (pc := 1542) C (nI 3) dL_law_1542 (by decide) ?_
  refine x_iadd (pc := 1543) C dL_law_1543 ?_
  refine x_topi (nI (i + 3)) (nI_add i 3) ?_
  refine x_sld (pc := 1544) C hsc dL_law_1544 (show i + 3 < len by omega) hlen ?_
  refine x_pV3 (pc := 1545) (o := 200) C v_L_172 dL_law_1545 hRM (hI2 200 rfl) rfl (by decide) rfl ⟨by omega, by omega⟩ (fun V3 hq3 => ?_)
  obtain ⟨ht, hInv⟩ := hQ V3 hq3
  refine y_istore (pc := 1548) C dL_law_1548 (by decide) rfl ?_
  refine x_aload_n (pc := 1550) C dL_law_1550 rfl ?_
  refine x_cV0 (pc := 1551) (o := 200) C v_L_95 dL_law_1551 (c_X7_thrown hI2) (hI2 200 rfl) rfl (by decide) rfl ⟨by omega, by omega⟩ ?_
  refine x_iload (pc := 1554) C dL_law_1554 rfl ?_
  refine x_icmp_eq (pc := 1556) (tgt := 1561) C dL_law_1556 (by decide) (fun _ => ?_) (fun hne => absurd ht hne)
  refine x_iload (pc := 1561) C dL_law_1561 rfl ?_
  refine x_if_ne (pc := 1563) (tgt := 1578) C dL_law_1563 (by decide) (fun _ => ?_) (fun hk0 => ?_)
  · refine x_goto (pc := 1578) (tgt := 1692) C dL_law_1578 (by decide) ?_
    refine x_fgt 5 ?_
    refine x_fgt 6 ?_
    exact x_wid (by omega) (by omega) (K _ _ _ _ hInv)
  · have k0 : k = 0 := (nI_eq (b := 0) (by omega) (by decide)).mp hk0
    refine x_aload_n (pc := 1566) C dL_law_1566 rfl ?_
    refine x_iconst (pc := 1567) C (0) dL_law_1567 (by decide) ?_
    refine x_lald (pc := 1568) (o := 210) C dL_law_1568 (hI2 210 rfl) ⟨rfl, rfl⟩ ?_
    refine x_iload (pc := 1569) C dL_law_1569 rfl ?_
    refine x_i2l (pc := 1571) C dL_law_1571 ?_
    refine x_lcmp (pc := 1572) C dL_law_1572 ?_
    refine x_if_eq (pc := 1573) (tgt := 1578) C dL_law_1573 (by decide) (fun _ => ?_) (fun hne => absurd ((lg_cmp_eq _ _).mpr (hw k0)) hne)
    refine x_goto (pc := 1578) (tgt := 1692) C dL_law_1578 (by decide) ?_
    refine x_fgt 5 ?_
    refine x_fgt 6 ?_
    exact x_wid (by omega) (by omega) (K _ _ _ _ hInv)
set_option maxRecDepth 100000 in
set_option maxHeartbeats 4000000 in
theorem w_greatestOverrun (C : OK E RL cL_law 9 (some .boolean) 11 MC MS) (hsc : Sc E bq len xs) {i : Nat} (hi : i + 7 ≤ len) (hlen : len ≤ 3584) (h : Inv V N I) (hr : a + 16 ≤ MC ∧ b + 300 ≤ MS) (K : ∀ V' L' N' I', Inv V' N' I' → Wx E 1692 (LLs bq i) [] V' L' N' I' (a + 16) (b + 300)) : Wx E 1581 (LLs bq i) [] V L N I a b := by
  obtain ⟨n, o, m, l0, hX⟩ := h
  have hI := hX.2.2.1.1.1
  obtain ⟨P, hR, hSP⟩ := s_greatestOverrun (l := eL E) (L := L) hX (xs (i + 1))
  refine x_aload_n (pc := 1581) C dL_law_1581 rfl ?_
  refine x_aload_nq (pc := 1582) C dL_law_1582 rfl ?_
  refine x_iload (pc := 1583) C dL_law_1583 rfl ?_
  refine x_iconst (pc := 1585) C (nI 1) dL_law_1585 (by decide) ?_
  refine x_iadd (pc := 1586) C dL_law_1586 ?_
  refine x_topi (nI (i + 1)) (nI_add i 1) ?_
  refine x_sld (pc := 1587) C hsc dL_law_1587 (show i + 1 < len by omega) hlen ?_
  refine x_aload_n (pc := 1588) C dL_law_1588 rfl ?_
  refine x_callSX (pc := 1589) (st := []) (As := [aR 0, aI (xs (i + 1)), aR 210]) C x_L_173 dL_law_1589 (c_L_greatestOverrun hI (xs (i + 1)) hR (sp_h2 hSP)) rfl (by decide) (okB_s rfl) (by decide) ⟨by omega, by omega⟩ (fun X V2 L2 N2 I2 hq => (lwp_no hq).elim) (fun r V2 L2 N2 I2 hq => ?_)
  obtain ⟨hIN, k, w, hk3, rfl, hw, hM⟩ := lwp_c hSP hq
  obtain ⟨Q, hRM, hQ⟩ := hM L2
  have hI2 := hIN.1
  refine y_istore (pc := 1592) C dL_law_1592 (by decide) rfl ?_
  refine x_aload_n (pc := 1594) C dL_law_1594 rfl ?_
  refine x_aload_nq (pc := 1595) C dL_law_1595 rfl ?_
  refine x_iload (pc := 1596) C dL_law_1596 rfl ?_
  refine x_iconst (pc := 1598) C (nI 1) dL_law_1598 (by decide) ?_
  refine x_iadd (pc := 1599) C dL_law_1599 ?_
  refine x_topi (nI (i + 1)) (nI_add i 1) ?_
  refine x_sld (pc := 1600) C hsc dL_law_1600 (show i + 1 < len by omega) hlen ?_
  refine x_pV1 (pc := 1601) (o := 200) C v_L_175 dL_law_1601 hRM (hI2 200 rfl) rfl (by decide) rfl ⟨by omega, by omega⟩ (fun V3 hq3 => ?_)
  obtain ⟨ht, hInv⟩ := hQ V3 hq3
  refine y_istore (pc := 1604) C dL_law_1604 (by decide) rfl ?_
  refine x_aload_n (pc := 1606) C dL_law_1606 rfl ?_
  refine x_cV0 (pc := 1607) (o := 200) C v_L_95 dL_law_1607 (c_X7_thrown hI2) (hI2 200 rfl) rfl (by decide) rfl ⟨by omega, by omega⟩ ?_
  refine x_iload (pc := 1610) C dL_law_1610 rfl ?_
  refine x_icmp_eq (pc := 1612) (tgt := 1617) C dL_law_1612 (by decide) (fun _ => ?_) (fun hne => absurd ht hne)
  refine x_iload (pc := 1617) C dL_law_1617 rfl ?_
  refine x_if_ne (pc := 1619) (tgt := 1634) C dL_law_1619 (by decide) (fun _ => ?_) (fun hk0 => ?_)
  · refine x_goto (pc := 1634) (tgt := 1692) C dL_law_1634 (by decide) ?_
    refine x_fgt 5 ?_
    refine x_fgt 6 ?_
    exact x_wid (by omega) (by omega) (K _ _ _ _ hInv)
  · have k0 : k = 0 := (nI_eq (b := 0) (by omega) (by decide)).mp hk0
    refine x_aload_n (pc := 1622) C dL_law_1622 rfl ?_
    refine x_iconst (pc := 1623) C (0) dL_law_1623 (by decide) ?_
    refine x_lald (pc := 1624) (o := 210) C dL_law_1624 (hI2 210 rfl) ⟨rfl, rfl⟩ ?_
    refine x_iload (pc := 1625) C dL_law_1625 rfl ?_
    refine x_i2l (pc := 1627) C dL_law_1627 ?_
    refine x_lcmp (pc := 1628) C dL_law_1628 ?_
    refine x_if_eq (pc := 1629) (tgt := 1634) C dL_law_1629 (by decide) (fun _ => ?_) (fun hne => absurd ((lg_cmp_eq _ _).mpr (hw k0)) hne)
    refine x_goto (pc := 1634) (tgt := 1692) C dL_law_1634 (by decide) ?_
    refine x_fgt 5 ?_
    refine x_fgt 6 ?_
    exact x_wid (by omega) (by omega) (K _ _ _ _ hInv)
set_option maxRecDepth 100000 in
set_option maxHeartbeats 4000000 in
theorem w_clearBuffer (C : OK E RL cL_law 9 (some .boolean) 11 MC MS) (hsc : Sc E bq len xs) {i : Nat} (hi : i + 7 ≤ len) (hlen : len ≤ 3584) (h : Inv V N I) (hr : a + 16 ≤ MC ∧ b + 300 ≤ MS) (K : ∀ V' L' N' I', Inv V' N' I' → Wx E 1692 (LLs bq i) [] V' L' N' I' (a + 16) (b + 300)) : Wx E 734 (LLs bq i) [] V L N I a b := by
  obtain ⟨n, o, m, l0, hX⟩ := h
  have hI := hX.2.2.1.1.1
  obtain ⟨P, hR, hSD⟩ := s_clearBuffer (l := eL E) (L := L) hX
  refine x_aload_n (pc := 734) C dL_law_734 rfl ?_
  refine x_callV (pc := 735) (o := 0) (As := []) (st := []) C v_L_123 dL_law_735 hR (hI 0 rfl) rfl rfl (by decide) (okB_s rfl) (by decide) ⟨by omega, by omega⟩ (fun X V2 L2 N2 I2 hq => ?_) (fun r V2 L2 N2 I2 hq => ?_)
  · obtain ⟨x, e, _⟩ := hSD _ _ _ _ _ hq
    cases e
  obtain ⟨x, e, ⟨v, rfl⟩, hIN, hM⟩ := hSD _ _ _ _ _ hq
  cases e
  obtain ⟨Q, L3, hRM, hQ⟩ := hM L2
  have hI2 := hIN.1
  refine x_aload_n (pc := 738) C dL_law_738 rfl ?_
  refine x_pV0 (pc := 739) (o := 200) C v_L_126 dL_law_739 hRM (hI2 200 rfl) rfl (by decide) rfl ⟨by omega, by omega⟩ (fun V3 hq3 => ?_)
  have hInv := hQ V3 hq3
  refine x_icmp_eq (pc := 742) (tgt := 1692) C dL_law_742 (by decide) (fun _ => ?_) (fun hne => absurd rfl hne)
  exact x_wid (by omega) (by omega) (K _ _ _ _ hInv)
set_option maxRecDepth 100000 in
set_option maxHeartbeats 4000000 in
theorem w_firstError (C : OK E RL cL_law 9 (some .boolean) 11 MC MS) (hsc : Sc E bq len xs) {i : Nat} (hi : i + 7 ≤ len) (hlen : len ≤ 3584) (h : Inv V N I) (hr : a + 16 ≤ MC ∧ b + 300 ≤ MS) (K : ∀ V' L' N' I', Inv V' N' I' → Wx E 1692 (LLs bq i) [] V' L' N' I' (a + 16) (b + 300)) : Wx E 747 (LLs bq i) [] V L N I a b := by
  obtain ⟨n, o, m, l0, hX⟩ := h
  have hI := hX.2.2.1.1.1
  obtain ⟨P, hR, hSD⟩ := s_firstError (l := eL E) (L := L) hX
  refine x_aload_n (pc := 747) C dL_law_747 rfl ?_
  refine x_callV (pc := 748) (o := 0) (As := []) (st := []) C v_L_127 dL_law_748 hR (hI 0 rfl) rfl rfl (by decide) (okB_s rfl) (by decide) ⟨by omega, by omega⟩ (fun X V2 L2 N2 I2 hq => ?_) (fun r V2 L2 N2 I2 hq => ?_)
  · obtain ⟨x, e, _⟩ := hSD _ _ _ _ _ hq
    cases e
  obtain ⟨x, e, ⟨v, rfl⟩, hIN, hM⟩ := hSD _ _ _ _ _ hq
  cases e
  obtain ⟨Q, L3, hRM, hQ⟩ := hM L2
  have hI2 := hIN.1
  refine x_aload_n (pc := 751) C dL_law_751 rfl ?_
  refine x_pV0 (pc := 752) (o := 200) C v_L_130 dL_law_752 hRM (hI2 200 rfl) rfl (by decide) rfl ⟨by omega, by omega⟩ (fun V3 hq3 => ?_)
  have hInv := hQ V3 hq3
  refine x_icmp_eq (pc := 755) (tgt := 1692) C dL_law_755 (by decide) (fun _ => ?_) (fun hne => absurd rfl hne)
  exact x_wid (by omega) (by omega) (K _ _ _ _ hInv)
set_option maxRecDepth 100000 in
set_option maxHeartbeats 4000000 in
theorem w_reason (C : OK E RL cL_law 9 (some .boolean) 11 MC MS) (hsc : Sc E bq len xs) {i : Nat} (hi : i + 7 ≤ len) (hlen : len ≤ 3584) (h : Inv V N I) (hr : a + 16 ≤ MC ∧ b + 300 ≤ MS) (K : ∀ V' L' N' I', Inv V' N' I' → Wx E 1692 (LLs bq i) [] V' L' N' I' (a + 16) (b + 300)) : Wx E 848 (LLs bq i) [] V L N I a b := by
  obtain ⟨n, o, m, l0, hX⟩ := h
  have hI := hX.2.2.1.1.1
  obtain ⟨P, hR, hSD⟩ := s_reason (l := eL E) (L := L) hX
  refine x_aload_n (pc := 848) C dL_law_848 rfl ?_
  refine x_callV (pc := 849) (o := 0) (As := []) (st := []) C v_L_137 dL_law_849 hR (hI 0 rfl) rfl rfl (by decide) (okB_s rfl) (by decide) ⟨by omega, by omega⟩ (fun X V2 L2 N2 I2 hq => ?_) (fun r V2 L2 N2 I2 hq => ?_)
  · obtain ⟨x, e, _⟩ := hSD _ _ _ _ _ hq
    cases e
  obtain ⟨x, e, ⟨v, rfl⟩, hIN, hM⟩ := hSD _ _ _ _ _ hq
  cases e
  obtain ⟨Q, L3, hRM, hQ⟩ := hM L2
  have hI2 := hIN.1
  refine x_aload_n (pc := 852) C dL_law_852 rfl ?_
  refine x_pV0 (pc := 853) (o := 200) C v_L_140 dL_law_853 hRM (hI2 200 rfl) rfl (by decide) rfl ⟨by omega, by omega⟩ (fun V3 hq3 => ?_)
  have hInv := hQ V3 hq3
  refine x_icmp_eq (pc := 856) (tgt := 1692) C dL_law_856 (by decide) (fun _ => ?_) (fun hne => absurd rfl hne)
  exact x_wid (by omega) (by omega) (K _ _ _ _ hInv)
set_option maxRecDepth 100000 in
set_option maxHeartbeats 4000000 in
theorem w_share (C : OK E RL cL_law 9 (some .boolean) 11 MC MS) (hsc : Sc E bq len xs) {i : Nat} (hi : i + 7 ≤ len) (hlen : len ≤ 3584) (h : Inv V N I) (hr : a + 16 ≤ MC ∧ b + 300 ≤ MS) (K : ∀ V' L' N' I', Inv V' N' I' → Wx E 1692 (LLs bq i) [] V' L' N' I' (a + 16) (b + 300)) : Wx E 1637 (LLs bq i) [] V L N I a b := by
  obtain ⟨n, o, m, l0, hX⟩ := h
  have hI := hX.2.2.1.1.1
  obtain ⟨P, hR, hSD⟩ := s_share (l := eL E) (L := L) hX
  refine x_aload_n (pc := 1637) C dL_law_1637 rfl ?_
  refine x_callV (pc := 1638) (o := 0) (As := []) (st := []) C v_L_176 dL_law_1638 hR (hI 0 rfl) rfl rfl (by decide) (okB_s rfl) (by decide) ⟨by omega, by omega⟩ (fun X V2 L2 N2 I2 hq => ?_) (fun r V2 L2 N2 I2 hq => ?_)
  · obtain ⟨x, e, _⟩ := hSD _ _ _ _ _ hq
    cases e
  obtain ⟨x, e, ⟨v, rfl, hcmp⟩, hIN, hM⟩ := hSD _ _ _ _ _ hq
  cases e
  obtain ⟨Q, L3, hRM, hQ⟩ := hM L2
  have hI2 := hIN.1
  refine x_dstore (pc := 1641) C dL_law_1641 (by decide) ?_
  refine x_aload_n (pc := 1643) C dL_law_1643 rfl ?_
  refine x_pV0 (pc := 1644) (o := 200) C v_L_180 dL_law_1644 hRM (hI2 200 rfl) rfl (by decide) rfl ⟨by omega, by omega⟩ (fun V3 hq3 => ?_)
  have hInv := hQ V3 hq3
  refine x_dstore (pc := 1647) C dL_law_1647 (by decide) ?_
  refine x_dload (pc := 1649) C dL_law_1649 rfl ?_
  refine x_dload (pc := 1651) C dL_law_1651 rfl ?_
  refine x_dcmp (pc := 1653) C dL_law_1653 ?_
  refine x_if_eq (pc := 1654) (tgt := 1675) C dL_law_1654 (by decide) (fun _ => ?_) (fun hne => absurd hcmp hne)
  refine x_goto (pc := 1675) (tgt := 1692) C dL_law_1675 (by decide) ?_
  refine x_fgt 5 ?_
  refine x_fgt 7 ?_
  exact x_wid (by omega) (by omega) (K _ _ _ _ hInv)
set_option maxRecDepth 100000 in
set_option maxHeartbeats 4000000 in
theorem w_digest (C : OK E RL cL_law 9 (some .boolean) 11 MC MS) (hsc : Sc E bq len xs) {i : Nat} (hi : i + 7 ≤ len) (hlen : len ≤ 3584) (h : Inv V N I) (hr : a + 16 ≤ MC ∧ b + 300 ≤ MS) (K : ∀ V' L' N' I', Inv V' N' I' → Wx E 1692 (LLs bq i) [] V' L' N' I' (a + 16) (b + 300)) : Wx E 1678 (LLs bq i) [] V L N I a b := by
  obtain ⟨n, o, m, l0, hX⟩ := h
  have hI := hX.2.2.1.1.1
  obtain ⟨P, hR, hSD⟩ := s_digest (l := eL E) (L := L) hX
  refine x_aload_n (pc := 1678) C dL_law_1678 rfl ?_
  refine x_callV (pc := 1679) (o := 0) (As := []) (st := []) C v_L_181 dL_law_1679 hR (hI 0 rfl) rfl rfl (by decide) (okB_s rfl) (by decide) ⟨by omega, by omega⟩ (fun X V2 L2 N2 I2 hq => ?_) (fun r V2 L2 N2 I2 hq => ?_)
  · obtain ⟨x, e, _⟩ := hSD _ _ _ _ _ hq
    cases e
  obtain ⟨x, e, ⟨v, rfl⟩, hIN, hM⟩ := hSD _ _ _ _ _ hq
  cases e
  obtain ⟨Q, L3, hRM, hQ⟩ := hM L2
  have hI2 := hIN.1
  refine x_aload_n (pc := 1682) C dL_law_1682 rfl ?_
  refine x_pV0 (pc := 1683) (o := 200) C v_L_185 dL_law_1683 hRM (hI2 200 rfl) rfl (by decide) rfl ⟨by omega, by omega⟩ (fun V3 hq3 => ?_)
  have hInv := hQ V3 hq3
  refine x_lcmp (pc := 1686) C dL_law_1686 ?_
  refine x_if_eq (pc := 1687) (tgt := 1692) C dL_law_1687 (by decide) (fun _ => ?_) (fun hne => absurd ((lg_cmp_eq _ _).mpr rfl) hne)
  exact x_wid (by omega) (by omega) (K _ _ _ _ hInv)
theorem and31 (x : Int32) : ∃ c, c < 32 ∧ x &&& 31 = nI c := by
  refine ⟨(x &&& 31).toBitVec.toNat, ?_, ?_⟩
  · have : (x &&& 31).toBitVec = x.toBitVec &&& 31#32 := rfl
    rw [this, BitVec.toNat_and]
    exact Nat.lt_succ_of_le Nat.and_le_right
  · apply Int32.toBitVec_inj.mp
    show _ = BitVec.ofNat 32 _
    rw [BitVec.ofNat_toNat, BitVec.setWidth_eq]
set_option maxRecDepth 100000 in
set_option maxHeartbeats 4000000 in
theorem w_step (C : OK E RL cL_law 9 (some .boolean) 11 MC MS) (hsc : Sc E bq len xs) {i : Nat} (hi : i + 7 ≤ len) (hlen : len ≤ 3584) (h : Inv V N I) (hr : a + 16 ≤ MC ∧ b + 300 ≤ MS) (K : ∀ V' L' N' I', Inv V' N' I' → Wx E 1692 (LLs bq i) [] V' L' N' I' (a + 16) (b + 300)) : Wx E 33 (LLs bq i) [] V L N I a b := by
  refine x_aload_nq (pc := 33) C dL_law_33 rfl ?_
  refine x_iload (pc := 34) C dL_law_34 rfl ?_
  refine x_sld (pc := 36) C hsc dL_law_36 (show i < len by omega) hlen ?_
  refine x_bipush (pc := 37) C 31 dL_law_37 (by decide) ?_
  refine x_iand (pc := 39) C dL_law_39 ?_
  obtain ⟨c, hc, he⟩ := and31 (xs i)
  refine x_topi (nI c) he ?_
  by_cases h26 : 26 ≤ c
  · refine x_tableOut (pc := 40) (tgt := 1692) C dL_law_40 (Or.inr (by rw [t_nat (by omega)]; omega)) (by decide) ?_
    exact x_wid (by omega) (by omega) (K _ _ _ _ h)
  rcases (show c = 0 ∨ c = 1 ∨ c = 2 ∨ c = 3 ∨ c = 4 ∨ c = 5 ∨ c = 6 ∨ c = 7 ∨ c = 8 ∨ c = 9 ∨ c = 10 ∨ c = 11 ∨ c = 12 ∨ c = 13 ∨ c = 14 ∨ c = 15 ∨ c = 16 ∨ c = 17 ∨ c = 18 ∨ c = 19 ∨ c = 20 ∨ c = 21 ∨ c = 22 ∨ c = 23 ∨ c = 24 ∨ c = 25 by omega) with rfl | rfl | rfl | rfl | rfl | rfl | rfl | rfl | rfl | rfl | rfl | rfl | rfl | rfl | rfl | rfl | rfl | rfl | rfl | rfl | rfl | rfl | rfl | rfl | rfl | rfl
  · exact x_tableInN (pc := 40) (tgt := 160) C dL_law_40 (by decide) (by decide) (by decide) rfl (by decide) (w_set C hsc hi hlen h hr K)
  · exact x_tableInN (pc := 40) (tgt := 228) C dL_law_40 (by decide) (by decide) (by decide) rfl (by decide) (w_setQuota C hsc hi hlen h hr K)
  · exact x_tableInN (pc := 40) (tgt := 296) C dL_law_40 (by decide) (by decide) (by decide) rfl (by decide) (w_add C hsc hi hlen h hr K)
  · exact x_tableInN (pc := 40) (tgt := 430) C dL_law_40 (by decide) (by decide) (by decide) rfl (by decide) (w_repeat C hsc hi hlen h hr K)
  · exact x_tableInN (pc := 40) (tgt := 510) C dL_law_40 (by decide) (by decide) (by decide) rfl (by decide) (w_remove C hsc hi hlen h hr K)
  · exact x_tableInN (pc := 40) (tgt := 566) C dL_law_40 (by decide) (by decide) (by decide) rfl (by decide) (w_overrun C hsc hi hlen h hr K)
  · exact x_tableInN (pc := 40) (tgt := 634) C dL_law_40 (by decide) (by decide) (by decide) rfl (by decide) (w_closeWeek C hsc hi hlen h hr K)
  · exact x_tableInN (pc := 40) (tgt := 678) C dL_law_40 (by decide) (by decide) (by decide) rfl (by decide) (w_append C hsc hi hlen h hr K)
  · exact x_tableInN (pc := 40) (tgt := 734) C dL_law_40 (by decide) (by decide) (by decide) rfl (by decide) (w_clearBuffer C hsc hi hlen h hr K)
  · exact x_tableInN (pc := 40) (tgt := 747) C dL_law_40 (by decide) (by decide) (by decide) rfl (by decide) (w_firstError C hsc hi hlen h hr K)
  · exact x_tableInN (pc := 40) (tgt := 760) C dL_law_40 (by decide) (by decide) (by decide) rfl (by decide) (w_load C hsc hi hlen h hr K)
  · exact x_tableInN (pc := 40) (tgt := 804) C dL_law_40 (by decide) (by decide) (by decide) rfl (by decide) (w_undo C hsc hi hlen h hr K)
  · exact x_tableInN (pc := 40) (tgt := 848) C dL_law_40 (by decide) (by decide) (by decide) rfl (by decide) (w_reason C hsc hi hlen h hr K)
  · exact x_tableInN (pc := 40) (tgt := 861) C dL_law_40 (by decide) (by decide) (by decide) rfl (by decide) (w_show C hsc hi hlen h hr K)
  · exact x_tableInN (pc := 40) (tgt := 929) C dL_law_40 (by decide) (by decide) (by decide) rfl (by decide) (w_group C hsc hi hlen h hr K)
  · exact x_tableInN (pc := 40) (tgt := 997) C dL_law_40 (by decide) (by decide) (by decide) rfl (by decide) (w_sponsors C hsc hi hlen h hr K)
  · exact x_tableInN (pc := 40) (tgt := 1093) C dL_law_40 (by decide) (by decide) (by decide) rfl (by decide) (w_day C hsc hi hlen h hr K)
  · exact x_tableInN (pc := 40) (tgt := 1161) C dL_law_40 (by decide) (by decide) (by decide) rfl (by decide) (w_count C hsc hi hlen h hr K)
  · exact x_tableInN (pc := 40) (tgt := 1217) C dL_law_40 (by decide) (by decide) (by decide) rfl (by decide) (w_setting C hsc hi hlen h hr K)
  · exact x_tableInN (pc := 40) (tgt := 1273) C dL_law_40 (by decide) (by decide) (by decide) rfl (by decide) (w_why C hsc hi hlen h hr K)
  · exact x_tableInN (pc := 40) (tgt := 1365) C dL_law_40 (by decide) (by decide) (by decide) rfl (by decide) (w_firstTime C hsc hi hlen h hr K)
  · exact x_tableInN (pc := 40) (tgt := 1445) C dL_law_40 (by decide) (by decide) (by decide) rfl (by decide) (w_firstRepeat C hsc hi hlen h hr K)
  · exact x_tableInN (pc := 40) (tgt := 1501) C dL_law_40 (by decide) (by decide) (by decide) rfl (by decide) (w_ifOverrun C hsc hi hlen h hr K)
  · exact x_tableInN (pc := 40) (tgt := 1581) C dL_law_40 (by decide) (by decide) (by decide) rfl (by decide) (w_greatestOverrun C hsc hi hlen h hr K)
  · exact x_tableInN (pc := 40) (tgt := 1637) C dL_law_40 (by decide) (by decide) (by decide) rfl (by decide) (w_share C hsc hi hlen h hr K)
  · exact x_tableInN (pc := 40) (tgt := 1678) C dL_law_40 (by decide) (by decide) (by decide) rfl (by decide) (w_digest C hsc hi hlen h hr K)
/-- the loop -/
theorem w_loop (C : OK E RL cL_law 9 (some .boolean) 11 MC MS) (hsc : Sc E bq len xs) (hlen : len ≤ 3584) {a0 b0 : Nat} (hr : a0 + 8192 ≤ MC ∧ b0 + 153600 ≤ MS) (hEnd : ∀ ls V L N I a b, a ≤ MC → b ≤ MS → Wx E 1699 ls [aI 1] V L N I a b) :
    ∀ (f t : Nat) (V : VV) (L : LL) (N : NN) (I : List Nat), f + t = 512 → 7 * t ≤ len → Inv V N I → Wx E 23 (LLs bq (7 * t)) [] V L N I (a0 + 16 * t) (b0 + 300 * t) := by
  intro f
  induction f with
  | zero =>
    intro t V L N I hf ht h
    refine x_iload (pc := 23) C dL_law_23 rfl ?_
    refine x_aload_nq (pc := 25) C dL_law_25 rfl ?_
    refine x_slen (pc := 26) C hsc dL_law_26 ?_
    refine x_bipush (pc := 27) C 7 dL_law_27 (by decide) ?_
    refine x_isub (pc := 29) C dL_law_29 ?_
    have e : (nI len - 7).toInt = len - 7 := by rw [t_sub (by rw [t_nat (by omega)]; simp; omega) (by rw [t_nat (by omega)]; simp; omega), t_nat (by omega)]; rfl
    refine x_icmp_gt (pc := 30) (tgt := 1698) C dL_law_30 (by decide) (fun hg => ?_) (fun hg => absurd (t_lt.mpr (by rw [e, t_nat (by omega)]; omega)) hg)
    refine x_iconst (pc := 1698) C 1 dL_law_1698 (by decide) ?_
    exact hEnd _ _ _ _ _ _ _ (by omega) (by omega)
  | succ f ih =>
    intro t V L N I hf ht h
    refine x_iload (pc := 23) C dL_law_23 rfl ?_
    refine x_aload_nq (pc := 25) C dL_law_25 rfl ?_
    refine x_slen (pc := 26) C hsc dL_law_26 ?_
    refine x_bipush (pc := 27) C 7 dL_law_27 (by decide) ?_
    refine x_isub (pc := 29) C dL_law_29 ?_
    have e : (nI len - 7).toInt = len - 7 := by rw [t_sub (by rw [t_nat (by omega)]; simp; omega) (by rw [t_nat (by omega)]; simp; omega), t_nat (by omega)]; rfl
    refine x_icmp_gt (pc := 30) (tgt := 1698) C dL_law_30 (by decide) (fun hg => ?_) (fun hg => ?_)
    · refine x_iconst (pc := 1698) C 1 dL_law_1698 (by decide) ?_
      exact hEnd _ _ _ _ _ _ _ (by omega) (by omega)
    · have hlt : ¬ (nI len - 7).toInt < (nI (7 * t)).toInt := fun z => hg (t_lt.mpr z)
      rw [e, t_nat (by omega)] at hlt
      refine w_step C hsc (i := 7 * t) (by omega) hlen h ⟨by omega, by omega⟩ (fun V' L' N' I' h' => ?_)
      refine y_iinc (pc := 1692) C (nI (7 * (t + 1))) dL_law_1692 rfl (show nI (7 * t) + Int32.ofInt 7 = nI (7 * (t + 1)) from nI_add (7 * t) 7) (by decide) rfl ?_
      refine x_goto (pc := 1695) (tgt := 23) C dL_law_1695 (by decide) ?_
      have hh := ih (t + 1) V' L' N' I' (by omega) (by omega) h'
      rw [show a0 + 16 * (t + 1) = a0 + 16 * t + 16 by omega, show b0 + 300 * (t + 1) = b0 + 300 * t + 300 by omega] at hh
      exact hh
end
