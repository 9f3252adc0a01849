-- the script: read by a method of the law's own
def Sc (E : EE) (bq len : Nat) (xs : Nat → Int32) : Prop := va_X bq len xs (eS E) (eS E).heap ∧ bq < (eS E).heap.size ∧ ¬ eF E bq
def PrSc (d : (Nat → ClassId) × (Nat → Nat → Nat)) (ca : Nat → ClassId) (ad : Nat → Nat) (V : VV) (L : LL) (N : NN) (I : List Nat) (sz bq len : Nat) (xs : Nat → Int32) (U : State) : Prop :=
  PreM d ca ad V L N I sz U ∧ va_X bq len xs U U.heap ∧ bq < U.heap.size ∧ ¬ va_A (wsM ca ad V L N I) sz bq
/-- a contract that knows the script -/
def RunsS (l : Launch) (D mc ms : Nat) (y : MethodName) (w0 : Cond) (args : List AV) (V : VV) (L : LL) (N : NN) (I : List Nat) (Post : PP) (bq len : Nat) (xs : Nat → Int32) : Prop :=
  l.stackTraces = false → ∀ (d : (Nat → ClassId) × (Nat → Nat → Nat)) (ca : Nat → ClassId) (ad : Nat → Nat) (sz : Nat),
    vx_Met l y (w0 :: U0) (rmD D mc ms) (va_Pc (args.map (en ad)) (PrSc d ca ad V L N I sz bq len xs)) (RetM (va_A (wsM ca ad V L N I) sz) d ca ad I Post) (ThrM (va_A (wsM ca ad V L N I) sz) d ca ad I Post) mc ms (va_A (wsM ca ad V L N I) sz)
theorem prSc_blind {d : (Nat → ClassId) × (Nat → Nat → Nat)} {ca : Nat → ClassId} {ad : Nat → Nat} {V : VV} {L : LL} {N : NN} {I : List Nat} {sz bq len : Nat} {xs : Nat → Int32} {av : List Value} : FrameBlind (va_Pc av (PrSc d ca ad V L N I sz bq len xs)) := by
  intro a U g mk h
  obtain ⟨h1, h2, h3, h4, h5⟩ := h
  have hvm : U.vm.Alike (U.calling g mk a).vm := Vm.Alike.refl U.vm
  exact ⟨h1, (preM_blind a U g mk ⟨h1, h2⟩).2, h3.moved hvm, h4, h5⟩
theorem run_ofS {l : Launch} {D mc ms : Nat} {y : MethodName} {cc : ByteArray} {maxL : Nat} {ret : Option FieldType} {args : List AV} {V : VV} {L : LL} {N : NN} {I : List Nat} {Post : PP} {bq len : Nat} {xs : Nat → Int32} (own : String) (hy : plainName y.cls = true) (ho : y.cls = own) (hlen : (entA args).length ≤ maxL)
    (body : ∀ E : EE, eL E = l → OK E own cc maxL ret D mc ms → HQ E I Post mc ms → Sc E bq len xs → Wx E 0 (entL args maxL) [] V L N I 0 0) : RunsS l D mc ms y (Cond.code y cc maxL ret) args V L N I Post bq len xs := by
  intro hl d ca ad sz
  refine vx_ofW hy rfl ?_
  intro p e s m a below meth c s1 B hml hno hv
  obtain ⟨rfl, ⟨hsz, hP, hK, hD0, hSt, hG⟩, hX, hbl, hbA⟩ := hv
  subst hsz
  have hts := atoms_spec (ws := Cond.code y cc maxL ret :: U0) B.pre
  have hown : s.vm.findClass y.cls = some m.cls := findClass_of_methodNamed B.named
  have hlv := lv_entry (args.map (en ad)) (n := maxL) (by rw [entA_len]; exact hlen)
  rw [lg_entry_eq]
  have key := body (p, l, e, rmD D mc ms, s, m, (args.map (en ad)).toArray, below, meth, c, vx_MQ below (RetM (va_A (wsM ca ad V L N I) s.heap.size) d ca ad I Post) (ThrM (va_A (wsM ca ad V L N I) s.heap.size) d ca ad I Post) (args.map (en ad)).toArray s mc ms (va_A (wsM ca ad V L N I) s.heap.size), d, ca, ad, va_A (wsM ca ad V L N I) s.heap.size, maxL, fun i => dyn i = false ∨ i ∈ I) rfl
    ⟨B.exec, B.bytes, hml, ho ▸ hown, fun w hw => hts w (List.mem_cons_of_mem _ hw), hK, fun q hq => Or.inr hq, hSt, hG, B.notSynchronized, hl, Nat.le_refl _, Nat.le_refl _, Nat.le_refl _, Nat.le_refl _, rfl, B.returns⟩ ⟨rfl, rfl⟩ ⟨hX, hbl, hbA⟩
  refine key ad s.heap [] _ hP hD0.self va_S.rf ⟨fun i _ => rfl, fun i h => h⟩ ⟨hlv.1, hlv.2.1, fun k v hk => ?_⟩
  have := hlv.2.2 _ (entA_mem (ad := ad) args 0 k v (entL_get hk))
  simpa using this
section
variable {E : EE} {own : String} {cc : ByteArray} {ret : Option FieldType} {nL D MC MS pc : Nat} {ls : zLS} {st : List AV} {V : VV} {L : LL} {N : NN} {I I0 : List Nat} {a b mc ms bq len : Nat} {Post : PP} {xs : Nat → Int32}
theorem x_slen (C : OK E own cc nL ret D MC MS) (h : Sc E bq len xs) (d : decode cc pc = .ok (.arraylength, 1)) (K : Wx E (pc + 1) ls (aI (nI len) :: st) V L N I a b) : Wx E pc ls (aQ bq :: st) V L N I a b := by
  intro ad H locs lsa hP hD hS ha hl
  exact va_slen C.1 C.2.1 h.1 h.2.1 h.2.2 hS d (K ad H locs lsa hP hD hS ha hl)
theorem x_sld (C : OK E own cc nL ret D MC MS) {k : Nat} (h : Sc E bq len xs) (d : decode cc pc = .ok (.iaload, 1)) (hk : k < len) (hlen : len ≤ 3584) (K : Wx E (pc + 1) ls (aI (xs k) :: st) V L N I a b) : Wx E pc ls (aI (nI k) :: aQ bq :: st) V L N I a b := by
  intro ad H locs lsa hP hD hS ha hl
  refine va_sld C.1 C.2.1 h.1 h.2.1 h.2.2 hS (vp_in_nI hk (by omega)) d ?_
  have := K ad H locs lsa hP hD hS ha hl
  rw [nI_clamp (by omega)]
  exact this
theorem x_callTS (C : OK E own cc nL ret D MC MS) (hsc : Sc E bq len xs) {idx n D1 mL : Nat} {y : MethodName} {c1 : ByteArray} {r1 : Option FieldType} {As : List AV} (w : CTk own idx n y c1 mL r1) (d : decode cc pc = .ok (.invokestatic idx, 3)) (hR : RunsS (eL E) D1 mc ms y (Cond.code y c1 mL r1) As V L N I Post bq len xs)
    (hn : As.length = n) (hDD : D1 + 2 ≤ D) (hok : okS I st ∧ okL I ls) (hcat : catS st ≤ 8) (hroom : a + mc ≤ MC ∧ b + ms ≤ MS)
    (kx : ∀ X V' L' N' I', Post (.inr X) V' L' N' I' → Xx E pc ls st X V' L' N' I' (a + mc) (b + ms))
    (kk : ∀ r V' L' N' I', Post (.inl r) V' L' N' I' → Wx E (pc + 3) ls (r.toList ++ st) V' L' N' I' (a + mc) (b + ms)) : Wx E pc ls (As.reverse ++ st) V L N I a b := by
  refine x_fin C (av := #[]) hok (fun ad H locs lsa hP hD hS hl => ?_) kx kk
  obtain ⟨⟨w1, w2, w4, w5⟩, hyo, hmL, hy⟩ := w
  obtain ⟨hx, hb, hml, hown, hts, hK, hA, hSt, hG, hlk, hnt, r1, r2, r3, r4, hnl, hrt⟩ := id C
  have hF : ∀ q, va_A (wsM (eK E) ad V L N I) H.size q → eF E q := fun q h => by
    rcases h with ⟨k, e, h⟩ | h
    · exact hD.2 k _ h
    · exact hA q (Nat.le_trans hS.1 h)
  refine ⟨_, vx_runS (As := As.map (en ad)) (Ts := U0) (nL := eN E) ⟨hx, hb, hml, hown, hts⟩ (hR hnt (eD E) (eK E) ad H.size) (cwS n hts (u0_app (fun w hw => ?_) (u0_call w5)) rfl rfl rfl ⟨hyo, hy⟩ ?_) ⟨prSc_blind, fun U hU hW => ⟨rfl, pre_call C hP hD hS hU hW, by rw [hU]; exact (hsc.1.kept (hS.2.1 _ hsc.2.1 hsc.2.2)).moved hW.alike, by rw [hU]; exact Nat.lt_of_lt_of_le hsc.2.1 hS.1, fun z => hsc.2.2 (hF _ z)⟩⟩ rfl (by simp [hn]) hl.1 ?_ ?_ d ⟨Nat.le_trans hroom.1 r3, Nat.le_trans hroom.2 r4⟩⟩
  · simp only [List.mem_cons, List.not_mem_nil, or_false] at hw
    rcases hw with rfl | rfl | rfl
    · assumption
    · assumption
    · rw [← hyo]; assumption
  · show D1 + 1 ≤ (eR E).frames ∧ 8 + (mL + 11) + (28 * D1 + 12) ≤ (eR E).locals
    omega
  · show List.map (en ad) (As.reverse ++ st) = (As.map (en ad)).reverse ++ st.map (en ad)
    rw [List.map_append, List.map_reverse]
  · show 2 * 0 + _ ≤ 8
    rw [catS_en]; omega
end
def CellP (V : VV) (L : LL) (N : NN) (I : List Nat) : PP := fun r1 V1 L1 N1 I1 => (∃ v : Int32, r1 = .inl (some (aI v))) ∧ V1 = V ∧ L1 = L ∧ N1 = N ∧ I1 = I
set_option maxRecDepth 100000 in
set_option maxHeartbeats 4000000 in
theorem c_L_cell {l : Launch} {V : VV} {L : LL} {N : NN} {I : List Nat} {bq len : Nat} {xs : Nat → Int32} (hlen : len ≤ 3584) {k : Nat} (hk : k < 100000) : RunsS l 1 0 0 yL_cell (Cond.code yL_cell cL_cell 2 (some .int)) [aQ bq, aI (nI k)] V L N I (CellP V L N I) bq len xs := by
  refine run_ofS RL (by decide +kernel) rfl (Nat.le_of_ble_eq_true rfl) (fun E hE C hQ hsc => ?_)
  refine x_iload_n (pc := 0) C dL_cell_0 rfl ?_
  refine x_aload_nq (pc := 1) C dL_cell_1 rfl ?_
  refine x_slen (pc := 2) C hsc dL_cell_2 ?_
  refine x_icmp_ge (pc := 3) (tgt := 12) C dL_cell_3 (by decide) (fun h3 => ?_) (fun h3 => ?_)
  · refine x_ldc (pc := 12) C (v := 710744975) (u0_in 411 (by decide +kernel) rfl) dL_cell_12 ?_
    refine x_iload_n (pc := 14) C dL_cell_14 rfl ?_
    refine x_iconst (pc := 15) C (1) dL_cell_15 (by decide) ?_
    refine x_iadd (pc := 16) C dL_cell_16 ?_
    refine x_imul (pc := 17) C dL_cell_17 ?_
    exact x_iret (pc := 18) C hQ dL_cell_18 ⟨⟨_, rfl⟩, rfl, rfl, rfl, rfl⟩ (Nat.le_of_ble_eq_true rfl) (Nat.le_of_ble_eq_true rfl)
  · refine x_aload_nq (pc := 6) C dL_cell_6 rfl ?_
    refine x_iload_n (pc := 7) C dL_cell_7 rfl ?_
    refine x_sld (pc := 8) C hsc dL_cell_8 (Nat.lt_of_not_le fun z => h3 (nI_le z (by omega))) hlen ?_
    refine x_goto (pc := 9) (tgt := 18) C dL_cell_9 (by decide) ?_
    exact x_iret (pc := 18) C hQ dL_cell_18 ⟨⟨_, rfl⟩, rfl, rfl, rfl, rfl⟩ (Nat.le_of_ble_eq_true rfl) (Nat.le_of_ble_eq_true rfl)
