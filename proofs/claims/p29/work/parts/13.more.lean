def nmX : List String := ["java/lang/RuntimeException", "java/lang/Exception"]
/-- the words of a throw but the one of the place where it is -/
def atX (X : String) : List Cond := (Bundle.throwableAtoms ++ Bundle.throwableSAtoms ++ Bundle.chainSAtoms X nmX ++
  [Cond.instantiable X 6, Cond.castable X X, Cond.selects X Bundle.tFill0 Bundle.tFill0, Cond.selects X Bundle.tFill Bundle.tFill,
   Cond.lays X Bundle.tN "cause" "Ljava/lang/Throwable;", Cond.lays X Bundle.tN "stackTrace" Bundle.steD, Cond.lays X Bundle.tN "suppressedExceptions" Bundle.listD, Cond.lays X Bundle.tN "detailMessage" "Ljava/lang/String;",
   Cond.isRef (Term.static Bundle.tN "UNASSIGNED_STACK" Bundle.steD), Cond.isRef (Term.static Bundle.tN "SUPPRESSED_SENTINEL" Bundle.listD),
   Cond.fieldLink Bundle.tN 198 Bundle.tN "backtrace" "Ljava/lang/Object;", Cond.lays Bundle.tN Bundle.tN "backtrace" "Ljava/lang/Object;", Cond.lays X Bundle.tN "backtrace" "Ljava/lang/Object;"]).filter vx_no
theorem atX_of {own X : String} {ic : Nat} {w : Cond} (h : w ∈ vx_atS own ic X nmX) : w = .methodLink own ic (Bundle.initS X) ∨ w ∈ atX X := by
  unfold vx_atS Bundle.ownAtoms at h
  obtain ⟨h1, h2⟩ := List.mem_filter.mp h
  rcases List.mem_append.mp h1 with h3 | h3
  · exact Or.inr (List.mem_filter.mpr ⟨List.mem_append_left _ h3, h2⟩)
  · rcases List.mem_cons.mp h3 with h4 | h4
    · exact Or.inl h4
    · exact Or.inr (List.mem_filter.mpr ⟨List.mem_append_right _ h4, h2⟩)
def atOK (w : Cond) : Bool := (decide (w ∈ lw_tbl) && goodWord w) || (decide (w ∈ tables_1) && ubw w)
set_option maxRecDepth 100000 in
theorem atX_io : (atX "java/lang/IndexOutOfBoundsException").all (fun w => atOK w && vx_ot w) = true := by decide +kernel
set_option maxRecDepth 100000 in
theorem atX_ia : (atX "java/lang/IllegalArgumentException").all (fun w => atOK w && vx_ot w) = true := by decide +kernel
set_option maxRecDepth 100000 in
theorem atX_is : (atX "java/lang/IllegalStateException").all (fun w => atOK w && vx_ot w) = true := by decide +kernel
/-- a throw: by the pool's numbers of its class, its text, its constructor -/
def TKk (own : String) (ik is ic : Nat) (X tx : String) : Prop := Bundle.fit X = true ∧ Cond.classLink own ik X ∈ U0 ∧ Cond.initialized X ∈ U0 ∧ Cond.stringRef own is tx ∈ tables_1 ∧ Cond.methodLink own ic (Bundle.initS X) ∈ U0 ∧ (atX X).all (fun w => atOK w && vx_ot w) = true
theorem nmX_fit : ∀ n ∈ nmX, Bundle.fit n = true := by decide +kernel
section
variable {E : EE} {own : String} {cc : ByteArray} {ret : Option FieldType} {nL D MC MS pc : Nat} {ls : zLS} {st : List AV} {V : VV} {L : LL} {N : NN} {I I0 : List Nat} {a b mc ms : Nat} {Post : PP}
theorem tk_words (C : OK E own cc nL ret D MC MS) {ik is ic : Nat} {X tx : String} (t : TKk own ik is ic X tx) : (∀ w ∈ vx_atS own ic X nmX, w.before (eX E) (eS E) = true) ∧ ∀ w ∈ Cond.classLink own ik X :: Cond.initialized X :: vx_atS own ic X nmX, vx_ot w = true := by
  obtain ⟨t1, t2, t3, t4, t5, t6⟩ := t
  have h6 := List.all_eq_true.mp t6
  have hu : ∀ {w : Cond}, w ∈ U0 → vx_ot w = true := fun hw => by
    have := (List.mem_filter.mp hw).2
    simp [vx_ot, this]
  refine ⟨fun w hw => ?_, fun w hw => ?_⟩
  · rcases atX_of hw with h | h
    · exact h ▸ C.2.2.2.2.1 _ t5
    · have h7 := h6 w h
      simp only [atOK, Bool.and_eq_true, Bool.or_eq_true, decide_eq_true_eq] at h7
      rcases h7.1 with h8 | h8
      · exact C.2.2.2.2.1 _ (List.mem_filter.mpr h8)
      · have h9 := C.2.2.2.2.2.2.2.2.1.1 w h8.1 h8.2
        have hot : w.onTables = true := by
          have := h8.2
          cases w <;> first | rfl | (simp [ubw] at this)
        exact va_tabs hot rfl h9
  · rcases List.mem_cons.mp hw with h | h
    · exact h ▸ hu t2
    · rcases List.mem_cons.mp h with h | h
      · exact h ▸ hu t3
      · rcases atX_of h with h | h
        · exact h ▸ hu t5
        · have h7 := h6 w h
          simp only [Bool.and_eq_true] at h7
          exact h7.2
theorem x_throw (C : OK E own cc nL ret D MC MS) (hQ : HQ E I0 Post mc ms) (hN : NT E) {ik is ic : Nat} {X tx : String} (t : TKk own ik is ic X tx)
    (d0 : decode cc pc = .ok (.new ik, 3)) (d3 : decode cc (pc + 3) = .ok (.dup, 1)) (d4 : decode cc (pc + 4) = .ok (.ldc is, 2)) (d6 : decode cc (pc + 6) = .ok (.invokespecial ic, 3)) (d9 : decode cc (pc + 9) = .ok (.athrow, 1))
    (hD : 6 ≤ D) (hc : catS st = 0) (hr : a + 1 ≤ MC ∧ b + 6 ≤ MS ∧ a + 1 ≤ mc ∧ b + 6 ≤ ms) (h : Post (.inr X) V L N I) : Wx E pc ls st V L N I a b := by
  intro ad H locs lsa hP hD0 hS hA hl
  obtain ⟨w1, w2⟩ := tk_words C t
  obtain ⟨t1, t2, t3, t4, t5, t6⟩ := t
  obtain ⟨hx, hb, hml, hown, hts, hK, hF, hSt, hG, hlk, hnt, r1, r2, r3, r4, hnl, hrt⟩ := id C
  obtain ⟨sa, hsa⟩ := hG.2.1 _ _ _ t4
  rw [hQ.1]; rw [hQ.2] at hA
  refine vx_throwS (names := nmX) (text := tx) (sa := sa) (A := eF E) hx hb hnt hown t1 nmX_fit (hts _ t2) (hts _ t3) hsa w1 w2 hSt.1 hSt.2.1 hS (by rw [hl.1, hml]) d0 d3 d4 d6 d9 (fun x hx => (hN x hx).elim) ?_ ?_ (Nat.le_trans hr.1 r3) (Nat.le_trans hr.2.1 r4) hlk (fun t hvm hz hk => ?_) (fun q hq => hS.2.2 q hq) hr.2.2.1 hr.2.2.2
  · show 2 + 3 < (eR E).frames
    omega
  · rw [catS_en, hc]
    show 0 + (13 * (2 + 1) + 43) ≤ (eR E).locals
    omega
  · refine ⟨⟨ad, V, L, N, I, h, ⟨hA.1, fun i hi => hA.2 i (Or.inr hi)⟩, ?_, hD0⟩, Nat.le_trans hS.1 hz, fun q hq hn => ?_⟩
    · intro k q hq
      exact va_at.kept (hP k q hq) (hk q.1 (va_at.lt (hP k q hq)))
    · exact (hk q (Nat.lt_of_lt_of_le hq hS.1)).trans (hS.2.1 q hq hn)
theorem x_throwW (C : OK E own cc nL ret D MC MS) (hQ : HQ E I0 Post mc ms) (hN : NT E) {ik is ic : Nat} {X tx : String} (t : TKk own ik is ic X tx)
    (d0 : decode cc pc = .ok (.new ik, 3)) (d3 : decode cc (pc + 3) = .ok (.dup, 1)) (d4 : decode cc (pc + 4) = .ok (.ldc_w is, 3)) (d6 : decode cc (pc + 7) = .ok (.invokespecial ic, 3)) (d9 : decode cc (pc + 10) = .ok (.athrow, 1))
    (hD : 6 ≤ D) (hc : catS st = 0) (hr : a + 1 ≤ MC ∧ b + 6 ≤ MS ∧ a + 1 ≤ mc ∧ b + 6 ≤ ms) (h : Post (.inr X) V L N I) : Wx E pc ls st V L N I a b := by
  intro ad H locs lsa hP hD0 hS hA hl
  obtain ⟨w1, w2⟩ := tk_words C t
  obtain ⟨t1, t2, t3, t4, t5, t6⟩ := t
  obtain ⟨hx, hb, hml, hown, hts, hK, hF, hSt, hG, hlk, hnt, r1, r2, r3, r4, hnl, hrt⟩ := id C
  obtain ⟨sa, hsa⟩ := hG.2.1 _ _ _ t4
  rw [hQ.1]; rw [hQ.2] at hA
  refine vx_throwSW (names := nmX) (text := tx) (sa := sa) (A := eF E) hx hb hnt hown t1 nmX_fit (hts _ t2) (hts _ t3) hsa w1 w2 hSt.1 hSt.2.1 hS (by rw [hl.1, hml]) d0 d3 d4 d6 d9 (fun x hx => (hN x hx).elim) ?_ ?_ (Nat.le_trans hr.1 r3) (Nat.le_trans hr.2.1 r4) hlk (fun t hvm hz hk => ?_) (fun q hq => hS.2.2 q hq) hr.2.2.1 hr.2.2.2
  · show 2 + 3 < (eR E).frames
    omega
  · rw [catS_en, hc]
    show 0 + (13 * (2 + 1) + 43) ≤ (eR E).locals
    omega
  · refine ⟨⟨ad, V, L, N, I, h, ⟨hA.1, fun i hi => hA.2 i (Or.inr hi)⟩, ?_, hD0⟩, Nat.le_trans hS.1 hz, fun q hq hn => ?_⟩
    · intro k q hq
      exact va_at.kept (hP k q hq) (hk q.1 (va_at.lt (hP k q hq)))
    · exact (hk q (Nat.lt_of_lt_of_le hq hS.1)).trans (hS.2.1 q hq hn)
/-- an exception of a callee goes on -/
theorem x_out (C : OK E own cc nL ret D MC MS) (hQ : HQ E I0 Post mc ms) (hN : NT E) {X : String} (ha : a ≤ mc) (hb : b ≤ ms) (h : Post (.inr X) V L N I) : Xx E pc ls st X V L N I a b := by
  intro ad H locs lsa q ce hP hD0 hS hA hl hq hv hcl
  rw [hQ.1]; rw [hQ.2] at hA
  refine vx_out (fun x hx => (hN x hx).elim) C.lk hq hv hcl (fun t ht hvm => ?_) (fun z hz => hS.2.2 z hz) ha hb
  exact ⟨⟨ad, V, L, N, I, h, ⟨hA.1, fun i hi => hA.2 i (Or.inr hi)⟩, ht ▸ hP, hD0⟩, hS.F ht⟩
/-- .. or is caught -/
theorem x_catch (C : OK E own cc nL ret D MC MS) {hh : List (Nat × Nat × Nat × Nat)} (hT : (eC E).exceptionTable.toList = tableOf hh) (pre : List ExceptionTableEntry) (x : ExceptionTableEntry) (suf : List ExceptionTableEntry) (hsplit : tableOf hh = pre ++ x :: suf) {X : String}
    (hpass : ∀ z ∈ pre, z.catchType ≠ 0 ∧ ∃ nm : String, Cond.classLink own z.catchType nm ∈ U0 ∧ (X, nm) ∈ ncs) (hx : covers x pc = true) (h0 : x.catchType ≠ 0) (hlink : Cond.classLink own x.catchType X ∈ U0) (hcast : Cond.castable X X ∈ tables_1)
    (K : ∀ q, Wx E x.handlerPc ls [aQ q] V L N I a b) : Xx E pc ls st X V L N I a b := by
  intro ad H locs lsa q ce hP hD0 hS hA hl hq hv hcl
  obtain ⟨hx1, hb, hml, hown, hts, hK, hF, hSt, hG, -⟩ := id C
  refine vx_catch hown pre x suf (hT.trans hsplit) (fun z hz => Or.inr ?_) hx h0 (hts _ hlink) (va_tabs rfl rfl (hG.1 _ hcast rfl)) hq hv hcl (K q ad H locs lsa hP hD0 hS hA hl)
  obtain ⟨h1, nm, h2, h3⟩ := hpass z hz
  exact ⟨h1, nm, hts _ h2, hG.2.2 _ h3⟩
theorem x_mmax (C : OK E own cc nL ret D MC MS) {idx : Nat} {x y : Int32} (hw : Cond.methodLink own idx Lib.Math.max.name ∈ U0) (d : decode cc pc = .ok (.invokestatic idx, 3)) (hD : 1 ≤ D) (hcat : catS st ≤ 8) (hr : a ≤ MC ∧ b ≤ MS) (K : Wx E (pc + 3) ls (aI (if x < y then y else x) :: st) V L N I a b)
    (hs : Cond.static Lib.Math.max.name ∈ U0) (hi : Cond.initialized "java/lang/Math" ∈ U0) (hc : Cond.code Lib.Math.max.name Lib.Math.max.code 2 (some .int) ∈ U0) : Wx E pc ls (aI y :: aI x :: st) V L N I a b := by
  intro ad H locs lsa hP hD0 hS hA hl
  obtain ⟨hx1, hb, hml, hown, hts, hK, hF, hSt, hG, hlk, hnt, r1, r2, r3, r4, hnl, hrt⟩ := id C
  refine va_mmax hx1 hb (by rw [hl.1, hml]) hown (hts _ hw) (hts _ hs) (hts _ hi) (hts _ hc) (by omega) ?_ (Nat.le_trans hr.1 r3) (Nat.le_trans hr.2 r4) d (K ad H locs lsa hP hD0 hS hA hl)
  rw [catS_en]; omega
theorem x_mmin (C : OK E own cc nL ret D MC MS) {idx : Nat} {x y : Int32} (hw : Cond.methodLink own idx Lib.Math.min.name ∈ U0) (d : decode cc pc = .ok (.invokestatic idx, 3)) (hD : 1 ≤ D) (hcat : catS st ≤ 8) (hr : a ≤ MC ∧ b ≤ MS) (K : Wx E (pc + 3) ls (aI (if y < x then y else x) :: st) V L N I a b)
    (hs : Cond.static Lib.Math.min.name ∈ U0) (hi : Cond.initialized "java/lang/Math" ∈ U0) (hc : Cond.code Lib.Math.min.name Lib.Math.min.code 2 (some .int) ∈ U0) : Wx E pc ls (aI y :: aI x :: st) V L N I a b := by
  intro ad H locs lsa hP hD0 hS hA hl
  obtain ⟨hx1, hb, hml, hown, hts, hK, hF, hSt, hG, hlk, hnt, r1, r2, r3, r4, hnl, hrt⟩ := id C
  refine va_mmin hx1 hb (by rw [hl.1, hml]) hown (hts _ hw) (hts _ hs) (hts _ hi) (hts _ hc) (by omega) ?_ (Nat.le_trans hr.1 r3) (Nat.le_trans hr.2 r4) d (K ad H locs lsa hP hD0 hS hA hl)
  rw [catS_en]; omega
/-- m numbers of the row o0, from its start, into the row o1 -/
def cpy (V : VV) (o0 o1 m : Nat) : VV := fun i j => if i = o1 ∧ j < m then V o0 j else V i j
theorem x_copy (C : OK E own cc nL ret D MC MS) {idx o0 o1 m : Nat} (hw : Cond.methodLink own idx arraycopyName ∈ U0) (d : decode cc pc = .ok (.invokestatic idx, 3)) (hD : 1 ≤ D) (hcat : catS st ≤ 8) (h0 : o0 ∈ I) (h1 : o1 ∈ I) (k0 : ocl o0 = none ∧ akd o0 = 0) (k1 : ocl o1 = none ∧ akd o1 = 0) (m0 : m ≤ aln o0) (m1 : m ≤ aln o1) (hm : m < 2 ^ 31) (K : Wx E (pc + 3) ls st (cpy V o0 o1 m) L N I a b)
    (hn : Cond.native arraycopyName ∈ U0) (hs : Cond.static arraycopyName ∈ U0) (hi : Cond.initialized "java/lang/System" ∈ U0) : Wx E pc ls (aI (nI m) :: aI 0 :: aR o1 :: aI 0 :: aR o0 :: st) V L N I a b := by
  intro ad H locs lsa hP hD0 hS hA hl
  obtain ⟨hx1, hb, hml, hown, hts, hK, hF, hSt, hG, hlk, hnt, r1, r2, r3, r4, hnl, hrt⟩ := id C
  obtain ⟨q0, hq0⟩ := List.getElem?_of_mem h0
  obtain ⟨q1, hq1⟩ := List.getElem?_of_mem h1
  have e0 := ws_at (ca := eK E) (ad := ad) (V := V) (L := L) (N := N) hq0
  have e1 := ws_at (ca := eK E) (ad := ad) (V := V) (L := L) (N := N) hq1
  rw [cell_int k0] at e0
  rw [cell_int k1] at e1
  have z0 : (0 : Int32).toNatClampNeg = 0 := rfl
  refine va_copyi hx1 hb (by rw [hl.1, hml]) hown (hts _ hw) (hts _ hn) (hts _ hs) (hts _ hi) hK hP hD0 hS q0 q1 0 0 e0 e1 rfl rfl rfl (by decide) (by decide) (nI_pos hm) (by rw [z0, nI_clamp hm]; omega) (by rw [z0, nI_clamp hm]; omega) (fun i _ => rfl) (by omega) ?_ d (fun H1 locs1 hP1 hD1 hS1 => ?_)
  · rw [catS_en]
    have : nativeFrameWords "java/lang/System" "arraycopy" 5 = 7 := by decide +kernel
    rw [this]; omega
  · rw [z0, nI_clamp hm] at hP1 hD1
    rw [ws_set (V' := cpy V o0 o1 m) (L' := L) (N' := N) hD0 hq1 (by
      rw [cell_int k1]
      refine congrArg (fun f => (Sum.inl (eK E 0, aln o1, .inl f) : va_E)) (funext fun i => ?_)
      simp [cpy, va_cpy]) (fun i hi => cell_same (funext fun j => by simp [cpy, hi]) rfl)] at hP1 hD1
    exact K ad H1 locs1 lsa hP1 hD1 hS1 hA hl
end
theorem run_ofW {l : Launch} {D mc ms : Nat} {y : MethodName} {cc : ByteArray} {maxL : Nat} {ret : Option FieldType} {hh : List (Nat × Nat × Nat × Nat)} {args : List AV} {V : VV} {L : LL} {N : NN} {I : List Nat} {Post : PP} (own : String) (hy : plainName y.cls = true) (ho : y.cls = own) (hlen : (entA args).length ≤ maxL)
    (body : ∀ E : EE, eL E = l → OK E own cc maxL ret D mc ms → HQ E I Post mc ms → (eC E).exceptionTable.toList = tableOf hh → Wx E 0 (entL args maxL) [] V L N I 0 0) : Runs l D mc ms y (Cond.codeWith y cc maxL ret hh) args V L N I Post := by
  intro hl d ca ad sz
  refine vx_ofWH hy rfl ?_
  intro p e s m a below meth c s1 B hml hv
  obtain ⟨rfl, hsz, hP, hK, hD0, hSt, hG⟩ := hv
  subst hsz
  have hts := atoms_spec (ws := Cond.codeWith y cc maxL ret hh :: U0) B.pre
  have hown : s.vm.findClass y.cls = some m.cls := findClass_of_methodNamed B.named
  have hlv := lv_entry (args.map (en ad)) (n := maxL) (by rw [entA_len]; exact hlen)
  have htab := vx_table (x := y) B (hts _ List.mem_cons_self)
  rw [lg_entry_eq]
  have key := body (p, l, e, rmD D mc ms, s, m, (args.map (en ad)).toArray, below, meth, c, vx_MQ below (RetM (va_A (wsM ca ad V L N I) s.heap.size) d ca ad I Post) (ThrM (va_A (wsM ca ad V L N I) s.heap.size) d ca ad I Post) (args.map (en ad)).toArray s mc ms (va_A (wsM ca ad V L N I) s.heap.size), d, ca, ad, va_A (wsM ca ad V L N I) s.heap.size, maxL, fun i => dyn i = false ∨ i ∈ I) rfl
    ⟨B.exec, B.bytes, hml, ho ▸ hown, fun w hw => hts w (List.mem_cons_of_mem _ hw), hK, fun q hq => Or.inr hq, hSt, hG, B.notSynchronized, hl, Nat.le_refl _, Nat.le_refl _, Nat.le_refl _, Nat.le_refl _, rfl, B.returns⟩ ⟨rfl, rfl⟩ htab
  refine key ad s.heap [] _ hP hD0.self va_S.rf ⟨fun i _ => rfl, fun i h => h⟩ ⟨hlv.1, hlv.2.1, fun k v hk => ?_⟩
  have := hlv.2.2 _ (entA_mem (ad := ad) args 0 k v (entL_get hk))
  simpa using this
def CXk (own : String) (idx n : Nat) (y : MethodName) (cc : ByteArray) (maxL : Nat) (ret : Option FieldType) (hh : List (Nat × Nat × Nat × Nat)) : Prop :=
  (Cond.methodLink own idx y ∈ U0 ∧ Cond.static y ∈ U0 ∧ Cond.initialized y.cls ∈ U0 ∧ Cond.codeWith y cc maxL ret hh ∈ U0) ∧ maxL ≤ 9 ∧
  (y.cls ≠ "java/lang/invoke/MethodHandle" ∧ y.cls ≠ "java/lang/invoke/VarHandle" ∧ (parseMethodDescriptor y.desc).map (fun d => d.parameters.length) = some n)
section
variable {E : EE} {own : String} {cc : ByteArray} {ret : Option FieldType} {nL D MC MS pc : Nat} {ls : zLS} {st : List AV} {V : VV} {L : LL} {N : NN} {I I0 : List Nat} {a b mc ms : Nat} {Post : PP}
theorem x_callSX (C : OK E own cc nL ret D MC MS) {idx n D1 mL : Nat} {y : MethodName} {c1 : ByteArray} {r1 : Option FieldType} {hh : List (Nat × Nat × Nat × Nat)} {As : List AV} (w : CXk own idx n y c1 mL r1 hh) (d : decode cc pc = .ok (.invokestatic idx, 3)) (hR : Runs (eL E) D1 mc ms y (Cond.codeWith y c1 mL r1 hh) As V L N I Post)
    (hn : As.length = n) (hDD : D1 + 1 ≤ D) (hok : okS I st ∧ okL I ls) (hcat : catS st ≤ 8) (hroom : a + mc ≤ MC ∧ b + ms ≤ MS)
    (kx : ∀ X V' L' N' I', Post (.inr X) V' L' N' I' → Xx E pc ls st X V' L' N' I' (a + mc) (b + ms))
    (kk : ∀ r V' L' N' I', Post (.inl r) V' L' N' I' → Wx E (pc + 3) ls (r.toList ++ st) V' L' N' I' (a + mc) (b + ms)) : Wx E pc ls (As.reverse ++ st) V L N I a b := by
  refine x_fin C (av := #[]) hok (fun ad H locs lsa hP hD hS hl => ?_) kx kk
  obtain ⟨⟨w1, w2, w4, w5⟩, hmL, hy⟩ := w
  obtain ⟨hx, hb, hml, hown, hts, hK, hA, hSt, hG, hlk, hnt, r1, r2, r3, r4, hnl, hrt⟩ := id C
  refine ⟨_, vx_runSX (As := As.map (en ad)) (Ts := U0) (nL := eN E) ⟨hx, hb, hml, hown, hts⟩ (hR hnt (eD E) (eK E) ad H.size) (vx_cwSW n hts (u0_app (fun w hw => ?_) (u0_call w5)) rfl rfl rfl hy ?_) ⟨preM_blind, fun U hU hW => ⟨rfl, pre_call C hP hD hS hU hW⟩⟩ rfl (by simp [hn]) hl.1 ?_ ?_ d ⟨Nat.le_trans hroom.1 r3, Nat.le_trans hroom.2 r4⟩⟩
  · simp only [List.mem_cons, List.not_mem_nil, or_false] at hw
    rcases hw with rfl | rfl | rfl <;> assumption
  · show D1 + 1 ≤ (eR E).frames ∧ 8 + (mL + 11) + (28 * D1 + 12) ≤ (eR E).locals
    omega
  · show List.map (en ad) (As.reverse ++ st) = (As.map (en ad)).reverse ++ st.map (en ad)
    rw [List.map_append, List.map_reverse]
  · show 2 * 0 + _ ≤ 8
    rw [catS_en]; omega
end
