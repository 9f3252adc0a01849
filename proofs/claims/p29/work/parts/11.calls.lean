def entA : List AV → zLS
  | [] => []
  | v :: r => if isW v = true then some v :: none :: entA r else some v :: entA r
def entL (args : List AV) (n : Nat) : zLS := entA args ++ List.replicate (n - (entA args).length) none
theorem entA_len {ad : Nat → Nat} : ∀ args : List AV, (lg_sl (args.map (en ad))).length = (entA args).length
  | [] => rfl
  | v :: r => by
    have ih := entA_len (ad := ad) r
    simp only [lg_sl, List.map_cons, List.flatMap_cons, entA] at ih ⊢
    by_cases h : isW v = true
    · rw [if_pos (isW_cat.mpr h), if_pos h]
      simp only [List.length_append, List.length_cons, List.length_nil, ih]
      omega
    · rw [if_neg (fun q => h (isW_cat.mp q)), if_neg h]
      simp only [List.length_append, List.length_cons, List.length_nil, ih]
      omega
theorem entA_mem {ad : Nat → Nat} : ∀ (args : List AV) (i k : Nat) (v : AV), (entA args)[k]? = some (some v) → (i + k, en ad v) ∈ lv_args i (args.map (en ad))
  | [], i, k, v, h => by simp [entA] at h
  | u :: r, i, k, v, h => by
    have ih := entA_mem (ad := ad) r
    simp only [entA] at h
    simp only [List.map_cons, lv_args]
    by_cases hw : isW u = true
    · rw [if_pos hw] at h
      rw [if_pos (isW_cat.mpr hw)]
      match k, h with
      | 0, h => simp at h; subst h; simp
      | 1, h => simp at h
      | k + 2, h =>
        have := ih (i + 2) k v (by simpa using h)
        rw [show i + (k + 2) = i + 2 + k by omega]
        exact List.mem_cons_of_mem _ this
    · rw [if_neg hw] at h
      rw [if_neg (fun q => hw (isW_cat.mp q))]
      match k, h with
      | 0, h => simp at h; subst h; simp
      | k + 1, h =>
        have := ih (i + 1) k v (by simpa using h)
        rw [show i + (k + 1) = i + 1 + k by omega]
        exact List.mem_cons_of_mem _ this
theorem entL_get {args : List AV} {n k : Nat} {v : AV} (h : (entL args n)[k]? = some (some v)) : (entA args)[k]? = some (some v) := by
  unfold entL at h
  by_cases hk : k < (entA args).length
  · rwa [List.getElem?_append_left hk] at h
  · rw [List.getElem?_append_right (by omega)] at h
    obtain ⟨h1, h2⟩ := List.getElem?_eq_some_iff.mp h
    rw [List.getElem_replicate] at h2
    cases h2
/-- how the method's own end is owed -/
def HQ (E : EE) (I0 : List Nat) (Post : PP) (mc ms : Nat) : Prop := eQ E = vx_MQ (eB E) (RetM (eF E) (eD E) (eK E) (eA E) I0 Post) (ThrM (eF E) (eD E) (eK E) (eA E) I0 Post) (eX E) (eS E) mc ms (eF E) ∧ eI E = (fun i => dyn i = false ∨ i ∈ I0)
def NT (E : EE) : Prop := ∀ x ∈ (eC E).exceptionTable.toList, False
theorem run_of {l : Launch} {D mc ms : Nat} {y : MethodName} {cc : ByteArray} {maxL : Nat} {ret : Option FieldType} {args : List AV} {V : VV} {L : LL} {N : NN} {I : List Nat} {Post : PP} (own : String) (hy : plainName y.cls = true) (ho : y.cls = own) (hlen : (entA args).length ≤ maxL)
    (body : ∀ E : EE, eL E = l → OK E own cc maxL ret D mc ms → HQ E I Post mc ms → NT E → Wx E 0 (entL args maxL) [] V L N I 0 0) : Runs l D mc ms y (Cond.code y cc maxL ret) args V L N I Post := by
  intro hl d ca ad sz
  refine vx_ofW hy rfl ?_
  intro p e s m a below meth c s1 B hml hno hv
  obtain ⟨rfl, hsz, hP, hK, hD0, hSt, hG⟩ := hv
  subst hsz
  have hts := atoms_spec (ws := Cond.code y cc maxL ret :: U0) B.pre
  have hown : s.vm.findClass y.cls = some m.cls := findClass_of_methodNamed B.named
  have hlv := lv_entry (args.map (en ad)) (n := maxL) (by rw [entA_len]; exact hlen)
  rw [lg_entry_eq]
  have key := body (p, l, e, rmD D mc ms, s, m, (args.map (en ad)).toArray, below, meth, c, vx_MQ below (RetM (va_A (wsM ca ad V L N I) s.heap.size) d ca ad I Post) (ThrM (va_A (wsM ca ad V L N I) s.heap.size) d ca ad I Post) (args.map (en ad)).toArray s mc ms (va_A (wsM ca ad V L N I) s.heap.size), d, ca, ad, va_A (wsM ca ad V L N I) s.heap.size, maxL, fun i => dyn i = false ∨ i ∈ I) rfl
    ⟨B.exec, B.bytes, hml, ho ▸ hown, fun w hw => hts w (List.mem_cons_of_mem _ hw), hK, fun q hq => Or.inr hq, hSt, hG, B.notSynchronized, hl, Nat.le_refl _, Nat.le_refl _, Nat.le_refl _, Nat.le_refl _, rfl, B.returns⟩ ⟨rfl, rfl⟩ hno
  refine key ad s.heap [] _ hP hD0.self va_S.rf ⟨fun i _ => rfl, fun i h => h⟩ ⟨hlv.1, hlv.2.1, fun k v hk => ?_⟩
  have := hlv.2.2 _ (entA_mem (ad := ad) args 0 k v (entL_get hk))
  simpa using this
section
variable {E : EE} {own : String} {cc : ByteArray} {ret : Option FieldType} {nL D MC MS pc : Nat} {ls : zLS} {st : List AV} {V : VV} {L : LL} {N : NN} {I I0 : List Nat} {a b mc ms : Nat} {Post : PP}
theorem OK.lk (C : OK E own cc nL ret D MC MS) : (eT E).locks = false := C.2.2.2.2.2.2.2.2.2.1
theorem x_iret (C : OK E own cc nL (some .int) D MC MS) (hQ : HQ E I0 Post mc ms) {v : Int32} (d : decode cc pc = .ok (.ireturn, 1)) (h : Post (.inl (some (aI v))) V L N I) (ha : a ≤ mc) (hb : b ≤ ms) : Wx E pc ls [aI v] V L N I a b := by
  intro ad H locs lsa hP hD hS hA hl
  rw [hQ.1]; rw [hQ.2] at hA
  refine W.widen ha hb (vx_ret ?_)
  exact W.iret C.1 C.2.1 C.rt (fun t ht hW => ⟨⟨some (aI v), ad, rfl, V, L, N, I, h, ⟨hA.1, fun i hi => hA.2 i (Or.inr hi)⟩, ht ▸ hP, hD⟩, hS.F ht⟩) (fun q hq => hS.2.2 q hq) d C.lk
theorem x_zret (C : OK E own cc nL (some .boolean) D MC MS) (hQ : HQ E I0 Post mc ms) {v : Int32} (d : decode cc pc = .ok (.ireturn, 1)) (hv : v = 0 ∨ v = 1) (h : Post (.inl (some (aI v))) V L N I) (ha : a ≤ mc) (hb : b ≤ ms) : Wx E pc ls [aI v] V L N I a b := by
  intro ad H locs lsa hP hD hS hA hl
  rw [hQ.1]; rw [hQ.2] at hA
  refine W.widen ha hb (vx_ret ?_)
  exact W.zret C.1 C.2.1 C.rt (by rcases hv with rfl | rfl <;> rfl) (fun t ht hW => ⟨⟨some (aI v), ad, rfl, V, L, N, I, h, ⟨hA.1, fun i hi => hA.2 i (Or.inr hi)⟩, ht ▸ hP, hD⟩, hS.F ht⟩) (fun q hq => hS.2.2 q hq) d C.lk
theorem x_dret (C : OK E own cc nL (some .double) D MC MS) (hQ : HQ E I0 Post mc ms) {v : UInt64} (d : decode cc pc = .ok (.dreturn, 1)) (h : Post (.inl (some (aD v))) V L N I) (ha : a ≤ mc) (hb : b ≤ ms) : Wx E pc ls [aD v] V L N I a b := by
  intro ad H locs lsa hP hD hS hA hl
  rw [hQ.1]; rw [hQ.2] at hA
  refine W.widen ha hb (vx_ret ?_)
  exact W.dret C.1 C.2.1 C.rt (fun t ht hW => ⟨⟨some (aD v), ad, rfl, V, L, N, I, h, ⟨hA.1, fun i hi => hA.2 i (Or.inr hi)⟩, ht ▸ hP, hD⟩, hS.F ht⟩) (fun q hq => hS.2.2 q hq) d C.lk
theorem x_vret (C : OK E own cc nL none D MC MS) (hQ : HQ E I0 Post mc ms) (d : decode cc pc = .ok (.return_, 1)) (h : Post (.inl none) V L N I) (ha : a ≤ mc) (hb : b ≤ ms) : Wx E pc ls [] V L N I a b := by
  intro ad H locs lsa hP hD hS hA hl
  rw [hQ.1]; rw [hQ.2] at hA
  refine W.widen ha hb (vx_ret ?_)
  exact W.vret C.1 C.2.1 C.rt (fun t ht hW => ⟨⟨none, ad, rfl, V, L, N, I, h, ⟨hA.1, fun i hi => hA.2 i (Or.inr hi)⟩, ht ▸ hP, hD⟩, hS.F ht⟩) (fun q hq => hS.2.2 q hq) d C.lk
end
