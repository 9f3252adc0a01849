theorem ws_at {ca : Nat → ClassId} {ad : Nat → Nat} {V : VV} {L : LL} {N : NN} {I : List Nat} {q o : Nat} (h : I[q]? = some o) : (wsM ca ad V L N I)[q]? = some (ad o, cellM ca ad V L N o) := by
  simp [wsM, h]
theorem ws_inj {ca : Nat → ClassId} {ad : Nat → Nat} {V : VV} {L : LL} {N : NN} {I : List Nat} {A : Nat → Prop} (hD : va_D A (wsM ca ad V L N I)) {i j o p : Nat} (h1 : I[i]? = some o) (h2 : I[j]? = some p) (h : ad o = ad p) : i = j := hD.1 i j _ _ (ws_at h1) (ws_at h2) h
theorem ws_set {ca : Nat → ClassId} {ad : Nat → Nat} {V V' : VV} {L L' : LL} {N N' : NN} {I : List Nat} {A : Nat → Prop} (hD : va_D A (wsM ca ad V L N I)) {q o : Nat} {e : va_E} (h : I[q]? = some o) (he : cellM ca ad V' L' N' o = e) (hr : ∀ i, i ≠ o → cellM ca ad V' L' N' i = cellM ca ad V L N i) : (wsM ca ad V L N I).set q (ad o, e) = wsM ca ad V' L' N' I := by
  subst he
  apply List.ext_getElem?
  intro k
  have hql := (List.getElem?_eq_some_iff.mp h).1
  by_cases hk : k = q
  · subst hk
    rw [List.getElem?_set_self (by simpa [wsM] using hql), ws_at h]
  · rw [List.getElem?_set_ne (Ne.symm hk)]
    unfold wsM
    rw [List.getElem?_map, List.getElem?_map]
    cases ho : I[k]? with
    | none => rfl
    | some p =>
      have hpo : p ≠ o := fun z => hk (ws_inj hD ho h (by rw [z]))
      simp only [Option.map_some, hr p hpo]
theorem cell_obj {ca : Nat → ClassId} {ad : Nat → Nat} {V : VV} {L : LL} {N : NN} {o ci : Nat} (h : ocl o = some ci) : cellM ca ad V L N o = .inr (ci, (List.range (nfl ci)).map (fvM ad V L o ci)) := by
  unfold cellM; rw [h]
theorem cell_int {ca : Nat → ClassId} {ad : Nat → Nat} {V : VV} {L : LL} {N : NN} {o : Nat} (h : ocl o = none ∧ akd o = 0) : cellM ca ad V L N o = .inl (ca 0, aln o, .inl (V o)) := by
  unfold cellM; rw [h.1]; simp [h.2]
theorem cell_bool {ca : Nat → ClassId} {ad : Nat → Nat} {V : VV} {L : LL} {N : NN} {o : Nat} (h : ocl o = none ∧ akd o = 1) : cellM ca ad V L N o = .inl (ca 1, aln o, .inl (V o)) := by
  unfold cellM; rw [h.1]; simp [h.2]
theorem cell_ref {ca : Nat → ClassId} {ad : Nat → Nat} {V : VV} {L : LL} {N : NN} {o : Nat} (h : ocl o = none ∧ akd o = 2) : cellM ca ad V L N o = .inl (ca 2, 6, .inr (.inr (.inr (.inr (fun k => if N k = true then none else some (ad (40 + 20 * k))))))) := by
  unfold cellM; rw [h.1]; simp [h.2]
theorem fvM_up {ad : Nat → Nat} {V V' : VV} {L L' : LL} {i ci : Nat} (h : V' i = V i) (h2 : L' i = L i) : fvM ad V' L' i ci = fvM ad V L i ci := by
  funext k; unfold fvM; rw [h, h2]
theorem cell_same {ca : Nat → ClassId} {ad : Nat → Nat} {V V' : VV} {L L' : LL} {N : NN} {i : Nat} (h : V' i = V i) (h2 : L' i = L i) : cellM ca ad V' L' N i = cellM ca ad V L N i := by
  unfold cellM; rw [h, h2]; simp only [fvM_up h h2]
theorem cell_set {ca : Nat → ClassId} {ad : Nat → Nat} {V : VV} {L : LL} {N : NN} {o ci k : Nat} {x : Int32} (h : ocl o = some ci) (hr : fref ci o k = none) (hw : flong ci k = false) : cellM ca ad (up V o k x) L N o = .inr (ci, ((List.range (nfl ci)).map (fvM ad V L o ci)).set k (.int x)) := by
  rw [cell_obj h]
  refine congrArg (fun l => (Sum.inr (ci, l) : va_E)) ?_
  apply List.ext_getElem?
  intro j
  by_cases hj : j = k
  · subst hj
    by_cases hl : j < nfl ci
    · rw [List.getElem?_set_self (by simpa using hl)]
      simp [hl, fvM, hr, hw, up]
    · rw [List.getElem?_eq_none (by simpa using hl), List.getElem?_eq_none (by simpa using hl)]
  · rw [List.getElem?_set_ne (Ne.symm hj)]
    simp only [List.getElem?_map]
    cases hq : (List.range (nfl ci))[j]? with
    | none => rfl
    | some z =>
      have hz : z = j := by
        have h1 := List.getElem?_eq_some_iff.mp hq
        obtain ⟨h2, h3⟩ := h1
        simpa using h3.symm
      subst hz
      simp [fvM, up, hj]
theorem cl_words : ∀ q ∈ vwCl, ∀ w ∈ u_ws q.1 q.2.1 q.2.2, w ∈ U0 := by
  have h : ∀ q ∈ vwCl, ∀ w ∈ u_ws q.1 q.2.1 q.2.2, w ∈ lw_tbl ∧ goodWord w = true := by decide +kernel
  exact fun q hq w hw => List.mem_filter.mpr (h q hq w hw)
/-- a field: by whom and by which number of the pool it is named, its class' number, its place -/
def FLk (own : String) (idx ci k : Nat) : Prop := ∃ (Cn : String) (T : u_T), vwCl[ci]? = some (Cn, T, nfl ci) ∧ k < nfl ci ∧ Cond.fieldLink own idx (T k).1 (T k).2.1 (T k).2.2.1 ∈ U0
def tyOf (ci : Nat) : Nat → FieldType := if ci = 0 then tyX0 else if ci = 1 then tyX0 else if ci = 2 then tyX2 else if ci = 3 then tyX3 else if ci = 4 then tyX4 else if ci = 5 then tyX5 else if ci = 6 then tyX6 else tyX0
theorem cl_ty {ci : Nat} {Cn : String} {T : u_T} {n : Nat} (h : vwCl[ci]? = some (Cn, T, n)) : (∀ k, k < n → parseFieldDescriptor (T k).2.2.1 = some (tyOf ci k)) ∧ (∀ a, a < n → ∀ b, b < n → a ≠ b → (T a).2.1 ≠ (T b).2.1) := by
  match ci, h with
  | 0, h => cases h; exact ⟨tyX0_ok, nmX0⟩
  | 1, h => cases h; exact ⟨tyX0_ok, nmX0⟩
  | 2, h => cases h; exact ⟨tyX2_ok, nmX2⟩
  | 3, h => cases h; exact ⟨tyX3_ok, nmX3⟩
  | 4, h => cases h; exact ⟨tyX4_ok, nmX4⟩
  | 5, h => cases h; exact ⟨tyX5_ok, nmX5⟩
  | 6, h => cases h; exact ⟨tyX6_ok, nmX6⟩
  | 7, h => cases h; exact ⟨tyX0_ok, nmX0⟩
  | k + 8, h => simp [vwCl] at h
/-- .. that is written after the making: its type -/
def FPk (own : String) (idx ci k : Nat) (ty : FieldType) : Prop := ∃ (Cn : String) (T : u_T), vwCl[ci]? = some (Cn, T, nfl ci) ∧ k < nfl ci ∧ Cond.fieldLink own idx (T k).1 (T k).2.1 (T k).2.2.1 ∈ U0 ∧ (T k).2.2.2 = false ∧ parseFieldDescriptor (T k).2.2.1 = some ty
section
variable {E : EE} {own : String} {cc : ByteArray} {ret : Option FieldType} {nL D MC MS pc : Nat} {ls : zLS} {st : List AV} {V : VV} {L : LL} {N : NN} {I : List Nat} {a b : Nat}
theorem x_getf (C : OK E own cc nL ret D MC MS) {idx ci k o : Nat} (f : FLk own idx ci k) (d : decode cc pc = .ok (.getfield idx, 3)) (hi : o ∈ I) (ho : ocl o = some ci) (y : AV) (hy : ∀ ad, fvM ad V L o ci k = en ad y) (K : Wx E (pc + 3) ls (y :: st) V L N I a b) : Wx E pc ls (aR o :: st) V L N I a b := by
  intro ad H locs lsa hP hD hS ha hl
  obtain ⟨Cn, T, hc, hk, hw⟩ := f
  obtain ⟨q, hq⟩ := List.getElem?_of_mem hi
  have he := ws_at (ca := eK E) (ad := ad) (V := V) (L := L) (N := N) hq
  rw [cell_obj ho] at he
  refine va_get C.1 C.2.1 C.2.2.2.2.1 (cl_words _ (List.mem_of_getElem? hc)) C.2.2.2.1 C.2.2.2.2.2.1 hP q he hc k hk (C.2.2.2.2.1 _ hw) (fun x h => h) (v := en ad y) ?_ d ?_
  · rw [List.getElem?_map]
    simp [hk, hy ad]
  · exact K ad H locs lsa hP hD hS ha hl
theorem x_getI (C : OK E own cc nL ret D MC MS) {idx ci k o : Nat} (f : FLk own idx ci k) (d : decode cc pc = .ok (.getfield idx, 3)) (hi : o ∈ I) (h : ocl o = some ci ∧ fref ci o k = none ∧ flong ci k = false) (K : Wx E (pc + 3) ls (aI (V o k) :: st) V L N I a b) : Wx E pc ls (aR o :: st) V L N I a b :=
  x_getf C f d hi h.1 _ (fun ad => by unfold fvM; rw [h.2.1]; simp [h.2.2, en]) K
theorem x_getR (C : OK E own cc nL ret D MC MS) {idx ci k o j : Nat} (f : FLk own idx ci k) (d : decode cc pc = .ok (.getfield idx, 3)) (hi : o ∈ I) (h : ocl o = some ci ∧ fref ci o k = some j) (K : Wx E (pc + 3) ls (aR j :: st) V L N I a b) : Wx E pc ls (aR o :: st) V L N I a b :=
  x_getf C f d hi h.1 _ (fun ad => by unfold fvM; rw [h.2]; rfl) K
theorem x_putI (C : OK E own cc nL ret D MC MS) {idx ci k o : Nat} {x : Int32} (f : FPk own idx ci k .int) (d : decode cc pc = .ok (.putfield idx, 3)) (hi : o ∈ I) (h : ocl o = some ci ∧ fref ci o k = none ∧ flong ci k = false) (K : Wx E (pc + 3) ls st (up V o k x) L N I a b) : Wx E pc ls (aI x :: aR o :: st) V L N I a b := by
  intro ad H locs lsa hP hD hS ha hl
  obtain ⟨Cn, T, hc, hk, hw, hfin, hty⟩ := f
  obtain ⟨q, hq⟩ := List.getElem?_of_mem hi
  have he := ws_at (ca := eK E) (ad := ad) (V := V) (L := L) (N := N) hq
  rw [cell_obj h.1] at he
  refine va_put C.1 C.2.1 C.2.2.2.2.1 (cl_words _ (List.mem_of_getElem? hc)) (tyOf ci) (cl_ty hc).1 (cl_ty hc).2 C.2.2.2.1 C.2.2.2.2.2.1 hP hD hS q he hc k hk (C.2.2.2.2.1 _ hw) (fun x h => h) hfin hty rfl rfl (by simpa using hk) d (fun H1 locs1 hP1 hD1 hS1 => ?_)
  rw [show en ad (aI x) = Value.int x from rfl] at hP1 hD1
  rw [ws_set hD hq (cell_set h.1 h.2.1 h.2.2) (fun i hi => cell_same (up_nf hi) rfl)] at hP1 hD1
  exact K ad H1 locs1 lsa hP1 hD1 hS1 ha hl
theorem x_iald (C : OK E own cc nL ret D MC MS) {o j : Nat} (d : decode cc pc = .ok (.iaload, 1)) (hi : o ∈ I) (h : ocl o = none ∧ akd o = 0) (hj : j < aln o) (hl31 : aln o < 2 ^ 31) (K : Wx E (pc + 1) ls (aI (V o j) :: st) V L N I a b) : Wx E pc ls (aI (nI j) :: aR o :: st) V L N I a b := by
  intro ad H locs lsa hP hD hS ha hl
  obtain ⟨q, hq⟩ := List.getElem?_of_mem hi
  have he := ws_at (ca := eK E) (ad := ad) (V := V) (L := L) (N := N) hq
  rw [cell_int h] at he
  refine va_iald C.1 C.2.1 C.2.2.2.2.2.1 hP q 0 he rfl (vp_in_nI hj hl31) d ?_
  rw [nI_clamp (by omega)]
  exact K ad H locs lsa hP hD hS ha hl
theorem x_zald (C : OK E own cc nL ret D MC MS) {o j : Nat} (d : decode cc pc = .ok (.baload, 1)) (hi : o ∈ I) (h : ocl o = none ∧ akd o = 1) (hj : j < aln o) (hl31 : aln o < 2 ^ 31) (K : Wx E (pc + 1) ls (aI (V o j) :: st) V L N I a b) : Wx E pc ls (aI (nI j) :: aR o :: st) V L N I a b := by
  intro ad H locs lsa hP hD hS ha hl
  obtain ⟨q, hq⟩ := List.getElem?_of_mem hi
  have he := ws_at (ca := eK E) (ad := ad) (V := V) (L := L) (N := N) hq
  rw [cell_bool h] at he
  refine va_zald C.1 C.2.1 C.2.2.2.2.2.1 hP q 1 he rfl (vp_in_nI hj hl31) d ?_
  rw [nI_clamp (by omega)]
  exact K ad H locs lsa hP hD hS ha hl
theorem up_arr {V : VV} {o j : Nat} {x : Int32} : up V o j x o = upd (V o) j x := by
  funext i; simp [up, upd]
theorem x_iast (C : OK E own cc nL ret D MC MS) {o j : Nat} {x : Int32} (d : decode cc pc = .ok (.iastore, 1)) (hi : o ∈ I) (h : ocl o = none ∧ akd o = 0) (hj : j < aln o) (hl31 : aln o < 2 ^ 31) (K : Wx E (pc + 1) ls st (up V o j x) L N I a b) : Wx E pc ls (aI x :: aI (nI j) :: aR o :: st) V L N I a b := by
  intro ad H locs lsa hP hD hS ha hl
  obtain ⟨q, hq⟩ := List.getElem?_of_mem hi
  have he := ws_at (ca := eK E) (ad := ad) (V := V) (L := L) (N := N) hq
  rw [cell_int h] at he
  refine va_iast C.1 C.2.1 C.2.2.2.2.2.1 hP hD hS q 0 he rfl (vp_in_nI hj hl31) d (fun H1 locs1 hP1 hD1 hS1 => ?_)
  rw [nI_clamp (by omega)] at hP1 hD1
  rw [ws_set (V' := up V o j x) (L' := L) (N' := N) hD hq (by rw [cell_int h, up_arr]) (fun i hi => cell_same (up_nf hi) rfl)] at hP1 hD1
  exact K ad H1 locs1 lsa hP1 hD1 hS1 ha hl
theorem x_zast (C : OK E own cc nL ret D MC MS) {o j : Nat} {x : Int32} (d : decode cc pc = .ok (.bastore, 1)) (hx : vp_nar .boolean x = x) (hi : o ∈ I) (h : ocl o = none ∧ akd o = 1) (hj : j < aln o) (hl31 : aln o < 2 ^ 31) (K : Wx E (pc + 1) ls st (up V o j x) L N I a b) : Wx E pc ls (aI x :: aI (nI j) :: aR o :: st) V L N I a b := by
  intro ad H locs lsa hP hD hS ha hl
  obtain ⟨q, hq⟩ := List.getElem?_of_mem hi
  have he := ws_at (ca := eK E) (ad := ad) (V := V) (L := L) (N := N) hq
  rw [cell_bool h] at he
  refine va_zast C.1 C.2.1 C.2.2.2.2.2.1 hP hD hS q 1 he rfl (vp_in_nI hj hl31) d (fun H1 locs1 hP1 hD1 hS1 => ?_)
  rw [nI_clamp (by omega), hx] at hP1 hD1
  rw [ws_set (V' := up V o j x) (L' := L) (N' := N) hD hq (by rw [cell_bool h, up_arr]) (fun i hi => cell_same (up_nf hi) rfl)] at hP1 hD1
  exact K ad H1 locs1 lsa hP1 hD1 hS1 ha hl
theorem x_aald (C : OK E own cc nL ret D MC MS) {j : Nat} (d : decode cc pc = .ok (.aaload, 1)) (hi : 2 ∈ I) (hj : j < 6) (kn : N j = true → Wx E (pc + 1) ls (.inl .null :: st) V L N I a b) (kr : N j = false → Wx E (pc + 1) ls (aR (40 + 20 * j) :: st) V L N I a b) : Wx E pc ls (aI (nI j) :: aR 2 :: st) V L N I a b := by
  intro ad H locs lsa hP hD hS ha hl
  obtain ⟨q, hq⟩ := List.getElem?_of_mem hi
  have he := ws_at (ca := eK E) (ad := ad) (V := V) (L := L) (N := N) hq
  rw [cell_ref ⟨rfl, rfl⟩] at he
  refine va_aldq C.1 C.2.1 C.2.2.2.2.2.1 hP q 2 he rfl (vp_in_nI hj (by decide)) d ?_
  rw [nI_clamp (by omega)]
  cases hN : N j with
  | true =>
    simp only [if_true, va_rf]
    exact kn hN ad H locs lsa hP hD hS ha hl
  | false =>
    simp only [Bool.false_eq_true, if_false, va_rf]
    exact kr hN ad H locs lsa hP hD hS ha hl
theorem x_aast (C : OK E own cc nL ret D MC MS) {j : Nat} (d : decode cc pc = .ok (.aastore, 1)) (hi : 2 ∈ I) (hk : 40 + 20 * j ∈ I) (hj : j < 6) (K : Wx E (pc + 1) ls st V L (fun k => if k = j then false else N k) I a b) : Wx E pc ls (aR (40 + 20 * j) :: aI (nI j) :: aR 2 :: st) V L N I a b := by
  intro ad H locs lsa hP hD hS ha hl
  obtain ⟨q, hq⟩ := List.getElem?_of_mem hi
  have he := ws_at (ca := eK E) (ad := ad) (V := V) (L := L) (N := N) hq
  rw [cell_ref ⟨rfl, rfl⟩] at he
  obtain ⟨q2, hq2⟩ := List.getElem?_of_mem hk
  have he2 := ws_at (ca := eK E) (ad := ad) (V := V) (L := L) (N := N) hq2
  have ho : ocl (40 + 20 * j) = some 3 := by unfold ocl; rw [if_pos (by omega)]
  rw [cell_obj ho] at he2
  refine va_astq C.1 C.2.1 C.2.2.2.2.2.1 hP hD hS q 2 q2 3 he rfl he2 rfl (vp_in_nI hj (by decide)) d (fun H1 locs1 hP1 hD1 hS1 => ?_)
  rw [nI_clamp (by omega)] at hP1 hD1
  rw [ws_set (V' := V) (L' := L) (N' := fun k => if k = j then false else N k) hD hq (by
      rw [cell_ref ⟨rfl, rfl⟩]
      refine congrArg (fun f => (Sum.inl (eK E 2, 6, .inr (.inr (.inr (.inr f)))) : va_E)) (funext fun i => ?_)
      by_cases hij : i = j
      · subst hij; simp [va_up]
      · simp [va_up, hij]) (fun i hi => by
      unfold cellM
      cases ocl i with
      | some ci => rfl
      | none => have : ¬ akd i = 2 := by unfold akd; rw [if_neg hi]; (repeat' split) <;> decide
                simp [this])] at hP1 hD1
  exact K ad H1 locs1 lsa hP1 hD1 hS1 ha hl
theorem x_gets (C : OK E own cc nL ret D MC MS) {idx j : Nat} (hj : j < 3) (hw : Cond.fieldLink own idx RX6 (stArr j) "[I" ∈ U0) (d : decode cc pc = .ok (.getstatic idx, 3)) (K : ∀ t, va_T .int t 8 (fun k => .int (stVal j k)) (eF E) (eS E) (eS E).heap → Wx E (pc + 3) ls (aQ t :: st) V L N I a b) : Wx E pc ls st V L N I a b := by
  intro ad H locs lsa hP hD hS ha hl
  obtain ⟨t, h1, h2⟩ := C.2.2.2.2.2.2.2.1.2.2 j hj
  exact va_gets C.1 C.2.1 h1 hS C.2.2.2.1 (C.2.2.2.2.1 _ hw) (fun x h => h) d (K t h2 ad H locs lsa hP hD hS ha hl)
theorem x_tld (C : OK E own cc nL ret D MC MS) {j t i : Nat} (h : va_T .int t 8 (fun k => .int (stVal j k)) (eF E) (eS E) (eS E).heap) (d : decode cc pc = .ok (.iaload, 1)) (hi : i < 8) (K : Wx E (pc + 1) ls (aI (stVal j i) :: st) V L N I a b) : Wx E pc ls (aI (nI i) :: aQ t :: st) V L N I a b := by
  intro ad H locs lsa hP hD hS ha hl
  exact va_ti C.1 C.2.1 h hS (vp_in_nI hi (by decide)) (v := .int (stVal j i)) (by rw [nI_clamp (by omega)]) d (K ad H locs lsa hP hD hS ha hl)
theorem x_ifnonnull (C : OK E own cc nL ret D MC MS) {o : Nat} {off : Int} {tgt : Nat} (d : decode cc pc = .ok (.ifnonnull off, 3)) (ht : (pc : Int) + off = (tgt : Int)) (K : Wx E tgt ls st V L N I a b) : Wx E pc ls (aR o :: st) V L N I a b := by
  intro ad H locs lsa hP hD hS ha hl
  exact lv_ifnonnull C.1 C.2.1 d ht (K ad H locs lsa hP hD hS ha hl)
theorem x_ifnull (C : OK E own cc nL ret D MC MS) {o : Nat} {off : Int} (d : decode cc pc = .ok (.ifnull off, 3)) (K : Wx E (pc + 3) ls st V L N I a b) : Wx E pc ls (aR o :: st) V L N I a b := by
  intro ad H locs lsa hP hD hS ha hl
  exact lv_ifnull C.1 C.2.1 d (K ad H locs lsa hP hD hS ha hl)
theorem x_ifnonnullN (C : OK E own cc nL ret D MC MS) {off : Int} (d : decode cc pc = .ok (.ifnonnull off, 3)) (K : Wx E (pc + 3) ls st V L N I a b) : Wx E pc ls (.inl .null :: st) V L N I a b := by
  intro ad H locs lsa hP hD hS ha hl
  exact lv_ifnonnullN C.1 C.2.1 d (K ad H locs lsa hP hD hS ha hl)
end
