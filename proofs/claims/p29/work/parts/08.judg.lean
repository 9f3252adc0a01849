abbrev EE : Type := Program × Launch × Env × Room × State × MethodId × Array Value × List Frame × Method × Code × (State → Prop) × ((Nat → ClassId) × (Nat → Nat → Nat)) × (Nat → ClassId) × (Nat → Nat) × (Nat → Prop) × Nat × (Nat → Prop)
abbrev eP (E : EE) : Program := E.1
abbrev eL (E : EE) : Launch := E.2.1
abbrev eE (E : EE) : Env := E.2.2.1
abbrev eR (E : EE) : Room := E.2.2.2.1
abbrev eS (E : EE) : State := E.2.2.2.2.1
abbrev eM (E : EE) : MethodId := E.2.2.2.2.2.1
abbrev eX (E : EE) : Array Value := E.2.2.2.2.2.2.1
abbrev eB (E : EE) : List Frame := E.2.2.2.2.2.2.2.1
abbrev eT (E : EE) : Method := E.2.2.2.2.2.2.2.2.1
abbrev eC (E : EE) : Code := E.2.2.2.2.2.2.2.2.2.1
abbrev eQ (E : EE) : State → Prop := E.2.2.2.2.2.2.2.2.2.2.1
abbrev eD (E : EE) : (Nat → ClassId) × (Nat → Nat → Nat) := E.2.2.2.2.2.2.2.2.2.2.2.1
abbrev eK (E : EE) : Nat → ClassId := E.2.2.2.2.2.2.2.2.2.2.2.2.1
abbrev eA (E : EE) : Nat → Nat := E.2.2.2.2.2.2.2.2.2.2.2.2.2.1
abbrev eF (E : EE) : Nat → Prop := E.2.2.2.2.2.2.2.2.2.2.2.2.2.2.1
abbrev eN (E : EE) : Nat := E.2.2.2.2.2.2.2.2.2.2.2.2.2.2.2.1
abbrev eI (E : EE) : Nat → Prop := E.2.2.2.2.2.2.2.2.2.2.2.2.2.2.2.2
abbrev zLS : Type := List (Option AV)
/-- the locals -/
def LH (lsa : Array Slot) (nL : Nat) (ad : Nat → Nat) (ls : zLS) : Prop := lsa.size = nL ∧ lv_wf lsa ∧ ∀ (k : Nat) (v : AV), ls[k]? = some (some v) → lsa[k]? = some (.val (en ad v))
def toL (ad : Nat → Nat) (ls : zLS) : List (Nat × Value) := (List.range ls.length).filterMap (fun k => (ls[k]?.getD none).map (fun v => (k, en ad v)))
theorem toL_mem {ad : Nat → Nat} {ls : zLS} {k : Nat} {v : AV} (h : ls[k]? = some (some v)) : (k, en ad v) ∈ toL ad ls := by
  refine List.mem_filterMap.mpr ⟨k, List.mem_range.mpr (List.getElem?_eq_some_iff.mp h).1, ?_⟩
  simp [h]
theorem toL_of {ad : Nat → Nat} {ls : zLS} {q : Nat × Value} (h : q ∈ toL ad ls) : ∃ v, ls[q.1]? = some (some v) ∧ q.2 = en ad v := by
  obtain ⟨k, hk, he⟩ := List.mem_filterMap.mp h
  have hl := List.mem_range.mp hk
  cases ho : ls[k]? with
  | none => rw [List.getElem?_eq_none_iff] at ho; omega
  | some o =>
    cases o with
    | none => simp [ho] at he
    | some v =>
      simp only [ho, Option.getD_some, Option.map_some, Option.some.injEq] at he
      subst he
      exact ⟨v, ho, rfl⟩
theorem LH.has {lsa : Array Slot} {nL : Nat} {ad : Nat → Nat} {ls : zLS} (h : LH lsa nL ad ls) : lv_has lsa nL (toL ad ls) := by
  refine ⟨h.1, h.2.1, fun q hq => ?_⟩
  obtain ⟨v, h1, h2⟩ := toL_of hq
  rw [h2]
  exact h.2.2 _ _ h1
def isW : AV → Bool
  | .inl (.long _) => true
  | .inl (.double _) => true
  | _ => false
theorem isW_cat {ad : Nat → Nat} {v : AV} : (en ad v).category = 2 ↔ isW v = true := by
  cases v with
  | inr i => simp [en, isW, Value.category]
  | inl v => cases v <;> simp [en, isW, Value.category]
/-- a long at i - 1 goes when something is written at i -/
def killL (ls : zLS) (i : Nat) : zLS := match i with
  | 0 => ls
  | j + 1 => match ls[j]? with
    | some (some v) => if isW v = true then ls.set j none else ls
    | _ => ls
def st1 (ls : zLS) (i : Nat) (v : AV) : zLS := (killL ls i).set i (some v)
def st2 (ls : zLS) (i : Nat) (v : AV) : zLS := ((killL ls i).set i (some v)).set (i + 1) none
theorem killL_get {ls : zLS} {i k : Nat} {v : AV} (h : (killL ls i)[k]? = some (some v)) : ls[k]? = some (some v) ∧ ¬ (k + 1 = i ∧ isW v = true) := by
  unfold killL at h
  split at h
  · exact ⟨h, fun q => by omega⟩
  · rename_i j
    split at h
    · rename_i w hw
      split at h
      · rename_i hW
        by_cases hkj : k = j
        · subst hkj
          rw [List.getElem?_set_self (List.getElem?_eq_some_iff.mp hw).1] at h
          cases h
        · rw [List.getElem?_set_ne (Ne.symm hkj)] at h
          exact ⟨h, fun q => hkj (by omega)⟩
      · rename_i hW
        refine ⟨h, fun q => ?_⟩
        have : k = j := by omega
        subst this
        rw [hw] at h
        cases h
        exact hW q.2
    · rename_i hn
      refine ⟨h, fun q => ?_⟩
      have : k = j := by omega
      subst this
      exact hn v h
theorem LH_st1 {ls' : Array Slot} {nL i : Nat} {ad : Nat → Nat} {ls : zLS} {v : AV} {lv' : List (Nat × Value)} (hl : (i, en ad v) :: (toL ad ls).filter (fun q => !(q.1 == i) && !(q.1 + 1 == i && q.2.category == 2)) = lv') (h' : lv_has ls' nL lv') : LH ls' nL ad (st1 ls i v) := by
  subst hl
  refine ⟨h'.1, h'.2.1, fun k w hk => ?_⟩
  unfold st1 at hk
  by_cases hki : k = i
  · subst hki
    have hlt : k < (killL ls k).length := by
      have := (List.getElem?_eq_some_iff.mp hk).1
      simpa using this
    rw [List.getElem?_set_self hlt] at hk
    cases hk
    exact h'.2.2 _ List.mem_cons_self
  · rw [List.getElem?_set_ne (Ne.symm hki)] at hk
    obtain ⟨h1, h2⟩ := killL_get hk
    refine h'.2.2 (k, en ad w) (List.mem_cons_of_mem _ (List.mem_filter.mpr ⟨toL_mem h1, ?_⟩))
    have h3 : ¬ (k + 1 = i ∧ (en ad w).category = 2) := fun q => h2 ⟨q.1, isW_cat.mp q.2⟩
    simp only [Bool.and_eq_true, Bool.not_eq_true', beq_eq_false_iff_ne, ne_eq, Bool.and_eq_false_iff]
    refine ⟨hki, ?_⟩
    by_cases hq : k + 1 = i
    · exact Or.inr fun q => h3 ⟨hq, q⟩
    · exact Or.inl hq
theorem LH_st2 {ls' : Array Slot} {nL i : Nat} {ad : Nat → Nat} {ls : zLS} {v : AV} {lv' : List (Nat × Value)} (hl : (i, en ad v) :: (toL ad ls).filter (fun q => !(q.1 == i) && (!(q.1 == i + 1) && !(q.1 + 1 == i && q.2.category == 2))) = lv') (h' : lv_has ls' nL lv') : LH ls' nL ad (st2 ls i v) := by
  subst hl
  refine ⟨h'.1, h'.2.1, fun k w hk => ?_⟩
  unfold st2 at hk
  by_cases hk1 : k = i + 1
  · subst hk1
    have hlt := (List.getElem?_eq_some_iff.mp hk).1
    rw [List.getElem?_set_self (by simpa using hlt)] at hk
    cases hk
  · rw [List.getElem?_set_ne (Ne.symm hk1)] at hk
    by_cases hki : k = i
    · subst hki
      have hlt : k < (killL ls k).length := by
        have := (List.getElem?_eq_some_iff.mp hk).1
        simpa using this
      rw [List.getElem?_set_self hlt] at hk
      cases hk
      exact h'.2.2 _ List.mem_cons_self
    · rw [List.getElem?_set_ne (Ne.symm hki)] at hk
      obtain ⟨h1, h2⟩ := killL_get hk
      refine h'.2.2 (k, en ad w) (List.mem_cons_of_mem _ (List.mem_filter.mpr ⟨toL_mem h1, ?_⟩))
      have h3 : ¬ (k + 1 = i ∧ (en ad w).category = 2) := fun q => h2 ⟨q.1, isW_cat.mp q.2⟩
      simp only [Bool.and_eq_true, Bool.not_eq_true', beq_eq_false_iff_ne, ne_eq, Bool.and_eq_false_iff]
      refine ⟨hki, hk1, ?_⟩
      by_cases hq : k + 1 = i
      · exact Or.inr fun q => h3 ⟨hq, q⟩
      · exact Or.inl hq
def Wx (E : EE) (pc : Nat) (ls : zLS) (st : List AV) (V : VV) (L : LL) (N : NN) (I : List Nat) (a b : Nat) : Prop :=
  ∀ (ad : Nat → Nat) (H : Heap) (locs : List Loc) (lsa : Array Slot), va_P (eD E) vwCl (wsM (eK E) ad V L N I) H → va_D (eF E) (wsM (eK E) ad V L N I) → va_S (eF E) (eS E).heap H locs → ((∀ i, eI E i → ad i = eA E i) ∧ ∀ i, eI E i → dyn i = false ∨ i ∈ I) → LH lsa (eN E) ad ls →
    W (eP E) (eL E) (eE E) (eR E) (eS E) (eM E) (eX E) (eB E) (eT E) (eC E) H locs a b (eQ E) (F0 (eM E) pc lsa (st.map (en ad)))
/-- what stands for a whole method: its class, its bytes, its level, its room -/
def OK (E : EE) (own : String) (cc : ByteArray) (nL : Nat) (ret : Option FieldType) (D MC MS : Nat) : Prop :=
  (eP E).tables.exec = Jvm.exec ∧ (eC E).code = cc ∧ (eC E).maxLocals = eN E ∧ (eS E).vm.findClass own = some (eM E).cls ∧ (∀ w ∈ U0, w.before (eX E) (eS E) = true) ∧ va_K (eD E) vwCl (tyM (eK E)) (eS E) ∧ (∀ q, (eS E).heap.size ≤ q → eF E q) ∧
  StA (eF E) (eS E) (eS E).heap ∧ Gl (eS E) ∧ (eT E).locks = false ∧ (eL E).stackTraces = false ∧ D ≤ (eR E).frames ∧ 28 * D + 12 ≤ (eR E).locals ∧ MC ≤ (eR E).cells ∧ MS ≤ (eR E).slots ∧ eN E = nL ∧ (eT E).sig.returnType = ret
theorem OK.nl {E : EE} {own : String} {cc : ByteArray} {nL : Nat} {ret : Option FieldType} {D MC MS : Nat} (C : OK E own cc nL ret D MC MS) : eN E = nL := C.2.2.2.2.2.2.2.2.2.2.2.2.2.2.2.1
theorem OK.rt {E : EE} {own : String} {cc : ByteArray} {nL : Nat} {ret : Option FieldType} {D MC MS : Nat} (C : OK E own cc nL ret D MC MS) : (eT E).sig.returnType = ret := C.2.2.2.2.2.2.2.2.2.2.2.2.2.2.2.2
/-- how a method ends: with a value or none, or with an exception of a class -/
abbrev RR : Type := (Option AV) ⊕ String
abbrev PP : Type := RR → VV → LL → NN → List Nat → Prop
def rmD (D mc ms : Nat) : Room := { frames := D, cells := mc, slots := ms, locals := 28 * D + 12 }
def PreM (d : (Nat → ClassId) × (Nat → Nat → Nat)) (ca : Nat → ClassId) (ad : Nat → Nat) (V : VV) (L : LL) (N : NN) (I : List Nat) (sz : Nat) (U : State) : Prop :=
  U.heap.size = sz ∧ va_P d vwCl (wsM ca ad V L N I) U.heap ∧ va_K d vwCl (tyM ca) U ∧ va_D (fun _ => True) (wsM ca ad V L N I) ∧ StA (va_A (wsM ca ad V L N I) sz) U U.heap ∧ Gl U
def EndM (A : Nat → Prop) (d : (Nat → ClassId) × (Nat → Nat → Nat)) (ca : Nat → ClassId) (ad : Nat → Nat) (I0 : List Nat) (Post : PP) (r : RR) (ad1 : Nat → Nat) (t : State) : Prop :=
  ∃ (V : VV) (L : LL) (N : NN) (I : List Nat), Post r V L N I ∧ ((∀ i, dyn i = false ∨ i ∈ I0 → ad1 i = ad i) ∧ ∀ i, i ∈ I0 → dyn i = false ∨ i ∈ I) ∧ va_P d vwCl (wsM ca ad1 V L N I) t.heap ∧ va_D A (wsM ca ad1 V L N I)
def RetM (A : Nat → Prop) (d : (Nat → ClassId) × (Nat → Nat → Nat)) (ca : Nat → ClassId) (ad : Nat → Nat) (I0 : List Nat) (Post : PP) : Array Value → State → Outcome → State → Prop := fun _ st o t =>
  (∃ (r : Option AV) (ad1 : Nat → Nat), o = .returned (r.map (en ad1)) ∧ EndM A d ca ad I0 Post (.inl r) ad1 t) ∧ va_F A st t
def ThrM (A : Nat → Prop) (d : (Nat → ClassId) × (Nat → Nat → Nat)) (ca : Nat → ClassId) (ad : Nat → Nat) (I0 : List Nat) (Post : PP) : String → State → State → Prop := fun X st t =>
  (∃ ad1 : Nat → Nat, EndM A d ca ad I0 Post (.inr X) ad1 t) ∧ va_F A st t
/-- THE CONTRACT: the method y (its code word w0), at level D, called with args in this memory, ends as Post says -/
def Runs (l : Launch) (D mc ms : Nat) (y : MethodName) (w0 : Cond) (args : List AV) (V : VV) (L : LL) (N : NN) (I : List Nat) (Post : PP) : Prop :=
  l.stackTraces = false → ∀ (d : (Nat → ClassId) × (Nat → Nat → Nat)) (ca : Nat → ClassId) (ad : Nat → Nat) (sz : Nat),
    vx_Met l y (w0 :: U0) (rmD D mc ms) (va_Pc (args.map (en ad)) (PreM d ca ad V L N I sz)) (RetM (va_A (wsM ca ad V L N I) sz) d ca ad I Post) (ThrM (va_A (wsM ca ad V L N I) sz) d ca ad I Post) mc ms (va_A (wsM ca ad V L N I) sz)
