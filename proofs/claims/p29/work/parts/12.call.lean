/-- references among values are to ids that the callee keeps -/
def okS (I : List Nat) : List AV → Prop
  | [] => True
  | .inr i :: r => (dyn i = false ∨ i ∈ I) ∧ okS I r
  | .inl _ :: r => okS I r
def okL (I : List Nat) : zLS → Prop
  | [] => True
  | some (.inr i) :: r => (dyn i = false ∨ i ∈ I) ∧ okL I r
  | some (.inl _) :: r => okL I r
  | none :: r => okL I r
/-- .. by the numbers alone -/
def ndS : List AV → Bool
  | [] => true
  | .inr i :: r => !dyn i && ndS r
  | .inl _ :: r => ndS r
def ndL : zLS → Bool
  | [] => true
  | some (.inr i) :: r => !dyn i && ndL r
  | some (.inl _) :: r => ndL r
  | none :: r => ndL r
theorem okS_nd {I : List Nat} : ∀ {st : List AV}, ndS st = true → okS I st
  | [], _ => trivial
  | .inr i :: r, h => by
    simp only [ndS, Bool.and_eq_true, Bool.not_eq_true'] at h
    exact ⟨Or.inl h.1, okS_nd h.2⟩
  | .inl _ :: r, h => okS_nd (st := r) h
theorem okL_nd {I : List Nat} : ∀ {ls : zLS}, ndL ls = true → okL I ls
  | [], _ => trivial
  | some (.inr i) :: r, h => by
    simp only [ndL, Bool.and_eq_true, Bool.not_eq_true'] at h
    exact ⟨Or.inl h.1, okL_nd h.2⟩
  | some (.inl _) :: r, h => okL_nd (ls := r) h
  | none :: r, h => okL_nd (ls := r) h
theorem okS_en {I : List Nat} {ad ad1 : Nat → Nat} (h1 : ∀ i, dyn i = false ∨ i ∈ I → ad1 i = ad i) : ∀ {st : List AV}, okS I st → st.map (en ad1) = st.map (en ad)
  | [], _ => rfl
  | .inr i :: r, h => by
    simp only [List.map_cons, okS_en h1 h.2]
    simp only [en, h1 i h.1]
  | .inl _ :: r, h => by
    simp only [List.map_cons, okS_en h1 (st := r) h]
    rfl
theorem okL_get {I : List Nat} : ∀ {ls : zLS}, okL I ls → ∀ (k i : Nat), ls[k]? = some (some (.inr i)) → dyn i = false ∨ i ∈ I
  | [], _, k, i, hk => by simp at hk
  | some (.inr j) :: r, h, k, i, hk => by
    cases k with
    | zero => simp at hk; subst hk; exact h.1
    | succ k => exact okL_get h.2 k i (by simpa using hk)
  | some (.inl _) :: r, h, k, i, hk => by
    cases k with
    | zero => simp at hk
    | succ k => exact okL_get (ls := r) h k i (by simpa using hk)
  | none :: r, h, k, i, hk => by
    cases k with
    | zero => simp at hk
    | succ k => exact okL_get (ls := r) h k i (by simpa using hk)
theorem okL_en {I : List Nat} {ad ad1 : Nat → Nat} {lsa : Array Slot} {nL : Nat} {ls : zLS} (h1 : ∀ i, dyn i = false ∨ i ∈ I → ad1 i = ad i) (hok : okL I ls) (h : LH lsa nL ad ls) : LH lsa nL ad1 ls := by
  refine ⟨h.1, h.2.1, fun k v hk => ?_⟩
  have := h.2.2 k v hk
  cases v with
  | inl v => exact this
  | inr i => rw [show en ad1 (.inr i) = en ad (.inr i) by simp only [en, h1 i (okL_get hok k i hk)]]; exact this
def catS : List AV → Nat
  | [] => 0
  | v :: r => (if isW v = true then 2 else 1) + catS r
theorem catS_en {ad : Nat → Nat} : ∀ {st : List AV}, ((st.map (en ad)).map fun v => v.category).sum = catS st
  | [] => rfl
  | v :: r => by
    simp only [List.map_cons, List.sum_cons, catS_en (st := r), catS]
    by_cases h : isW v = true
    · rw [if_pos h, isW_cat.mpr h]
    · rw [if_neg h]
      rcases lv_cat (en ad v) with q | q
      · rw [q]
      · exact absurd (isW_cat.mp q) h
/-- an exception of the class X stands over the frame -/
def Xx (E : EE) (pc : Nat) (ls : zLS) (st : List AV) (X : String) (V : VV) (L : LL) (N : NN) (I : List Nat) (a b : Nat) : Prop :=
  ∀ (ad : Nat → Nat) (H : Heap) (locs : List Loc) (lsa : Array Slot) (q : Nat) (ce : Cell), va_P (eD E) vwCl (wsM (eK E) ad V L N I) H → va_D (eF E) (wsM (eK E) ad V L N I) → va_S (eF E) (eS E).heap H locs → ((∀ i, eI E i → ad i = eA E i) ∧ ∀ i, eI E i → dyn i = false ∨ i ∈ I) → LH lsa (eN E) ad ls →
    H[q]? = some ce → ce.vm = .none → (eS E).vm.findClass X = some ce.cls →
    vx_W (eP E) (eL E) (eE E) (eR E) (eS E) (eM E) (eX E) (eB E) (eT E) (eC E) H locs a b (eQ E) (F0 (eM E) pc lsa (st.map (en ad))) q
/-- a call's words: by the pool's number idx of own, the method y, its class' number, how many arguments -/
def CVk (own : String) (idx ci n : Nat) (y : MethodName) (cc : ByteArray) (maxL : Nat) (ret : Option FieldType) : Prop :=
  (Cond.methodLink own idx y ∈ U0 ∧ Cond.instanceMethod y ∈ U0 ∧ Cond.selects y.cls y y ∈ U0 ∧ Cond.initialized y.cls ∈ U0 ∧ Cond.code y cc maxL ret ∈ U0) ∧ (∃ (T : u_T) (k : Nat), vwCl[ci]? = some (y.cls, T, k)) ∧ maxL ≤ 9 ∧
  (y.cls ≠ "java/lang/invoke/MethodHandle" ∧ y.cls ≠ "java/lang/invoke/VarHandle" ∧ (parseMethodDescriptor y.desc).map (fun d => d.parameters.length) = some n)
def CSk (own : String) (idx n : Nat) (y : MethodName) (cc : ByteArray) (maxL : Nat) (ret : Option FieldType) : Prop :=
  (Cond.methodLink own idx y ∈ U0 ∧ Cond.static y ∈ U0 ∧ Cond.initialized y.cls ∈ U0 ∧ Cond.code y cc maxL ret ∈ U0) ∧ y.cls = own ∧ maxL ≤ 9 ∧
  (y.cls ≠ "java/lang/invoke/MethodHandle" ∧ y.cls ≠ "java/lang/invoke/VarHandle" ∧ (parseMethodDescriptor y.desc).map (fun d => d.parameters.length) = some n)
def CNk (own : String) (idx n : Nat) (host : String) (y : MethodName) (cc : ByteArray) (maxL : Nat) (ret : Option FieldType) : Prop :=
  (Cond.methodLinkNest own idx y host ∈ tables_1 ∧ Cond.static y ∈ U0 ∧ Cond.initialized y.cls ∈ U0 ∧ Cond.code y cc maxL ret ∈ U0) ∧ maxL ≤ 9 ∧
  (y.cls ≠ "java/lang/invoke/MethodHandle" ∧ y.cls ≠ "java/lang/invoke/VarHandle" ∧ (parseMethodDescriptor y.desc).map (fun d => d.parameters.length) = some n)
theorem u0_call {w0 : Cond} (h : w0 ∈ U0) : GoodIn U0 (w0 :: U0) := fun w hw => by
  rcases List.mem_cons.mp hw with e | e
  · exact ⟨e ▸ h, u0_good (e ▸ h)⟩
  · exact ⟨e, u0_good e⟩
theorem u0_app {A B : List Cond} (h1 : ∀ w ∈ A, w ∈ U0) (h2 : GoodIn U0 B) : GoodIn U0 (A ++ B) := fun w hw => by
  rcases List.mem_append.mp hw with e | e
  · exact ⟨h1 w e, u0_good (h1 w e)⟩
  · exact h2 w e
theorem preM_blind {d : (Nat → ClassId) × (Nat → Nat → Nat)} {ca : Nat → ClassId} {ad : Nat → Nat} {V : VV} {L : LL} {N : NN} {I : List Nat} {sz : Nat} {av : List Value} : FrameBlind (va_Pc av (PreM d ca ad V L N I sz)) := by
  intro a U g mk h
  obtain ⟨h1, h2, h3, h4, h5, h6, h7⟩ := h
  have hvm : U.vm.Alike (U.calling g mk a).vm := Vm.Alike.refl U.vm
  have hW : U.WarmedH (U.calling g mk a).vm := State.WarmedH.refl U
  exact ⟨h1, h2, h3, va_K.moved hvm h4, h5, StA.moved hvm h6, Gl.warm hW h7⟩
section
variable {E : EE} {own : String} {cc : ByteArray} {ret : Option FieldType} {nL D MC MS pc : Nat} {ls : zLS} {st : List AV} {V : VV} {L : LL} {N : NN} {I I0 : List Nat} {a b mc ms : Nat} {Post : PP}
/-- what the callee finds -/
theorem pre_call (C : OK E own cc nL ret D MC MS) {ad : Nat → Nat} {H : Heap} {locs : List Loc} (hP : va_P (eD E) vwCl (wsM (eK E) ad V L N I) H) (hD : va_D (eF E) (wsM (eK E) ad V L N I)) (hS : va_S (eF E) (eS E).heap H locs) {U : State} (hU : U.heap = H) (hW : (eS E).WarmedH U.vm) : PreM (eD E) (eK E) ad V L N I H.size U := by
  obtain ⟨-, -, -, -, -, hK, hA, hSt, hG, -⟩ := C
  have hF : ∀ q, va_A (wsM (eK E) ad V L N I) H.size q → eF E q := fun q h => by
    rcases h with ⟨k, e, h⟩ | h
    · exact hD.2 k _ h
    · exact hA q (Nat.le_trans hS.1 h)
  refine ⟨by rw [hU], by rw [hU]; exact hP, va_K.moved hW.alike hK, hD.weaken (fun _ _ _ _ => trivial), ?_, Gl.warm hW hG⟩
  rw [hU]
  exact StA.moved hW.alike (StA.narrow (StA.kept hSt hS.2.1) hF)
/-- behind a call, whatever kind of call it was -/
theorem x_fin (C : OK E own cc nL ret D MC MS) {stk : List AV} {av : Array Value} (hok : okS I st ∧ okL I ls)
    (hr : ∀ (ad : Nat → Nat) (H : Heap) (locs : List Loc) (lsa : Array Slot), va_P (eD E) vwCl (wsM (eK E) ad V L N I) H → va_D (eF E) (wsM (eK E) ad V L N I) → va_S (eF E) (eS E).heap H locs → LH lsa (eN E) ad ls →
      ∃ av, vx_Run (eP E) (eL E) (eE E) (eR E) (eS E) (eM E) (eX E) (eB E) (eT E) (eC E) H locs a b mc ms (F0 (eM E) pc lsa (stk.map (en ad))) (st.map (en ad)) (RetM (va_A (wsM (eK E) ad V L N I) H.size) (eD E) (eK E) ad I Post av) (ThrM (va_A (wsM (eK E) ad V L N I) H.size) (eD E) (eK E) ad I Post) (va_A (wsM (eK E) ad V L N I) H.size))
    (kx : ∀ X V' L' N' I', Post (.inr X) V' L' N' I' → Xx E pc ls st X V' L' N' I' (a + mc) (b + ms))
    (kk : ∀ r V' L' N' I', Post (.inl r) V' L' N' I' → Wx E (pc + 3) ls (r.toList ++ st) V' L' N' I' (a + mc) (b + ms)) : Wx E pc ls stk V L N I a b := by
  intro ad H locs lsa hP hD hS hA hl T hT X
  have hF : ∀ q, va_A (wsM (eK E) ad V L N I) H.size q → eF E q := fun q h => by
    rcases h with ⟨k, e, h⟩ | h
    · exact hD.2 k _ h
    · exact C.2.2.2.2.2.2.1 q (Nat.le_trans hS.1 h)
  obtain ⟨av, hr⟩ := hr ad H locs lsa hP hD hS hl
  rcases hr T hT X with ⟨v, st₀, t, T', L1, h0, X', hL, e1, e2, ⟨⟨r, ad1, hv, V', L', N', I', hp, hk, hP1, hD1⟩, hFr⟩, stp⟩ | ⟨q, st₀, t, T', L1, E1, ce, h0, X', hL, e1, e2, ⟨⟨ad1, V', L', N', I', hp, hk, hP1, hD1⟩, hFr⟩, hce, hcv, hcl, stp⟩
  · obtain ⟨k1, k2, k3⟩ := vx_keep h0 e1 hS (fun q _ h => hF q h) hF hL hFr
    cases hv
    have hkept : (∀ i, eI E i → ad1 i = eA E i) ∧ ∀ i, eI E i → dyn i = false ∨ i ∈ I' := ⟨fun i hi => (hk.1 i (hA.2 i hi)).trans (hA.1 i hi), fun i hi => (hA.2 i hi).elim Or.inl (hk.2 i)⟩
    have kk1 := kk r V' L' N' I' hp ad1 T'.heap (locs ++ L1) lsa (by rw [e1]; exact hP1) (hD1.weaken fun _ _ _ h => hF _ h) k3 hkept (okL_en hk.1 hok.2 hl)
    obtain ⟨t2, a1, b1⟩ := kk1 T' rfl X'
    refine ⟨t2, stp t2 ?_, b1⟩
    have hst : (r.toList ++ st).map (en ad1) = (r.map (en ad1)).toList ++ st.map (en ad) := by
      rw [List.map_append, okS_en hk.1 hok.1]
      cases r <;> rfl
    rw [hst] at a1
    exact a1
  · obtain ⟨k1, k2, k3⟩ := vx_keep h0 e1 hS (fun q _ h => hF q h) hF hL hFr
    have hkept : (∀ i, eI E i → ad1 i = eA E i) ∧ ∀ i, eI E i → dyn i = false ∨ i ∈ I' := ⟨fun i hi => (hk.1 i (hA.2 i hi)).trans (hA.1 i hi), fun i hi => (hA.2 i hi).elim Or.inl (hk.2 i)⟩
    have kx1 := kx E1 V' L' N' I' hp ad1 T'.heap (locs ++ L1) lsa q ce (by rw [e1]; exact hP1) (hD1.weaken fun _ _ _ h => hF _ h) k3 hkept (okL_en hk.1 hok.2 hl) (by rw [e1]; exact hce) hcv hcl
    obtain ⟨t2, a1, b1⟩ := kx1 T' rfl X'
    rw [okS_en hk.1 hok.1] at a1
    exact ⟨t2, stp.trans a1, b1⟩
theorem x_callV (C : OK E own cc nL ret D MC MS) {idx ci n o D1 mL : Nat} {y : MethodName} {c1 : ByteArray} {r1 : Option FieldType} {As : List AV} (w : CVk own idx ci n y c1 mL r1) (d : decode cc pc = .ok (.invokevirtual idx, 3)) (hR : Runs (eL E) D1 mc ms y (Cond.code y c1 mL r1) (aR o :: As) V L N I Post)
    (hi : o ∈ I) (ho : ocl o = some ci) (hn : As.length = n) (hDD : D1 + 1 ≤ D) (hok : okS I st ∧ okL I ls) (hcat : catS st ≤ 8) (hroom : a + mc ≤ MC ∧ b + ms ≤ MS)
    (kx : ∀ X V' L' N' I', Post (.inr X) V' L' N' I' → Xx E pc ls st X V' L' N' I' (a + mc) (b + ms))
    (kk : ∀ r V' L' N' I', Post (.inl r) V' L' N' I' → Wx E (pc + 3) ls (r.toList ++ st) V' L' N' I' (a + mc) (b + ms)) : Wx E pc ls (As.reverse ++ aR o :: st) V L N I a b := by
  refine x_fin C (av := #[]) hok (fun ad H locs lsa hP hD hS hl => ?_) kx kk
  obtain ⟨⟨w1, w2, w3, w4, w5⟩, ⟨T, k, hc⟩, hmL, hy⟩ := w
  obtain ⟨hx, hb, hml, hown, hts, hK, hA, hSt, hG, hlk, hnt, r1, r2, r3, r4, hnl, hrt⟩ := id C
  obtain ⟨q, hq⟩ := List.getElem?_of_mem hi
  have he := ws_at (ca := eK E) (ad := ad) (V := V) (L := L) (N := N) hq
  rw [cell_obj ho] at he
  refine ⟨_, vx_runV (As := As.map (en ad)) (b := ad o) (Ts := U0) (nL := eN E) ⟨hx, hb, hml, hown, hts⟩ (hR hnt (eD E) (eK E) ad H.size) (cwV n hts (u0_app (fun w hw => ?_) (u0_call w5)) rfl rfl rfl ⟨rfl, hy⟩ ?_) ⟨preM_blind, va_recv hK hP hc he, fun U hU hW => ⟨rfl, pre_call C hP hD hS hU hW⟩⟩ rfl (by simp [hn]) hl.1 ?_ ?_ d ⟨Nat.le_trans hroom.1 r3, Nat.le_trans hroom.2 r4⟩⟩
  · simp only [List.mem_cons, List.not_mem_nil, or_false] at hw
    rcases hw with rfl | rfl | rfl | rfl <;> assumption
  · show D1 + 1 ≤ (eR E).frames ∧ 8 + (mL + 11) + (28 * D1 + 12) ≤ (eR E).locals
    omega
  · show List.map (en ad) (As.reverse ++ aR o :: st) = (As.map (en ad)).reverse ++ Value.ref (ad o) :: st.map (en ad)
    rw [List.map_append, List.map_reverse]
    rfl
  · show 2 * 0 + _ ≤ 8
    rw [catS_en]; omega
theorem x_callS (C : OK E own cc nL ret D MC MS) {idx n D1 mL : Nat} {y : MethodName} {c1 : ByteArray} {r1 : Option FieldType} {As : List AV} (w : CSk own idx n y c1 mL r1) (d : decode cc pc = .ok (.invokestatic idx, 3)) (hR : Runs (eL E) D1 mc ms y (Cond.code y c1 mL r1) As V L N I Post)
    (hn : As.length = n) (hDD : D1 + 1 ≤ D) (hok : okS I st ∧ okL I ls) (hcat : catS st ≤ 8) (hroom : a + mc ≤ MC ∧ b + ms ≤ MS)
    (kx : ∀ X V' L' N' I', Post (.inr X) V' L' N' I' → Xx E pc ls st X V' L' N' I' (a + mc) (b + ms))
    (kk : ∀ r V' L' N' I', Post (.inl r) V' L' N' I' → Wx E (pc + 3) ls (r.toList ++ st) V' L' N' I' (a + mc) (b + ms)) : Wx E pc ls (As.reverse ++ st) V L N I a b := by
  refine x_fin C (av := #[]) hok (fun ad H locs lsa hP hD hS hl => ?_) kx kk
  obtain ⟨⟨w1, w2, w4, w5⟩, hyo, hmL, hy⟩ := w
  obtain ⟨hx, hb, hml, hown, hts, hK, hA, hSt, hG, hlk, hnt, r1, r2, r3, r4, hnl, hrt⟩ := id C
  refine ⟨_, vx_runS (As := As.map (en ad)) (Ts := U0) (nL := eN E) ⟨hx, hb, hml, hown, hts⟩ (hR hnt (eD E) (eK E) ad H.size) (cwS n hts (u0_app (fun w hw => ?_) (u0_call w5)) rfl rfl rfl ⟨hyo, hy⟩ ?_) ⟨preM_blind, fun U hU hW => ⟨rfl, pre_call C hP hD hS hU hW⟩⟩ rfl (by simp [hn]) hl.1 ?_ ?_ d ⟨Nat.le_trans hroom.1 r3, Nat.le_trans hroom.2 r4⟩⟩
  · simp only [List.mem_cons, List.not_mem_nil, or_false] at hw
    rcases hw with rfl | rfl | rfl
    · assumption
    · assumption
    · rw [← hyo]; assumption
  · show D1 + 1 ≤ (eR E).frames ∧ 8 + (mL + 11) + (28 * D1 + 12) ≤ (eR E).locals
    omega
  · show List.map (en ad) (As.reverse ++ st) = (As.map (en ad)).reverse ++ st.map (en ad)
    rw [List.map_append, List.map_reverse]
  · show 2 * 0 + _ ≤ 8
    rw [catS_en]; omega
theorem x_callSN (C : OK E own cc nL ret D MC MS) {idx n D1 mL : Nat} {host : String} {y : MethodName} {c1 : ByteArray} {r1 : Option FieldType} {As : List AV} (w : CNk own idx n host y c1 mL r1) (d : decode cc pc = .ok (.invokestatic idx, 3)) (hR : Runs (eL E) D1 mc ms y (Cond.code y c1 mL r1) As V L N I Post)
    (hn : As.length = n) (hDD : D1 + 1 ≤ D) (hok : okS I st ∧ okL I ls) (hcat : catS st ≤ 8) (hroom : a + mc ≤ MC ∧ b + ms ≤ MS)
    (kx : ∀ X V' L' N' I', Post (.inr X) V' L' N' I' → Xx E pc ls st X V' L' N' I' (a + mc) (b + ms))
    (kk : ∀ r V' L' N' I', Post (.inl r) V' L' N' I' → Wx E (pc + 3) ls (r.toList ++ st) V' L' N' I' (a + mc) (b + ms)) : Wx E pc ls (As.reverse ++ st) V L N I a b := by
  refine x_fin C (av := #[]) hok (fun ad H locs lsa hP hD hS hl => ?_) kx kk
  obtain ⟨⟨w1, w2, w4, w5⟩, hmL, hy⟩ := w
  obtain ⟨hx, hb, hml, hown, hts, hK, hA, hSt, hG, hlk, hnt, r1, r2, r3, r4, hnl, hrt⟩ := id C
  refine ⟨_, vx_runSN (As := As.map (en ad)) (Ts := U0) (nL := eN E) ⟨hx, hb, hml, hown, hts⟩ (hR hnt (eD E) (eK E) ad H.size) ⟨va_cnB n hts (u0_call w5) rfl rfl rfl (hG.1 _ w1 rfl) (hts _ w4) hy ?_, hts _ w2, trivial⟩ ⟨preM_blind, fun U hU hW => ⟨rfl, pre_call C hP hD hS hU hW⟩⟩ rfl (by simp [hn]) hl.1 ?_ ?_ d ⟨Nat.le_trans hroom.1 r3, Nat.le_trans hroom.2 r4⟩⟩
  · show D1 + 1 ≤ (eR E).frames ∧ 8 + (mL + 11) + (28 * D1 + 12) ≤ (eR E).locals
    omega
  · show List.map (en ad) (As.reverse ++ st) = (As.map (en ad)).reverse ++ st.map (en ad)
    rw [List.map_append, List.map_reverse]
  · show 2 * 0 + _ ≤ 8
    rw [catS_en]; omega
/-- a contract that says exactly how it ends -/
def Is (r : Option AV) (V : VV) (L : LL) (N : NN) (I : List Nat) : PP := fun r1 V1 L1 N1 I1 => r1 = .inl r ∧ V1 = V ∧ L1 = L ∧ N1 = N ∧ I1 = I
theorem x_callV1 (C : OK E own cc nL ret D MC MS) {idx ci n o D1 mL : Nat} {y : MethodName} {c1 : ByteArray} {r1 : Option FieldType} {As : List AV} {r : Option AV} {V' : VV} {L' : LL} {N' : NN} {I' : List Nat} (w : CVk own idx ci n y c1 mL r1) (d : decode cc pc = .ok (.invokevirtual idx, 3)) (hR : Runs (eL E) D1 0 0 y (Cond.code y c1 mL r1) (aR o :: As) V L N I (Is r V' L' N' I'))
    (hi : o ∈ I) (ho : ocl o = some ci) (hn : As.length = n) (hDD : D1 + 1 ≤ D) (hok : okS I st ∧ okL I ls) (hcat : catS st ≤ 8) (hroom : a ≤ MC ∧ b ≤ MS)
    (K : Wx E (pc + 3) ls (r.toList ++ st) V' L' N' I' a b) : Wx E pc ls (As.reverse ++ aR o :: st) V L N I a b :=
  x_callV C w d hR hi ho hn hDD hok hcat hroom (fun X V1 L1 N1 I1 h => by cases h.1) (fun r1 V1 L1 N1 I1 h => by obtain ⟨h1, rfl, rfl, rfl, rfl⟩ := h; cases h1; exact K)
theorem x_callS1 (C : OK E own cc nL ret D MC MS) {idx n D1 mL : Nat} {y : MethodName} {c1 : ByteArray} {r1 : Option FieldType} {As : List AV} {r : Option AV} {V' : VV} {L' : LL} {N' : NN} {I' : List Nat} (w : CSk own idx n y c1 mL r1) (d : decode cc pc = .ok (.invokestatic idx, 3)) (hR : Runs (eL E) D1 0 0 y (Cond.code y c1 mL r1) As V L N I (Is r V' L' N' I'))
    (hn : As.length = n) (hDD : D1 + 1 ≤ D) (hok : okS I st ∧ okL I ls) (hcat : catS st ≤ 8) (hroom : a ≤ MC ∧ b ≤ MS)
    (K : Wx E (pc + 3) ls (r.toList ++ st) V' L' N' I' a b) : Wx E pc ls (As.reverse ++ st) V L N I a b :=
  x_callS C w d hR hn hDD hok hcat hroom (fun X V1 L1 N1 I1 h => by cases h.1) (fun r1 V1 L1 N1 I1 h => by obtain ⟨h1, rfl, rfl, rfl, rfl⟩ := h; cases h1; exact K)
theorem x_callSN1 (C : OK E own cc nL ret D MC MS) {idx n D1 mL : Nat} {host : String} {y : MethodName} {c1 : ByteArray} {r1 : Option FieldType} {As : List AV} {r : Option AV} {V' : VV} {L' : LL} {N' : NN} {I' : List Nat} (w : CNk own idx n host y c1 mL r1) (d : decode cc pc = .ok (.invokestatic idx, 3)) (hR : Runs (eL E) D1 0 0 y (Cond.code y c1 mL r1) As V L N I (Is r V' L' N' I'))
    (hn : As.length = n) (hDD : D1 + 1 ≤ D) (hok : okS I st ∧ okL I ls) (hcat : catS st ≤ 8) (hroom : a ≤ MC ∧ b ≤ MS)
    (K : Wx E (pc + 3) ls (r.toList ++ st) V' L' N' I' a b) : Wx E pc ls (As.reverse ++ st) V L N I a b :=
  x_callSN C w d hR hn hDD hok hcat hroom (fun X V1 L1 N1 I1 h => by cases h.1) (fun r1 V1 L1 N1 I1 h => by obtain ⟨h1, rfl, rfl, rfl, rfl⟩ := h; cases h1; exact K)
end
