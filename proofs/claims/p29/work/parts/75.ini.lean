abbrev zk : Nat → Nat := fun _ => 0
abbrev WE (E : EE) (Q : State → Prop) (H : Heap) (locs : List Loc) (a b pc : Nat) (lsa : Array Slot) (st : List Value) : Prop :=
  W (eP E) (eL E) (eE E) (eR E) (eS E) (eM E) (eX E) (eB E) (eT E) (eC E) H locs a b Q (F0 (eM E) pc lsa st)
abbrev zT : State → Prop := fun _ => True
theorem zT_m : ∀ u U : State, u.vm.Alike U.vm → zT u → zT U := fun _ _ _ _ => trivial
abbrev zA : State → Prop := va_AO RX3
theorem zA_m : ∀ u U : State, u.vm.Alike U.vm → zA u → zA U := fun _ _ h h2 => va_AO.moved h h2
/-- the contract of a constructor: the object o at h becomes cells of which Post speaks -/
def RunsK (l : Launch) (D mc ms : Nat) (y : MethodName) (w0 : Cond) (h : Nat) (o : Nat × List Value) (Z : State → Prop) (Post : (Nat → ClassId) → va_W → Prop) : Prop :=
  l.stackTraces = false → ∀ (d : (Nat → ClassId) × (Nat → Nat → Nat)) (ca : Nat → ClassId) (sz : Nat),
    Met l y (w0 :: U0) (rmD D mc ms) (va_Pc [.ref h] (fun U => U.heap.size = sz ∧ va_P d vwCl [(h, .inr o)] U.heap ∧ va_K d vwCl (tyM ca) U ∧ va_D (fun _ => True) [(h, .inr o)] ∧ StA (va_A [(h, .inr o)] sz) U U.heap ∧ Gl U ∧ Z U))
      (va_Qv (fun w1 : va_W => Post ca w1) (fun w1 t => va_P d vwCl w1 t.heap ∧ va_D (va_A [(h, .inr o)] sz) w1) (va_A [(h, .inr o)] sz)) mc ms (va_A [(h, .inr o)] sz)
abbrev QK (E : EE) (Post : (Nat → ClassId) → va_W → Prop) (mc ms : Nat) : State → Prop :=
  MQ (eB E) (va_Qv (fun w1 : va_W => Post (eK E) w1) (fun w1 t => va_P (eD E) vwCl w1 t.heap ∧ va_D (eF E) w1) (eF E)) (eX E) (eS E) mc ms (eF E)
theorem run_ofK {l : Launch} {D mc ms : Nat} {y : MethodName} {cc : ByteArray} {maxL : Nat} {h : Nat} {o : Nat × List Value} {Z : State → Prop} {Post : (Nat → ClassId) → va_W → Prop} (own : String) (hy : plainName y.cls = true) (ho : y.cls = own) (hnm : y.name = "<init>") (hlen : 1 ≤ maxL)
    (body : ∀ (E : EE) (lsa : Array Slot) (H : Heap), eL E = l → OK E own cc maxL none D mc ms → (eT E).name = "<init>" → Z (eS E) → va_P (eD E) vwCl [(h, .inr o)] H → va_D (eF E) [(h, .inr o)] → va_S (eF E) (eS E).heap H [] → LH lsa (eN E) zk (entL [aQ h] maxL) →
      WE E (QK E Post mc ms) H [] 0 0 0 lsa []) : RunsK l D mc ms y (Cond.code y cc maxL none) h o Z Post := by
  intro hl d ca sz
  refine Met.ofW hy rfl ?_
  intro p e s m a below meth c s1 B hml hv
  obtain ⟨rfl, hsz, hP, hK, hD0, hSt, hG, hZ⟩ := hv
  subst hsz
  have hts := atoms_spec (ws := Cond.code y cc maxL none :: U0) B.pre
  have hown : s.vm.findClass y.cls = some m.cls := findClass_of_methodNamed B.named
  have hlv := lv_entry ([aQ h].map (en zk)) (n := maxL) (by rw [entA_len]; exact hlen)
  rw [lg_entry_eq]
  refine body (p, l, e, rmD D mc ms, s, m, ([aQ h].map (en zk)).toArray, below, meth, c, (fun _ => True), d, ca, zk, va_A [(h, .inr o)] s.heap.size, maxL, fun _ => True) _ s.heap rfl
    ⟨B.exec, B.bytes, hml, ho ▸ hown, fun w hw => hts w (List.mem_cons_of_mem _ hw), hK, fun q hq => Or.inr hq, hSt, hG, B.notSynchronized, hl, Nat.le_refl _, Nat.le_refl _, Nat.le_refl _, Nat.le_refl _, rfl, B.returns⟩ ((name_of_methodNamed B.named B.method).1.trans hnm) hZ hP hD0.self va_S.rf ⟨hlv.1, hlv.2.1, fun k v hk => ?_⟩
  have := hlv.2.2 _ (entA_mem (ad := zk) [aQ h] 0 k v (entL_get hk))
  rw [Nat.zero_add] at this
  exact this
theorem k_blind {Z : State → Prop} (hZm : ∀ u U : State, u.vm.Alike U.vm → Z u → Z U) {d : (Nat → ClassId) × (Nat → Nat → Nat)} {ca : Nat → ClassId} {ws : va_W} {sz : Nat} {av : List Value} : FrameBlind (va_Pc av (fun U : State => U.heap.size = sz ∧ va_P d vwCl ws U.heap ∧ va_K d vwCl (tyM ca) U ∧ va_D (fun _ => True) ws ∧ StA (va_A ws sz) U U.heap ∧ Gl U ∧ Z U)) := by
  intro a U g mk h
  obtain ⟨h1, h2, h3, h4, h5, h6, h7, h8⟩ := h
  have hvm : U.vm.Alike (U.calling g mk a).vm := Vm.Alike.refl U.vm
  have hW : U.WarmedH (U.calling g mk a).vm := State.WarmedH.refl U
  exact ⟨h1, h2, h3, va_K.moved hvm h4, h5, StA.moved hvm h6, Gl.warm hW h7, hZm _ _ hvm h8⟩
/-- the caller's cells stay, what the callee leaves comes behind them -/
theorem k_join {A0 : Nat → Prop} {d : va_G} {ws wc w1 : va_W} {H H1 : Heap} (hP : va_P d vwCl (ws ++ wc) H) (hD : va_D A0 (ws ++ wc)) (hk : ∀ q : Nat, q < H.size → ¬ va_A wc H.size q → H1[q]? = H[q]?) (hF : ∀ q, va_A wc H.size q → A0 q)
    (hP1 : va_P d vwCl w1 H1) (hD1 : va_D (va_A wc H.size) w1) : va_P d vwCl (ws ++ w1) H1 ∧ va_D A0 (ws ++ w1) := by
  have ap : ∀ (k : Nat) (q : Nat × va_E), ws[k]? = some q → q.1 < H.size ∧ ¬ va_A wc H.size q.1 := by
    intro k q hq
    have hkl : k < ws.length := (List.getElem?_eq_some_iff.mp hq).1
    have h1 : (ws ++ wc)[k]? = some q := by rw [List.getElem?_append_left hkl]; exact hq
    have hl := (hP k q h1).lt
    refine ⟨hl, fun h => ?_⟩
    rcases h with ⟨k2, e, h⟩ | h
    · have h2 : (ws ++ wc)[ws.length + k2]? = some (q.1, e) := by rw [List.getElem?_append_right (by omega), Nat.add_sub_cancel_left]; exact h
      have := hD.1 k _ q (q.1, e) h1 h2 rfl
      omega
    · omega
  have sp : ∀ {w : va_W} (k : Nat) (q : Nat × va_E), (ws ++ w)[k]? = some q → (k < ws.length ∧ ws[k]? = some q) ∨ (ws.length ≤ k ∧ w[k - ws.length]? = some q) := by
    intro w k q hq
    by_cases hkl : k < ws.length
    · rw [List.getElem?_append_left hkl] at hq; exact Or.inl ⟨hkl, hq⟩
    · rw [List.getElem?_append_right (by omega)] at hq; exact Or.inr ⟨by omega, hq⟩
  have up : ∀ {k : Nat} {q : Nat × va_E}, ws[k]? = some q → (ws ++ wc)[k]? = some q := by
    intro k q hq
    rw [List.getElem?_append_left (List.getElem?_eq_some_iff.mp hq).1]; exact hq
  refine ⟨fun k q hq => ?_, fun i j p q hp hq he => ?_, fun k q hq => ?_⟩
  · rcases sp k q hq with ⟨_, h⟩ | ⟨_, h⟩
    · exact (hP k q (up h)).kept (hk _ (ap k q h).1 (ap k q h).2)
    · exact hP1 _ q h
  · rcases sp i p hp with ⟨h1, h2⟩ | ⟨h1, h2⟩ <;> rcases sp j q hq with ⟨h3, h4⟩ | ⟨h3, h4⟩
    · exact hD.1 i j p q (up h2) (up h4) he
    · exact absurd (he ▸ hD1.2 _ q h4) (ap i p h2).2
    · exact absurd (he ▸ hD1.2 _ p h2) (ap j q h4).2
    · have := hD1.1 _ _ p q h2 h4 he
      omega
  · rcases sp k q hq with ⟨_, h⟩ | ⟨_, h⟩
    · exact hD.2 k q (up h)
    · exact hF _ (hD1.2 _ q h)
section
variable {E : EE} {own : String} {cc : ByteArray} {ret : Option FieldType} {nL D MC MS pc : Nat} {a b : Nat} {Q : State → Prop} {ws : va_W} {lsa : Array Slot} {st : List Value} {H : Heap} {locs : List Loc}
theorem k_pre (C : OK E own cc nL ret D MC MS) {Z : State → Prop} (hZm : ∀ u U : State, u.vm.Alike U.vm → Z u → Z U) (hZ : Z (eS E)) {wc : va_W} (hP : va_P (eD E) vwCl wc H) (hD : va_D (eF E) wc) (hS : va_S (eF E) (eS E).heap H locs) {U : State} (hU : U.heap = H) (hW : (eS E).WarmedH U.vm) : U.heap.size = H.size ∧ va_P (eD E) vwCl wc U.heap ∧ va_K (eD E) vwCl (tyM (eK E)) U ∧ va_D (fun _ => True) wc ∧ StA (va_A wc H.size) U U.heap ∧ Gl U ∧ Z U := by
  obtain ⟨-, -, -, -, -, hK, hA, hSt, hG, -⟩ := C
  have hF : ∀ q, va_A wc H.size q → eF E q := fun q h => by
    rcases h with ⟨k, e, h⟩ | h
    · exact hD.2 k _ h
    · exact hA q (Nat.le_trans hS.1 h)
  refine ⟨by rw [hU], by rw [hU]; exact hP, va_K.moved hW.alike hK, hD.weaken (fun _ _ _ _ => trivial), ?_, Gl.warm hW hG, hZm _ _ hW.alike hZ⟩
  rw [hU]
  exact StA.moved hW.alike (StA.narrow (StA.kept hSt hS.2.1) hF)
/-- a constructor's words -/
def CIk (own : String) (idx : Nat) (y : MethodName) (cc : ByteArray) (maxL : Nat) : Prop :=
  (Cond.methodLink own idx y ∈ U0 ∧ Cond.instanceMethod y ∈ U0 ∧ Cond.initialized y.cls ∈ U0 ∧ Cond.code y cc maxL none ∈ U0) ∧ y.name = "<init>" ∧ maxL ≤ 9 ∧
  (y.cls ≠ "java/lang/invoke/MethodHandle" ∧ y.cls ≠ "java/lang/invoke/VarHandle" ∧ (parseMethodDescriptor y.desc).map (fun d => d.parameters.length) = some 0)
def CJk (own : String) (idx : Nat) (host : String) (y : MethodName) (cc : ByteArray) (maxL : Nat) : Prop :=
  (Cond.methodLinkNest own idx y host ∈ tables_1 ∧ Cond.instanceMethod y ∈ U0 ∧ Cond.initialized y.cls ∈ U0 ∧ Cond.code y cc maxL none ∈ U0) ∧ y.name = "<init>" ∧ maxL ≤ 9 ∧
  (y.cls ≠ "java/lang/invoke/MethodHandle" ∧ y.cls ≠ "java/lang/invoke/VarHandle" ∧ (parseMethodDescriptor y.desc).map (fun d => d.parameters.length) = some 0)
theorem k_part {A0 : Nat → Prop} {d : va_G} {wc : va_W} (hP : va_P d vwCl (ws ++ wc) H) (hD : va_D A0 (ws ++ wc)) : va_P d vwCl wc H ∧ va_D A0 wc := by
  have up : ∀ {k : Nat} {q : Nat × va_E}, wc[k]? = some q → (ws ++ wc)[ws.length + k]? = some q := by
    intro k q hq
    rw [List.getElem?_append_right (by omega), Nat.add_sub_cancel_left]; exact hq
  refine ⟨fun k q hq => hP _ q (up hq), fun i j p q hp hq he => ?_, fun k q hq => hD.2 _ q (up hq)⟩
  have := hD.1 _ _ p q (up hp) (up hq) he
  omega
theorem k_init (C : OK E own cc nL ret D MC MS) {idx ci D1 mL q mc ms : Nat} {y : MethodName} {c1 : ByteArray} {fs : List Value} {Z : State → Prop} {Post : (Nat → ClassId) → va_W → Prop} (w : CIk own idx y c1 mL) (d : decode cc pc = .ok (.invokespecial idx, 3))
    (hR : RunsK (eL E) D1 mc ms y (Cond.code y c1 mL none) q (ci, fs) Z Post) (hZm : ∀ u U : State, u.vm.Alike U.vm → Z u → Z U) (hZ : Z (eS E)) (hDD : D1 + 1 ≤ D) (hcat : (st.map fun v => v.category).sum ≤ 8) (hroom : a + mc ≤ MC ∧ b + ms ≤ MS) (hls : lsa.size = eN E)
    (hP : va_P (eD E) vwCl (ws ++ [(q, .inr (ci, fs))]) H) (hD : va_D (eF E) (ws ++ [(q, .inr (ci, fs))])) (hS : va_S (eF E) (eS E).heap H locs)
    (kk : ∀ (w1 : va_W) (H1 : Heap) (locs1 : List Loc), Post (eK E) w1 → va_P (eD E) vwCl (ws ++ w1) H1 → va_D (eF E) (ws ++ w1) → va_S (eF E) (eS E).heap H1 locs1 → WE E Q H1 locs1 (a + mc) (b + ms) (pc + 3) lsa st) : WE E Q H locs a b pc lsa (.ref q :: st) := by
  obtain ⟨⟨w1, w2, w3, w4⟩, hy1, hmL, hyy⟩ := w
  obtain ⟨hx, hb, hml, hown, hts, hK, hA, hSt, hG, hlk, hnt, r1, r2, r3, r4, hnl, hrt⟩ := id C
  obtain ⟨hPc, hDc⟩ := k_part hP hD
  have hF : ∀ z, va_A [(q, .inr (ci, fs))] H.size z → eF E z := fun z h => by
    rcases h with ⟨k, e, h⟩ | h
    · exact hDc.2 k _ h
    · exact hA z (Nat.le_trans hS.1 h)
  refine va_callv (va_runI (As := []) (rest := st) (Ts := U0) (nL := eN E) ⟨hx, hb, hml, hown, hts⟩ (hR hnt (eD E) (eK E) H.size) (cwI 0 hts (u0_call w4) rfl rfl rfl (hts _ w3) (hts _ w1) (hts _ w2) hy1 hyy ?_) ⟨k_blind hZm, fun U hU hW => ⟨rfl, k_pre C hZm hZ hPc hDc hS hU hW⟩⟩ rfl rfl hls rfl ?_ d ⟨Nat.le_trans hroom.1 r3, Nat.le_trans hroom.2 r4⟩) hS (fun z _ h => hF z h) hF (fun u t H1 locs1 ht hvm hp hB hz1 hk1 hS1 => ?_)
  · show D1 + 1 ≤ (eR E).frames ∧ 8 + (mL + 11) + (28 * D1 + 12) ≤ (eR E).locals
    omega
  · show 2 * 0 + _ ≤ 8
    omega
  · obtain ⟨hP1, hD1⟩ := hB
    rw [ht] at hP1
    obtain ⟨j1, j2⟩ := k_join hP hD hk1 hF hP1 hD1
    exact kk u H1 locs1 hp j1 j2 hS1
theorem k_initN (C : OK E own cc nL ret D MC MS) {idx ci D1 mL q mc ms : Nat} {host : String} {y : MethodName} {c1 : ByteArray} {fs : List Value} {Z : State → Prop} {Post : (Nat → ClassId) → va_W → Prop} (w : CJk own idx host y c1 mL) (d : decode cc pc = .ok (.invokespecial idx, 3))
    (hR : RunsK (eL E) D1 mc ms y (Cond.code y c1 mL none) q (ci, fs) Z Post) (hZm : ∀ u U : State, u.vm.Alike U.vm → Z u → Z U) (hZ : Z (eS E)) (hDD : D1 + 1 ≤ D) (hcat : (st.map fun v => v.category).sum ≤ 8) (hroom : a + mc ≤ MC ∧ b + ms ≤ MS) (hls : lsa.size = eN E)
    (hP : va_P (eD E) vwCl (ws ++ [(q, .inr (ci, fs))]) H) (hD : va_D (eF E) (ws ++ [(q, .inr (ci, fs))])) (hS : va_S (eF E) (eS E).heap H locs)
    (kk : ∀ (w1 : va_W) (H1 : Heap) (locs1 : List Loc), Post (eK E) w1 → va_P (eD E) vwCl (ws ++ w1) H1 → va_D (eF E) (ws ++ w1) → va_S (eF E) (eS E).heap H1 locs1 → WE E Q H1 locs1 (a + mc) (b + ms) (pc + 3) lsa st) : WE E Q H locs a b pc lsa (.ref q :: st) := by
  obtain ⟨⟨w1, w2, w3, w4⟩, hy1, hmL, hyy⟩ := w
  obtain ⟨hx, hb, hml, hown, hts, hK, hA, hSt, hG, hlk, hnt, r1, r2, r3, r4, hnl, hrt⟩ := id C
  obtain ⟨hPc, hDc⟩ := k_part hP hD
  have hF : ∀ z, va_A [(q, .inr (ci, fs))] H.size z → eF E z := fun z h => by
    rcases h with ⟨k, e, h⟩ | h
    · exact hDc.2 k _ h
    · exact hA z (Nat.le_trans hS.1 h)
  refine va_callv (va_runIN (As := []) (rest := st) (Ts := U0) (nL := eN E) ⟨hx, hb, hml, hown, hts⟩ (hR hnt (eD E) (eK E) H.size) ⟨va_cnB 0 hts (u0_call w4) rfl rfl rfl (hG.1 _ w1 rfl) (hts _ w3) hyy ?_, hy1, hts _ w2⟩ ⟨k_blind hZm, fun U hU hW => ⟨rfl, k_pre C hZm hZ hPc hDc hS hU hW⟩⟩ rfl rfl hls rfl ?_ d ⟨Nat.le_trans hroom.1 r3, Nat.le_trans hroom.2 r4⟩) hS (fun z _ h => hF z h) hF (fun u t H1 locs1 ht hvm hp hB hz1 hk1 hS1 => ?_)
  · show D1 + 1 ≤ (eR E).frames ∧ 8 + (mL + 11) + (28 * D1 + 12) ≤ (eR E).locals
    omega
  · show 2 * 0 + _ ≤ 8
    omega
  · obtain ⟨hP1, hD1⟩ := hB
    rw [ht] at hP1
    obtain ⟨j1, j2⟩ := k_join hP hD hk1 hF hP1 hD1
    exact kk u H1 locs1 hp j1 j2 hS1
theorem k_ca (C : OK E own cc nL ret D MC MS) {cA : ClassId} {ty : FieldType} {k : Nat} (hk : (tyM (eK E))[k]? = some (eK E k, ty)) (hK2 : va_K (eD E) vwCl (tyM (eK E) ++ [(cA, ty)]) (eS E)) : cA = eK E k := by
  have h1 := (C.2.2.2.2.2.1.2 k _ hk).2
  have h2 := (hK2.2 4 (cA, ty) (by rfl)).2
  cases ty with
  | object Cn =>
    obtain ⟨_, _, _, _, _, e1⟩ := h1
    obtain ⟨_, _, _, _, _, e2⟩ := h2
    exact Option.some.inj (e2.symm.trans e1)
  | _ => exact Option.some.inj (h2.symm.trans h1)
theorem k_newI (C : OK E own cc nL ret D MC MS) {n : Nat} (hn : n < 100000) (d : decode cc pc = .ok (.newarray .int, 2)) (hroom : a + 1 ≤ MC ∧ b + n ≤ MS) (hP : va_P (eD E) vwCl ws H) (hD : va_D (eF E) ws) (hS : va_S (eF E) (eS E).heap H locs)
    (kk : ∀ (q : Nat) (H1 : Heap), va_P (eD E) vwCl (ws ++ [(q, .inl (eK E 0, n, .inl (fun _ => 0)))]) H1 → va_D (eF E) (ws ++ [(q, .inl (eK E 0, n, .inl (fun _ => 0)))]) → va_S (eF E) (eS E).heap H1 locs → WE E Q H1 locs (a + 1) (b + n) (pc + 2) lsa (.ref q :: st)) : WE E Q H locs a b pc lsa (.int (nI n) :: st) := by
  obtain ⟨hx, hb, hml, hown, hts, hK, hA, hSt, hG, hlk, hnt, r1, r2, r3, r4, hnl, hrt⟩ := id C
  refine va_newa (atype := .int) (ty := .int) (a0 := (n, .inl (fun _ => 0))) (N' := n) hx hb (hts _ (u0_in 125 (by decide +kernel) rfl)) rfl hK hP hD hS hA (fun _ => rfl) (nI_pos (by omega)) (nI_clamp (by omega)) (by show n * 4 ≤ 536870912; omega) (Nat.le_trans hroom.1 r3) (Nat.le_trans hroom.2 r4) d (fun q cA H1 hK2 hP1 hD1 hS1 => ?_)
  obtain rfl := k_ca C (k := 0) rfl hK2
  exact kk q H1 hP1 hD1 hS1
theorem k_newZ (C : OK E own cc nL ret D MC MS) {n : Nat} (hn : n < 100000) (d : decode cc pc = .ok (.newarray .boolean, 2)) (hroom : a + 1 ≤ MC ∧ b + n ≤ MS) (hP : va_P (eD E) vwCl ws H) (hD : va_D (eF E) ws) (hS : va_S (eF E) (eS E).heap H locs)
    (kk : ∀ (q : Nat) (H1 : Heap), va_P (eD E) vwCl (ws ++ [(q, .inl (eK E 1, n, .inl (fun _ => 0)))]) H1 → va_D (eF E) (ws ++ [(q, .inl (eK E 1, n, .inl (fun _ => 0)))]) → va_S (eF E) (eS E).heap H1 locs → WE E Q H1 locs (a + 1) (b + n) (pc + 2) lsa (.ref q :: st)) : WE E Q H locs a b pc lsa (.int (nI n) :: st) := by
  obtain ⟨hx, hb, hml, hown, hts, hK, hA, hSt, hG, hlk, hnt, r1, r2, r3, r4, hnl, hrt⟩ := id C
  refine va_newa (atype := .boolean) (ty := .boolean) (a0 := (n, .inl (fun _ => 0))) (N' := n) hx hb (hts _ (u0_in 221 (by decide +kernel) rfl)) rfl hK hP hD hS hA (fun _ => rfl) (nI_pos (by omega)) (nI_clamp (by omega)) (by show n * 1 ≤ 536870912; omega) (Nat.le_trans hroom.1 r3) (Nat.le_trans hroom.2 r4) d (fun q cA H1 hK2 hP1 hD1 hS1 => ?_)
  obtain rfl := k_ca C (k := 1) rfl hK2
  exact kk q H1 hP1 hD1 hS1
theorem k_objI (C : OK E own cc nL ret D MC MS) {idx q : Nat} (w : Cond.methodLink own idx Lib.objectInit ∈ U0) (hD : 1 ≤ D) (hcat : (st.map fun v => v.category).sum ≤ 8) (hls : lsa.size = eN E) (d : decode cc pc = .ok (.invokespecial idx, 3)) (K : WE E Q H locs a b (pc + 3) lsa st) : WE E Q H locs a b pc lsa (.ref q :: st) := by
  obtain ⟨hx, hb, hml, hown, hts, hK, hA, hSt, hG, hlk, hnt, r1, r2, r3, r4, hnl, hrt⟩ := id C
  refine W.objInit hx hb hown (hts _ w) (hts _ (u0_in 41 (by decide +kernel) rfl)) (hts _ (u0_in 42 (by decide +kernel) rfl)) rfl (by rw [hml]; exact hls) rfl d (by omega) ?_ K
  show 2 * 0 + _ + 12 ≤ _
  omega
end
