-- what the Statement gives of the start
abbrev gFL : List Jvm.Cond := flatC (Jvm.Cond.and given_1 narrow_1)
theorem gf_r0 : Cond.isRef (.static Bundle.tN "UNASSIGNED_STACK" Bundle.steD) ∈ gFL := by decide +kernel
theorem gf_r1 : Cond.isRef (.static Bundle.tN "SUPPRESSED_SENTINEL" Bundle.listD) ∈ gFL := by decide +kernel
theorem gf_a : ∀ j, j < 3 → Cond.arrayOf (.static RX6 (stArr j) "[I") .int ∈ gFL := by decide +kernel
theorem gf_l : ∀ j, j < 3 → Cond.eq (.length (.static RX6 (stArr j) "[I")) (.int (Int32.ofNat 8)) ∈ gFL := by decide +kernel
theorem gf_e : ∀ j, j < 3 → ∀ k, k < 8 → Cond.eq (.elem (.static RX6 (stArr j) "[I") (.int (Int32.ofNat k))) (.int (stVal j k)) ∈ gFL := by decide +kernel
theorem gf_n : ∀ q ∈ ncs, Cond.not (.castable q.1 q.2) ∈ gFL := by decide +kernel
def srOk (w : Jvm.Cond) : Bool := match w with
  | .stringRef own k _ => decide (Cond.exactly (.string own k) "java/lang/String" ∈ gFL)
  | _ => true
theorem gf_s : ∀ w ∈ tables_1, srOk w = true := by decide +kernel
section
variable {s : State} {b : Nat}
theorem st_one {args : Array Value} {A : Nat → Prop} (hA : ∀ a : Nat, a < s.heap.size → ¬ A a) {n : String} {v : Nat → Int32} (hl : (Cond.laysStatic RX6 n "[I").before args s = true) (hini : (Cond.initialized RX6).before args s = true) (harr : (Cond.arrayOf (.static RX6 n "[I") .int).before args s = true) (hlen : (Cond.eq (.length (.static RX6 n "[I")) (.int (Int32.ofNat 8))).before args s = true) (hel : ∀ k, k < 8 → (Cond.eq (.elem (.static RX6 n "[I") (.int (Int32.ofNat k))) (.int (v k))).before args s = true) : ∃ t, va_Z RX6 n "[I" (.ref t) A s s.heap ∧ va_T .int t 8 (fun k => .int (v k)) A s s.heap := by
  obtain ⟨t, ht, hT⟩ := va_Tof (N := 8) (f := fun k => .int (v k)) (by decide) harr (va_eqt hlen) (fun j hj => va_eqt (hel j hj)) hA
  exact ⟨t, va_Zof hl hini ht hA, hT⟩
theorem st_all (hts : ∀ w ∈ lw_tbl, w.before #[Value.ref b] s = true) (hgv : (Jvm.Cond.and given_1 narrow_1).before #[Value.ref b] s = true) : StA (fun q => s.heap.size ≤ q) s s.heap := by
  have hf := flat_of_before _ hgv
  have hA : ∀ a : Nat, a < s.heap.size → ¬ (fun q => s.heap.size ≤ q) a := fun a h => Nat.not_le.mpr h
  have hw : ∀ (i : Nat) (w : Jvm.Cond), lw_tbl[i]? = some w → w.before #[Value.ref b] s = true := fun i w h => hts w (List.mem_of_getElem? h)
  refine ⟨vx_Zqof (hw 275 _ (by decide +kernel)) (hw 27 _ (by decide +kernel)) (hf _ gf_r0) hA, vx_Zqof (hw 277 _ (by decide +kernel)) (hw 27 _ (by decide +kernel)) (hf _ gf_r1) hA, fun j hj => ?_⟩
  have hlay : (Cond.laysStatic RX6 (stArr j) "[I").before #[Value.ref b] s = true := by
    rcases (show j = 0 ∨ j = 1 ∨ j = 2 by omega) with rfl | rfl | rfl
    · exact hw 735 _ (by decide +kernel)
    · exact hw 737 _ (by decide +kernel)
    · exact hw 50 _ (by decide +kernel)
  exact st_one hA hlay (hw 21 _ (by decide +kernel)) (hf _ (gf_a j hj)) (hf _ (gf_l j hj)) (fun k hk => hf _ (gf_e j hj k hk))
theorem gl_all (hts : ∀ w ∈ lw_tbl, w.before #[Value.ref b] s = true) (hgv : (Jvm.Cond.and given_1 narrow_1).before #[Value.ref b] s = true) : Gl s := by
  have hf := flat_of_before _ hgv
  have ht : ∀ w ∈ tables_1, w.before #[Value.ref b] s = true := fun w hw => hts w (List.mem_append_right _ hw)
  refine ⟨fun w hw hu => ?_, fun own k tx hm => ?_, fun q hq => va_Nc.of (hf _ (gf_n q hq))⟩
  · have h := ht w hw
    cases w <;> first | exact h | exact absurd hu (by simp [ubw])
  · have h1 := ht _ hm
    have h2 := gf_s _ hm
    have h3 : Cond.exactly (.string own k) "java/lang/String" ∈ gFL := of_decide_eq_true h2
    have h4 := hf _ h3
    obtain ⟨a, ha⟩ : ∃ a, (Term.string own k).eval #[Value.ref b] s none [] s = some (.ref a) := by
      obtain ⟨a, c, cell, k, q1, -⟩ := Cond.exactly_spec h4
      exact ⟨a, q1⟩
    exact ⟨a, vk_R.of h1 ha⟩
theorem nt_of {l : Launch} (h : l.flags = flags0) : l.stackTraces = false := by
  unfold Launch.stackTraces
  rw [h]
  decide
theorem ar_int {args : Array Value} {ty : FieldType} (h : (Cond.arrayClass ty).before args s = true) : ∃ c, ArrOfT s c ty ∧ s.vm.findClass ("[" ++ ty.toString) = some c := by
  obtain ⟨c, k, comp, h1, h2, h3⟩ := Cond.arrayClass_spec h
  exact ⟨c, fun n z => ⟨fun k h => (by cases h), k, h2, comp, h3⟩, h1⟩
theorem ar_obj {args : Array Value} {C : String} (h : (Cond.arrayOver (.object C)).before args s = true) : ∃ c, ArrOfT s c (.object C) ∧ va_RA s c (.object C) := by
  obtain ⟨comp, c, k, h1, h2, h3, h4, h5⟩ := Cond.arrayOver_spec h
  exact ⟨c, fun n z => ⟨fun k h => (by cases h), k, h3, comp, h4⟩, k, comp, h3, h4, h1, h5⟩
theorem kn_all (hts : ∀ w ∈ lw_tbl, w.before #[Value.ref b] s = true) : ∃ (d : (Nat → ClassId) × (Nat → Nat → Nat)) (ca : Nat → ClassId), va_K d vwCl (tyM ca) s := by
  have hU : ∀ w ∈ U0, w.before #[Value.ref b] s = true := fun w hw => hts w (List.mem_filter.mp hw).1
  have hw : ∀ (i : Nat) (w : Jvm.Cond), lw_tbl[i]? = some w → w.before #[Value.ref b] s = true := fun i w h => hts w (List.mem_of_getElem? h)
  obtain ⟨c0, i0, k0⟩ := u_known (C := RX0) (T := TX0) (N := 5) (n := 5) hU (cl_words _ (List.mem_of_getElem? (i := 0) rfl)) (hts (.instantiable RX0 5) (by decide +kernel))
  obtain ⟨c1, i1, k1⟩ := u_known (C := RX0) (T := TX0) (N := 5) (n := 5) hU (cl_words _ (List.mem_of_getElem? (i := 1) rfl)) (hts (.instantiable RX0 5) (by decide +kernel))
  obtain ⟨c2, i2, k2⟩ := u_known (C := RX2) (T := TX2) (N := 3) (n := 3) hU (cl_words _ (List.mem_of_getElem? (i := 2) rfl)) (hts (.instantiable RX2 3) (by decide +kernel))
  obtain ⟨c3, i3, k3⟩ := u_known (C := RX3) (T := TX3) (N := 16) (n := 16) hU (cl_words _ (List.mem_of_getElem? (i := 3) rfl)) (hts (.instantiable RX3 16) (by decide +kernel))
  obtain ⟨c4, i4, k4⟩ := u_known (C := RX4) (T := TX4) (N := 7) (n := 7) hU (cl_words _ (List.mem_of_getElem? (i := 4) rfl)) (hts (.instantiable RX4 7) (by decide +kernel))
  obtain ⟨c5, i5, k5⟩ := u_known (C := RX5) (T := TX5) (N := 4) (n := 4) hU (cl_words _ (List.mem_of_getElem? (i := 5) rfl)) (hts (.instantiable RX5 4) (by decide +kernel))
  obtain ⟨c6, i6, k6⟩ := u_known (C := RX6) (T := TX6) (N := 7) (n := 7) hU (cl_words _ (List.mem_of_getElem? (i := 6) rfl)) (hts (.instantiable RX6 7) (by decide +kernel))
  obtain ⟨c7, i7, k7⟩ := u_known (C := RX0) (T := TX0) (N := 5) (n := 5) hU (cl_words _ (List.mem_of_getElem? (i := 7) rfl)) (hts (.instantiable RX0 5) (by decide +kernel))
  obtain ⟨a0, p0, q0⟩ := ar_int (hw 125 _ (by decide +kernel) : (Cond.arrayClass .int).before _ s = true)
  obtain ⟨a1, p1, q1⟩ := ar_int (hw 221 _ (by decide +kernel) : (Cond.arrayClass .boolean).before _ s = true)
  obtain ⟨a2, p2, q2⟩ := ar_obj (hw 133 _ (by decide +kernel) : (Cond.arrayOver (.object RX3)).before _ s = true)
  obtain ⟨a3, p3, q3⟩ := ar_int (hw 125 _ (by decide +kernel) : (Cond.arrayClass .int).before _ s = true)
  refine ⟨(fun k => match k with | 0 => c0 | 1 => c1 | 2 => c2 | 3 => c3 | 4 => c4 | 5 => c5 | 6 => c6 | _ => c7, fun k => match k with | 0 => i0 | 1 => i1 | 2 => i2 | 3 => i3 | 4 => i4 | 5 => i5 | 6 => i6 | _ => i7), fun k => match k with | 0 => a0 | 1 => a1 | 2 => a2 | _ => a3, ?_, ?_⟩
  · intro c q hq
    match c, hq with
    | 0, hq => cases hq; exact k0
    | 1, hq => cases hq; exact k1
    | 2, hq => cases hq; exact k2
    | 3, hq => cases hq; exact k3
    | 4, hq => cases hq; exact k4
    | 5, hq => cases hq; exact k5
    | 6, hq => cases hq; exact k6
    | 7, hq => cases hq; exact k7
    | c + 8, hq => cases hq
  · intro k q hq
    match k, hq with
    | 0, hq => cases hq; exact ⟨p0, q0⟩
    | 1, hq => cases hq; exact ⟨p1, q1⟩
    | 2, hq => cases hq; exact ⟨p2, q2⟩
    | 3, hq => cases hq; exact ⟨p3, q3⟩
    | k + 4, hq => cases hq
end
