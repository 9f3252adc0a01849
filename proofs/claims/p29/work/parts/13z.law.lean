-- the law's own static methods: up to twenty locals
def CTk (own : String) (idx n : Nat) (y : MethodName) (cc : ByteArray) (maxL : Nat) (ret : Option FieldType) : Prop :=
  (Cond.methodLink own idx y ∈ U0 ∧ Cond.static y ∈ U0 ∧ Cond.initialized y.cls ∈ U0 ∧ Cond.code y cc maxL ret ∈ U0) ∧ y.cls = own ∧ maxL ≤ 20 ∧
  (y.cls ≠ "java/lang/invoke/MethodHandle" ∧ y.cls ≠ "java/lang/invoke/VarHandle" ∧ (parseMethodDescriptor y.desc).map (fun d => d.parameters.length) = some n)
section
variable {E : EE} {own : String} {cc : ByteArray} {ret : Option FieldType} {nL D MC MS pc : Nat} {ls : zLS} {st : List AV} {V : VV} {L : LL} {N : NN} {I I0 : List Nat} {a b mc ms : Nat} {Post : PP}
theorem x_callT (C : OK E own cc nL ret D MC MS) {idx n D1 mL : Nat} {y : MethodName} {c1 : ByteArray} {r1 : Option FieldType} {As : List AV} (w : CTk own idx n y c1 mL r1) (d : decode cc pc = .ok (.invokestatic idx, 3)) (hR : Runs (eL E) D1 mc ms y (Cond.code y c1 mL r1) As V L N I Post)
    (hn : As.length = n) (hDD : D1 + 2 ≤ D) (hok : okS I st ∧ okL I ls) (hcat : catS st ≤ 8) (hroom : a + mc ≤ MC ∧ b + ms ≤ MS)
    (kx : ∀ X V' L' N' I', Post (.inr X) V' L' N' I' → Xx E pc ls st X V' L' N' I' (a + mc) (b + ms))
    (kk : ∀ r V' L' N' I', Post (.inl r) V' L' N' I' → Wx E (pc + 3) ls (r.toList ++ st) V' L' N' I' (a + mc) (b + ms)) : Wx E pc ls (As.reverse ++ st) V L N I a b := by
  refine x_fin C (av := #[]) hok (fun ad H locs lsa hP hD hS hl => ?_) kx kk
  obtain ⟨⟨w1, w2, w4, w5⟩, hyo, hmL, hy⟩ := w
  obtain ⟨hx, hb, hml, hown, hts, hK, hA, hSt, hG, hlk, hnt, r1, r2, r3, r4, hnl, hrt⟩ := id C
  refine ⟨_, vx_runS (As := As.map (en ad)) (Ts := U0) (nL := eN E) ⟨hx, hb, hml, hown, hts⟩ (hR hnt (eD E) (eK E) ad H.size) (cwS n hts (u0_app (fun w hw => ?_) (u0_call w5)) rfl rfl rfl ⟨hyo, hy⟩ ?_) ⟨preM_blind, fun U hU hW => ⟨rfl, pre_call C hP hD hS hU hW⟩⟩ rfl (by simp [hn]) hl.1 ?_ ?_ d ⟨Nat.le_trans hroom.1 r3, Nat.le_trans hroom.2 r4⟩⟩
  · simp only [List.mem_cons, List.not_mem_nil, or_false] at hw
    rcases hw with rfl | rfl | rfl
    · assumption
    · assumption
    · rw [← hyo]; assumption
  · show D1 + 1 ≤ (eR E).frames ∧ 8 + (mL + 11) + (28 * D1 + 12) ≤ (eR E).locals
    omega
  · show List.map (en ad) (As.reverse ++ st) = (As.map (en ad)).reverse ++ st.map (en ad)
    rw [List.map_append, List.map_reverse]
  · show 2 * 0 + _ ≤ 8
    rw [catS_en]; omega
end
