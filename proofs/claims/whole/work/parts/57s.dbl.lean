abbrev rawName : MethodName := ⟨"java/lang/Double", "doubleToRawLongBits", "(D)J"⟩
theorem m_Jxe99ae_isNaN : Cond.static yJxe99ae_isNaN_b9ae7 ∈ U0 ∧ Cond.initialized yJxe99ae_isNaN_b9ae7.cls ∈ U0 ∧ Cond.code yJxe99ae_isNaN_b9ae7 cJxe99ae_isNaN_b9ae7 2 (some .boolean) ∈ U0 := ⟨u0_in 1337 (by decide +kernel) rfl, u0_in 97 (by decide +kernel) rfl, u0_in 1338 (by decide +kernel) rfl⟩
theorem s_Jxe99ae_122 : CSk RJxe99ae 122 1 yJxe99ae_isNaN_b9ae7 cJxe99ae_isNaN_b9ae7 2 (some .boolean) := ⟨⟨u0_in 1336 (by decide +kernel) rfl, m_Jxe99ae_isNaN⟩, rfl, by decide, by decide +kernel⟩
theorem m_Jxe99ae_bits : Cond.static yJxe99ae_doubleToLongBits_ccdee ∈ U0 ∧ Cond.initialized yJxe99ae_doubleToLongBits_ccdee.cls ∈ U0 ∧ Cond.code yJxe99ae_doubleToLongBits_ccdee cJxe99ae_doubleToLongBits_ccdee 2 (some .long) ∈ U0 := ⟨u0_in 1334 (by decide +kernel) rfl, u0_in 97 (by decide +kernel) rfl, u0_in 1335 (by decide +kernel) rfl⟩
theorem q_Jxe99ae_134 : Cond.methodLink RJxe99ae 134 rawName ∈ U0 := u0_in 1339 (by decide +kernel) rfl
theorem mm_raw : Cond.native rawName ∈ U0 ∧ Cond.static rawName ∈ U0 ∧ Cond.initialized "java/lang/Double" ∈ U0 := ⟨u0_in 1341 (by decide +kernel) rfl, u0_in 1340 (by decide +kernel) rfl, u0_in 97 (by decide +kernel) rfl⟩
section
variable {E : EE} {own : String} {cc : ByteArray} {nL : Nat} {ret : Option FieldType} {D MC MS pc a b : Nat} {ls : List (Option AV)} {st : List AV} {V : VV} {L : LL} {N : NN} {I : List Nat}
theorem x_raw (C : OK E own cc nL ret D MC MS) {idx : Nat} {v : UInt64} (hw : Cond.methodLink own idx rawName ∈ U0) (d : decode cc pc = .ok (.invokestatic idx, 3)) (hD : 1 ≤ D) (hcat : catS st ≤ 8) (K : Wx E (pc + 3) ls (aL v.toInt64 :: st) V L N I a b) : Wx E pc ls (aD v :: st) V L N I a b := by
  intro ad H locs lsa hP hD0 hS hA hl
  obtain ⟨hx1, hb, hml, hown, hts, hK, hF, hSt, hG, hlk, hnt, r1, r2, r3, r4, hnl, hrt⟩ := id C
  refine vn_d2l hx1 hb (by rw [hl.1, hml]) hown (hts _ hw) (hts _ mm_raw.1) (hts _ mm_raw.2.1) (hts _ mm_raw.2.2) (by omega) ?_ d (K ad H locs lsa hP hD0 hS hA hl)
  rw [catS_en]; omega
end
