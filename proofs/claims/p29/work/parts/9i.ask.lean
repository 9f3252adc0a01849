section
variable {l : Launch} {V : VV} {L : LL} {N : NN} {I : List Nat} {n o m l0 : Nat}
theorem InvX.p {V : VV} (h : InvX V N I n o m l0) : P2 V 20 (V 201) n := h.1
theorem q_if {W V1 : VV} {s w : Nat} {b : Int32} (hP : P2 W 20 (W 201) n) (hR : Rw (W 201) n) (hs : s < n) (hb : -60 ≤ b.toInt ∧ b.toInt ≤ 120) (hA : AirI 12 W V1 (fun t => if nI t = nI s then b else W 35 t) n) {d : Nat} (hd : d < 7) (hw : w < 8) : dayS (CF V1) (AF 12 V1) (V1 21 6) n d w = dN (ovR W s b) n (nI d) w := by
  have hn := hR.1
  have ec : CF V1 = CF W := funext fun k => hA.1 (29 + k) (by omega)
  have e21 : V1 21 = W 21 := hA.1 21 (by omega)
  have B : Bth (CF W) (RF (ovR W s b)) (W 21) ((ovR W s b) 201) (fun t => if nI t = nI s then b else W 35 t) n := by
    refine ⟨fun k hk t ht => (agr_of hP k hk t ht).trans (RF_ov (by omega) (by omega)).symm, ov_b hR.2.2.2.1 hb, fun k hk => (geq_of hP k hk).trans (ov_g (by omega)).symm, gb_cg (fun k hk => ov_g (by omega)) (rw_gb hR), fun t ht => ?_⟩
    dsimp only
    by_cases q : t = s
    · rw [q, if_pos rfl, RF_ovs]
    · rw [if_neg (fun z => q ((nI_eq (by omega) (by omega)).mp z)), RF_ov (by decide) (fun z => q z.2)]
      exact hP.2.2.2.2 6 (by decide) t ht
  have hAO : AirOf (CF W) (W 21) (fun t => if nI t = nI s then b else W 35 t) n (AF 12 V1) := ⟨fun s hs k hk => hA.2.1 s hs k hk, hA.2.2⟩
  rw [ec, e21, day_a B hAO hd hw, B.2.2.1 6 (by decide)]
  rfl
end
