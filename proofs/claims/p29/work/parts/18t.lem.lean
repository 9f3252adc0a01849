theorem dly_1 {A : Nat → Nat → Int32} {s : Nat} (h5 : b2i (drpB A s) = 0) (h : ¬ A 2 s ≤ 0) : b2i (dlyB A s) = 1 := by
  have := Int32.not_le.mp h
  simp [b2i, dlyB, b2i_f h5, this]
theorem dly_2 {A : Nat → Nat → Int32} {s : Nat} (h : A 2 s ≤ 0) : b2i (dlyB A s) = 0 := by
  have := Int32.not_lt.mpr h
  simp [b2i, dlyB, this]
theorem dly_3 {A : Nat → Nat → Int32} {s : Nat} (h5 : ¬ b2i (drpB A s) = 0) : b2i (dlyB A s) = 0 := by
  simp [b2i, dlyB, b2i_t h5]
theorem b2i_1 {B : Bool} (h : ¬ b2i B = 0) : b2i B = 1 := by rw [b2i_t h]; rfl
theorem fate_1 {A : Nat → Nat → Int32} {s : Nat} (h : ¬ b2i (drpB A s) = 0) (hc : A 3 s = 0) : 2 = fateS A s := by simp [fateS, b2i_t h, hc]
theorem fate_4 {A : Nat → Nat → Int32} {s : Nat} (h : ¬ b2i (drpB A s) = 0) (hc : ¬ A 3 s = 0) : 2 + 4 = fateS A s := by simp [fateS, b2i_t h, hc]
theorem fate_2 {A : Nat → Nat → Int32} {s : Nat} (h : b2i (drpB A s) = 0) (h2 : ¬ b2i (dlyB A s) = 0) (hc : A 3 s = 0) : 1 = fateS A s := by simp [fateS, b2i_f h, b2i_t h2, hc]
theorem fate_5 {A : Nat → Nat → Int32} {s : Nat} (h : b2i (drpB A s) = 0) (h2 : ¬ b2i (dlyB A s) = 0) (hc : ¬ A 3 s = 0) : 1 + 4 = fateS A s := by simp [fateS, b2i_f h, b2i_t h2, hc]
theorem fate_3 {A : Nat → Nat → Int32} {s : Nat} (h : b2i (drpB A s) = 0) (h2 : b2i (dlyB A s) = 0) (hc : A 3 s = 0) : 0 = fateS A s := by simp [fateS, b2i_f h, b2i_f h2, hc]
theorem fate_6 {A : Nat → Nat → Int32} {s : Nat} (h : b2i (drpB A s) = 0) (h2 : b2i (dlyB A s) = 0) (hc : ¬ A 3 s = 0) : 0 + 4 = fateS A s := by simp [fateS, b2i_f h, b2i_f h2, hc]
theorem part_3 {F A : Nat → Nat → Int32} {s : Nat} {x : Int32} (h : x = b2i (dlyB A s)) : x = partS F A 3 s := by simp [partS, h]
theorem part_4 {F A : Nat → Nat → Int32} {s : Nat} {x : Int32} (h : x = b2i (drpB A s)) : x = partS F A 4 s := by simp [partS, h]
theorem part_5 {F A : Nat → Nat → Int32} {s w : Nat} (hw : 4 < w) (h : ¬ b2i (drpB A s) = 0) : 0 = partS F A w s := by
  simp [partS, b2i_t h, show ¬ w = 0 by omega, show ¬ w = 1 by omega, show ¬ w = 2 by omega, show ¬ w = 3 by omega, show ¬ w = 4 by omega]
theorem part_6 {F A : Nat → Nat → Int32} {s w : Nat} (hw : 4 < w) (h : b2i (drpB A s) = 0) : A 2 s = partS F A w s := by
  simp [partS, b2i_f h, show ¬ w = 0 by omega, show ¬ w = 1 by omega, show ¬ w = 2 by omega, show ¬ w = 3 by omega, show ¬ w = 4 by omega]
theorem nI_w {k w : Nat} (hw : w < 8) (hk : k < 2 ^ 31) (h : nI w = nI k) : w = k := (nI_eq (by omega) hk).mp h
theorem nI_wn {k w : Nat} (h : ¬ nI w = nI k) : ¬ w = k := fun q => h (by rw [q])
theorem sum_t {s a b : Int32} {c : Prop} [Decidable c] (h : c) : s + a = s + if c then a else b := by rw [if_pos h]
theorem sum_f {s a : Int32} {c : Prop} [Decidable c] (h : ¬ c) : s = s + if c then a else 0 := by rw [if_neg h, Int32.add_zero]
