abbrev AV : Type := Value ⊕ Nat
abbrev VV : Type := Nat → Nat → Int32
abbrev LL : Type := Nat → Nat → Int64
abbrev NN : Type := Nat → Bool
abbrev aI (x : Int32) : AV := .inl (.int x)
abbrev aL (x : Int64) : AV := .inl (.long x)
abbrev aD (x : UInt64) : AV := .inl (.double x)
abbrev aR (i : Nat) : AV := .inr i
abbrev aQ (q : Nat) : AV := .inl (.ref q)
def en (ad : Nat → Nat) : AV → Value
  | .inl v => v
  | .inr i => .ref (ad i)
/-- the class (its number in vwCl) of an id that is an object -/
def ocl (i : Nat) : Option Nat :=
  if i % 20 = 0 ∧ 20 ≤ i ∧ i ≤ 140 then some 3 else if i = 0 then some 6 else if i = 1 then some 2 else if i = 3 then some 5 else if i = 5 then some 4
  else if i = 6 then some 0 else if i = 12 then some 0 else if i = 18 then some 1 else if i = 200 then some 7 else none
def nfl (ci : Nat) : Nat := if ci = 0 then 5 else if ci = 1 then 1 else if ci = 2 then 3 else if ci = 3 then 16 else if ci = 4 then 7 else if ci = 5 then 4 else if ci = 6 then 7 else 18
/-- the id that a field of references holds -/
def fref (ci i k : Nat) : Option Nat :=
  if ci = 0 then some (i + 1 + k) else if ci = 2 then (if k = 0 then some 2 else none) else if ci = 3 then (if k = 6 ∨ k = 7 then none else some (i + 1 + k))
  else if ci = 5 then (if k = 0 then some 4 else none)
  else if ci = 6 then (if k = 0 then some 20 else if k = 1 then some 1 else if k = 2 then some 3 else if k = 3 then some 5 else if k = 4 then some 6 else if k = 5 then some 12 else none)
  else if ci = 7 then (if k = 1 then some 201 else if k = 3 then some 202 else if k = 6 then some 203 else if k = 7 then some 204 else if k = 8 then some 205 else if k = 9 then some 206 else if k = 10 then some 207 else if k = 11 then some 208 else if k = 16 then some 209 else none)
  else none
def flong (ci k : Nat) : Bool := decide (ci = 1 ∧ k = 0 ∨ ci = 7 ∧ k = 17)
def alnL (i : Nat) : Nat := if i = 210 then 8 else if i = 211 then 30 else if i = 212 then 3 else if i = 213 then 63 else if i = 214 then 8 else if i = 215 then 30 else if i = 216 then 3 else if i = 217 then 63 else if i = 218 then 28 else if i = 219 then 28 else 8
def aln (i : Nat) : Nat :=
  if 210 ≤ i then alnL i else
  if 20 ≤ i ∧ i < 160 then (if i % 20 = 1 then 8 else if i % 20 < 7 then 6 else 24)
  else if i = 4 then 60 else if i = 11 ∨ i = 17 then 7 else if 6 < i ∧ i < 18 then 24 else if i = 201 then 232 else if i = 202 then 1392 else if i = 203 then 60 else if i = 204 then 8 else if i = 209 then 96 else 24
def fvM (ad : Nat → Nat) (V : VV) (L : LL) (i ci k : Nat) : Value := match fref ci i k with
  | some j => .ref (ad j)
  | none => if flong ci k = true then .long (L i k) else .int (V i k)
/-- 0 int, 1 boolean, 2 references, 3 long -/
def akd (i : Nat) : Nat := if i = 2 then 2 else if i = 10 ∨ i = 16 then 1 else if i = 9999 then 3 else 0
def cellM (ca : Nat → ClassId) (ad : Nat → Nat) (V : VV) (L : LL) (N : NN) (i : Nat) : va_E := match ocl i with
  | some ci => .inr (ci, (List.range (nfl ci)).map (fvM ad V L i ci))
  | none => if akd i = 2 then .inl (ca 2, 6, .inr (.inr (.inr (.inr (fun k => if N k = true then none else some (ad (40 + 20 * k)))))))
    else if akd i = 3 then .inl (ca 3, 1, .inr (.inl (L i)))
    else if akd i = 1 then .inl (ca 1, aln i, .inl (V i)) else .inl (ca 0, aln i, .inl (V i))
def wsM (ca : Nat → ClassId) (ad : Nat → Nat) (V : VV) (L : LL) (N : NN) (I : List Nat) : va_W := I.map (fun i => (ad i, cellM ca ad V L N i))
def dyn (i : Nat) : Bool := decide (i = 18 ∨ (40 ≤ i ∧ i < 160) ∨ i = 218 ∨ i = 219 ∨ i = 221)
abbrev tyM (ca : Nat → ClassId) : List (ClassId × FieldType) := [(ca 0, .int), (ca 1, .boolean), (ca 2, .object RX3), (ca 3, .int)]
def up (V : VV) (o k : Nat) (x : Int32) : VV := fun i j => if i = o then (if j = k then x else V i j) else V i j
theorem up_ss {V : VV} {o k : Nat} {x : Int32} : up V o k x o k = x := by simp [up]
theorem up_no {V : VV} {o k i j : Nat} {x : Int32} (h : i ≠ o) : up V o k x i j = V i j := by simp [up, h]
theorem up_nk {V : VV} {o k i j : Nat} {x : Int32} (h : j ≠ k) : up V o k x i j = V i j := by simp [up, h]
theorem up_nf {V : VV} {o k i : Nat} {x : Int32} (h : i ≠ o) : up V o k x i = V i := funext fun j => up_no h
def U0 : List Cond := lw_tbl.filter goodWord
theorem u0_in {w : Cond} (i : Nat) (h : lw_tbl[i]? = some w) (g : goodWord w = true) : w ∈ U0 := List.mem_filter.mpr ⟨List.mem_of_getElem? h, g⟩
theorem u0_good {w : Cond} (h : w ∈ U0) : (w.onTables && w.keeps) = true ∨ ∃ ty, w = .arrayClass ty := good_of_word (List.mem_filter.mp h).2
/-- the words that are not good, but that a warm table keeps -/
def ubw : Cond → Bool
  | .methodLinkNest .. | .fieldLinkNest .. | .castable .. | .declares .. | .privateMethod .. => true
  | _ => false
theorem ub_warm {s U : State} (hW : s.WarmedH U.vm) : ∀ {w : Cond}, ubw w = true → w.before #[] s = true → w.before #[] U = true := by
  intro w hu h
  cases w with
  | methodLinkNest a i x hh => exact va_Nw.warmM hW h
  | fieldLinkNest a i b n d hh => exact va_Nw.warmF hW h
  | castable a b => exact va_tabs rfl (rfl : (s.setVm U.vm).vm = U.vm) (Cond.before_shiftedCast (State.Shifted.of_warmed hW) _ rfl h)
  | declares x => exact va_tabs rfl (rfl : (s.setVm U.vm).vm = U.vm) (Cond.before_shiftedCast (State.Shifted.of_warmed hW) _ rfl h)
  | privateMethod x => exact va_tabs rfl (rfl : (s.setVm U.vm).vm = U.vm) (Cond.before_shiftedCast (State.Shifted.of_warmed hW) _ rfl h)
  | _ => simp [ubw] at hu
/-- which exceptions are no instances of which class -/
def ncs : List (String × String) := []
def Gl (U : State) : Prop := (∀ w ∈ tables_1, ubw w = true → w.before #[] U = true) ∧ (∀ own k tx, Cond.stringRef own k tx ∈ tables_1 → ∃ a, vk_R own k tx a U) ∧ (∀ q ∈ ncs, va_Nc q.1 q.2 U)
theorem Gl.warm {s U : State} (hW : s.WarmedH U.vm) (h : Gl s) : Gl U := by
  refine ⟨fun w hw hu => ub_warm hW hu (h.1 w hw hu), fun own k tx hm => ?_, fun q hq => ?_⟩
  · obtain ⟨a, ha⟩ := h.2.1 own k tx hm
    exact ⟨a, vk_R.warm hW ha⟩
  · exact va_Nc.moved hW.alike (h.2.2 q hq)
/-- the statics that are read: two of Throwable's, three arrays -/
def stArr (j : Nat) : String := if j = 0 then "LEAST_SETTINGS" else if j = 1 then "GREATEST_SETTINGS" else "FIRST_SETTINGS"
def stVal (j k : Nat) : Int32 := (([[0, 721, 0, 0, 1, 0, 0, 0], [720, 1440, 120, 240, 100, 100, 30, 600], [480, 1380, 10, 60, 20, 50, 8, 120]] : List (List Int32)).getD j []).getD k 0
def StA (A : Nat → Prop) (U : State) (H : Heap) : Prop := vx_Zq Bundle.tN "UNASSIGNED_STACK" Bundle.steD A U H ∧ vx_Zq Bundle.tN "SUPPRESSED_SENTINEL" Bundle.listD A U H ∧
  ∀ j, j < 3 → ∃ t, va_Z RX6 (stArr j) "[I" (.ref t) A U H ∧ va_T .int t 8 (fun k => .int (stVal j k)) A U H
theorem StA.moved {A : Nat → Prop} {u U : State} {H : Heap} (hvm : u.vm.Alike U.vm) (h : StA A u H) : StA A U H := by
  refine ⟨h.1.moved hvm, h.2.1.moved hvm, fun j hj => ?_⟩
  obtain ⟨t, h1, h2⟩ := h.2.2 j hj
  exact ⟨t, h1.moved hvm, h2.moved hvm⟩
theorem StA.kept {A : Nat → Prop} {U : State} {H H1 : Heap} (h : StA A U H) (hq : ∀ a : Nat, a < H.size → ¬ A a → H1[a]? = H[a]?) : StA A U H1 := by
  refine ⟨h.1.kept hq, h.2.1.kept hq, fun j hj => ?_⟩
  obtain ⟨t, h1, h2⟩ := h.2.2 j hj
  exact ⟨t, h1.kept hq, h2.kept hq⟩
theorem StA.narrow {A B : Nat → Prop} {U : State} {H : Heap} (h : StA A U H) (hAB : ∀ q, B q → A q) : StA B U H := by
  refine ⟨h.1.narrow hAB, h.2.1.narrow hAB, fun j hj => ?_⟩
  obtain ⟨t, h1, h2⟩ := h.2.2 j hj
  exact ⟨t, h1.narrow hAB, h2.narrow hAB⟩
