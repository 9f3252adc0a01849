def RF (V : VV) : Nat → Nat → Int32 := fun k s => V 201 (40 + 8 * s + k)
def orTo (p : Nat → Bool) : Nat → Bool
  | 0 => false
  | n + 1 => orTo p n || p n
def inHourR (f m h : Int32) : Int32 :=
  if (if 60 * h < f then f else 60 * h) < (if f + m < 60 * h + 60 then f + m else 60 * h + 60) then (if f + m < 60 * h + 60 then f + m else 60 * h + 60) - (if 60 * h < f then f else 60 * h) else 0
def planR (F : Nat → Nat → Int32) (n : Nat) (d h : Int32) : Int32 := sumTo (fun s => if F 2 s = d then inHourR (F 3 s) (F 5 s) h else 0) n
def exR (F : Nat → Nat → Int32) (lim : Int32) (n : Nat) (d st sp : Int32) (h : Nat) : Bool := decide (lim < planR F n d (nI h) + inHourR st sp (nI h))
def refR (F : Nat → Nat → Int32) (G : Nat → Int32) (al : Int32) (n : Nat) (kd g d st ln sp : Int32) (o : Nat) : Int32 :=
  if n = 24 then 1 else if kd = 2 ∧ F 0 o = 2 then 2 else if st < G 0 ∨ G 1 < st + ln then 3 else if orTo (hitS F d st ln) n = true then 4
  else if kd = 2 ∧ 1440 * d + st < earlS F (G 4) o then 5 else if al < wolS F (G 5) n g + worthF (G 5) kd ln then 6 else if orTo (exR F (G 6) n d st sp) 24 = true then 7 else 0
def tapeV (V : VV) (k g d s l sp o : Int32) : VV := up (up (up (up (up (up (up (up V 204 0 k) 204 1 g) 204 2 d) 204 3 s) 204 4 l) 204 5 sp) 204 6 0) 204 7 o
