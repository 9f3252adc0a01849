section
variable {E : EE} {own : String} {cc : ByteArray} {ret : Option FieldType} {nL D MC MS pc : Nat} {ls : zLS} {st : List AV} {V : VV} {L : LL} {N : NN} {I : List Nat} {a b : Nat}
theorem st_len {ad : Nat → Nat} : (st.map (en ad)).length = st.length := by simp
theorem x_iconst (C : OK E own cc nL ret D MC MS) {n : Int} (v : Int32) (d : decode cc pc = .ok (.iconst n, 1)) (hv : Int32.ofInt n = v) (K : Wx E (pc + 1) (ls) (aI v :: st) V L N I a b) : Wx E (pc) (ls) (st) V L N I a b := by
  intro ad H locs lsa hP hD hS ha hl
  refine lv_iconst C.1 C.2.1 d hv ?_
  exact K ad H locs lsa hP hD hS ha hl
theorem x_bipush (C : OK E own cc nL ret D MC MS) {n : Int} (v : Int32) (d : decode cc pc = .ok (.bipush n, 2)) (hv : (Int8.ofInt n).toInt32 = v) (K : Wx E (pc + 2) (ls) (aI v :: st) V L N I a b) : Wx E (pc) (ls) (st) V L N I a b := by
  intro ad H locs lsa hP hD hS ha hl
  refine lv_bipush C.1 C.2.1 d hv ?_
  exact K ad H locs lsa hP hD hS ha hl
theorem x_sipush (C : OK E own cc nL ret D MC MS) {n : Int} (v : Int32) (d : decode cc pc = .ok (.sipush n, 3)) (hv : (Int16.ofInt n).toInt32 = v) (K : Wx E (pc + 3) (ls) (aI v :: st) V L N I a b) : Wx E (pc) (ls) (st) V L N I a b := by
  intro ad H locs lsa hP hD hS ha hl
  refine lv_sipush C.1 C.2.1 d hv ?_
  exact K ad H locs lsa hP hD hS ha hl
theorem x_lconst (C : OK E own cc nL ret D MC MS) {n : Fin 2} (v : Int64) (d : decode cc pc = .ok (.lconst n, 1)) (hv : Int64.ofNat (n : Nat) = v) (K : Wx E (pc + 1) (ls) (aL v :: st) V L N I a b) : Wx E (pc) (ls) (st) V L N I a b := by
  intro ad H locs lsa hP hD hS ha hl
  refine lv_lconst C.1 C.2.1 d hv ?_
  exact K ad H locs lsa hP hD hS ha hl
theorem x_dconst0 (C : OK E own cc nL ret D MC MS) (d : decode cc pc = .ok (.dconst 0, 1)) (K : Wx E (pc + 1) (ls) (aD FP.dconst0 :: st) V L N I a b) : Wx E (pc) (ls) (st) V L N I a b := by
  intro ad H locs lsa hP hD hS ha hl
  refine lv_dconst0 C.1 C.2.1 d ?_
  exact K ad H locs lsa hP hD hS ha hl
theorem x_dconst1 (C : OK E own cc nL ret D MC MS) (d : decode cc pc = .ok (.dconst 1, 1)) (K : Wx E (pc + 1) (ls) (aD FP.dconst1 :: st) V L N I a b) : Wx E (pc) (ls) (st) V L N I a b := by
  intro ad H locs lsa hP hD hS ha hl
  refine lv_dconst1 C.1 C.2.1 d ?_
  exact K ad H locs lsa hP hD hS ha hl
theorem x_iload_n (C : OK E own cc nL ret D MC MS) {k : Fin 4} {x : Int32} (d : decode cc pc = .ok (.iload_n k, 1)) (h : ls[(k : Nat)]? = some (some (aI x))) (K : Wx E (pc + 1) (ls) (aI x :: st) V L N I a b) : Wx E (pc) (ls) (st) V L N I a b := by
  intro ad H locs lsa hP hD hS ha hl
  refine lv_iload_n C.1 C.2.1 d rfl (hl.2.2 _ _ h) ?_
  exact K ad H locs lsa hP hD hS ha hl
theorem x_iload (C : OK E own cc nL ret D MC MS) {k : Nat} {x : Int32} (d : decode cc pc = .ok (.iload k, 2)) (h : ls[k]? = some (some (aI x))) (K : Wx E (pc + 2) (ls) (aI x :: st) V L N I a b) : Wx E (pc) (ls) (st) V L N I a b := by
  intro ad H locs lsa hP hD hS ha hl
  refine lv_iload C.1 C.2.1 d (hl.2.2 _ _ h) ?_
  exact K ad H locs lsa hP hD hS ha hl
theorem x_lload_n (C : OK E own cc nL ret D MC MS) {k : Fin 4} {x : Int64} (d : decode cc pc = .ok (.lload_n k, 1)) (h : ls[(k : Nat)]? = some (some (aL x))) (K : Wx E (pc + 1) (ls) (aL x :: st) V L N I a b) : Wx E (pc) (ls) (st) V L N I a b := by
  intro ad H locs lsa hP hD hS ha hl
  refine lv_lload_n C.1 C.2.1 d rfl (hl.2.2 _ _ h) ?_
  exact K ad H locs lsa hP hD hS ha hl
theorem x_lload (C : OK E own cc nL ret D MC MS) {k : Nat} {x : Int64} (d : decode cc pc = .ok (.lload k, 2)) (h : ls[k]? = some (some (aL x))) (K : Wx E (pc + 2) (ls) (aL x :: st) V L N I a b) : Wx E (pc) (ls) (st) V L N I a b := by
  intro ad H locs lsa hP hD hS ha hl
  refine lv_lload C.1 C.2.1 d (hl.2.2 _ _ h) ?_
  exact K ad H locs lsa hP hD hS ha hl
theorem x_dload_n (C : OK E own cc nL ret D MC MS) {k : Fin 4} {x : UInt64} (d : decode cc pc = .ok (.dload_n k, 1)) (h : ls[(k : Nat)]? = some (some (aD x))) (K : Wx E (pc + 1) (ls) (aD x :: st) V L N I a b) : Wx E (pc) (ls) (st) V L N I a b := by
  intro ad H locs lsa hP hD hS ha hl
  refine lv_dload_n C.1 C.2.1 d rfl (hl.2.2 _ _ h) ?_
  exact K ad H locs lsa hP hD hS ha hl
theorem x_dload (C : OK E own cc nL ret D MC MS) {k : Nat} {x : UInt64} (d : decode cc pc = .ok (.dload k, 2)) (h : ls[k]? = some (some (aD x))) (K : Wx E (pc + 2) (ls) (aD x :: st) V L N I a b) : Wx E (pc) (ls) (st) V L N I a b := by
  intro ad H locs lsa hP hD hS ha hl
  refine lv_dload C.1 C.2.1 d (hl.2.2 _ _ h) ?_
  exact K ad H locs lsa hP hD hS ha hl
theorem x_aload_n (C : OK E own cc nL ret D MC MS) {k : Fin 4} {x : Nat} (d : decode cc pc = .ok (.aload_n k, 1)) (h : ls[(k : Nat)]? = some (some (aR x))) (K : Wx E (pc + 1) (ls) (aR x :: st) V L N I a b) : Wx E (pc) (ls) (st) V L N I a b := by
  intro ad H locs lsa hP hD hS ha hl
  refine lv_aload_n C.1 C.2.1 d rfl (hl.2.2 _ _ h) ?_
  exact K ad H locs lsa hP hD hS ha hl
theorem x_aload (C : OK E own cc nL ret D MC MS) {k : Nat} {x : Nat} (d : decode cc pc = .ok (.aload k, 2)) (h : ls[k]? = some (some (aR x))) (K : Wx E (pc + 2) (ls) (aR x :: st) V L N I a b) : Wx E (pc) (ls) (st) V L N I a b := by
  intro ad H locs lsa hP hD hS ha hl
  refine lv_aload C.1 C.2.1 d (hl.2.2 _ _ h) ?_
  exact K ad H locs lsa hP hD hS ha hl
theorem x_aload_nq (C : OK E own cc nL ret D MC MS) {k : Fin 4} {x : Nat} (d : decode cc pc = .ok (.aload_n k, 1)) (h : ls[(k : Nat)]? = some (some (aQ x))) (K : Wx E (pc + 1) (ls) (aQ x :: st) V L N I a b) : Wx E (pc) (ls) (st) V L N I a b := by
  intro ad H locs lsa hP hD hS ha hl
  refine lv_aload_n C.1 C.2.1 d rfl (hl.2.2 _ _ h) ?_
  exact K ad H locs lsa hP hD hS ha hl
theorem x_aloadq (C : OK E own cc nL ret D MC MS) {k : Nat} {x : Nat} (d : decode cc pc = .ok (.aload k, 2)) (h : ls[k]? = some (some (aQ x))) (K : Wx E (pc + 2) (ls) (aQ x :: st) V L N I a b) : Wx E (pc) (ls) (st) V L N I a b := by
  intro ad H locs lsa hP hD hS ha hl
  refine lv_aload C.1 C.2.1 d (hl.2.2 _ _ h) ?_
  exact K ad H locs lsa hP hD hS ha hl
theorem x_istore_n (C : OK E own cc nL ret D MC MS) {k : Fin 4} {x : Int32} (d : decode cc pc = .ok (.istore_n k, 1)) (hn : (k : Nat) < nL) (K : Wx E (pc + 1) (st1 ls (k : Nat) (aI x)) st V L N I a b) : Wx E (pc) (ls) (aI x :: st) V L N I a b := by
  intro ad H locs lsa hP hD hS ha hl
  refine lv_istore_n C.1 C.2.1 d rfl hl.has (C.nl ▸ hn) rfl (fun ls1 h1 => ?_)
  exact K ad H locs ls1 hP hD hS ha (LH_st1 rfl h1)
theorem x_istore (C : OK E own cc nL ret D MC MS) {k : Nat} {x : Int32} (d : decode cc pc = .ok (.istore k, 2)) (hn : k < nL) (K : Wx E (pc + 2) (st1 ls k (aI x)) st V L N I a b) : Wx E (pc) (ls) (aI x :: st) V L N I a b := by
  intro ad H locs lsa hP hD hS ha hl
  refine lv_istore C.1 C.2.1 d hl.has (C.nl ▸ hn) rfl (fun ls1 h1 => ?_)
  exact K ad H locs ls1 hP hD hS ha (LH_st1 rfl h1)
theorem x_lstore_n (C : OK E own cc nL ret D MC MS) {k : Fin 4} {x : Int64} (d : decode cc pc = .ok (.lstore_n k, 1)) (hn : (k : Nat) + 1 < nL) (K : Wx E (pc + 1) (st2 ls (k : Nat) (aL x)) st V L N I a b) : Wx E (pc) (ls) (aL x :: st) V L N I a b := by
  intro ad H locs lsa hP hD hS ha hl
  refine lv_lstore_n C.1 C.2.1 d rfl hl.has (C.nl ▸ hn) rfl (fun ls1 h1 => ?_)
  exact K ad H locs ls1 hP hD hS ha (LH_st2 rfl h1)
theorem x_lstore (C : OK E own cc nL ret D MC MS) {k : Nat} {x : Int64} (d : decode cc pc = .ok (.lstore k, 2)) (hn : k + 1 < nL) (K : Wx E (pc + 2) (st2 ls k (aL x)) st V L N I a b) : Wx E (pc) (ls) (aL x :: st) V L N I a b := by
  intro ad H locs lsa hP hD hS ha hl
  refine lv_lstore C.1 C.2.1 d hl.has (C.nl ▸ hn) rfl (fun ls1 h1 => ?_)
  exact K ad H locs ls1 hP hD hS ha (LH_st2 rfl h1)
theorem x_dstore_n (C : OK E own cc nL ret D MC MS) {k : Fin 4} {x : UInt64} (d : decode cc pc = .ok (.dstore_n k, 1)) (hn : (k : Nat) + 1 < nL) (K : Wx E (pc + 1) (st2 ls (k : Nat) (aD x)) st V L N I a b) : Wx E (pc) (ls) (aD x :: st) V L N I a b := by
  intro ad H locs lsa hP hD hS ha hl
  refine lv_dstore_n C.1 C.2.1 d rfl hl.has (C.nl ▸ hn) rfl (fun ls1 h1 => ?_)
  exact K ad H locs ls1 hP hD hS ha (LH_st2 rfl h1)
theorem x_dstore (C : OK E own cc nL ret D MC MS) {k : Nat} {x : UInt64} (d : decode cc pc = .ok (.dstore k, 2)) (hn : k + 1 < nL) (K : Wx E (pc + 2) (st2 ls k (aD x)) st V L N I a b) : Wx E (pc) (ls) (aD x :: st) V L N I a b := by
  intro ad H locs lsa hP hD hS ha hl
  refine lv_dstore C.1 C.2.1 d hl.has (C.nl ▸ hn) rfl (fun ls1 h1 => ?_)
  exact K ad H locs ls1 hP hD hS ha (LH_st2 rfl h1)
theorem x_astore_n (C : OK E own cc nL ret D MC MS) {k : Fin 4} {x : Nat} (d : decode cc pc = .ok (.astore_n k, 1)) (hn : (k : Nat) < nL) (K : Wx E (pc + 1) (st1 ls (k : Nat) (aR x)) st V L N I a b) : Wx E (pc) (ls) (aR x :: st) V L N I a b := by
  intro ad H locs lsa hP hD hS ha hl
  refine lv_astore_n C.1 C.2.1 d rfl hl.has (C.nl ▸ hn) rfl (fun ls1 h1 => ?_)
  exact K ad H locs ls1 hP hD hS ha (LH_st1 rfl h1)
theorem x_astore (C : OK E own cc nL ret D MC MS) {k : Nat} {x : Nat} (d : decode cc pc = .ok (.astore k, 2)) (hn : k < nL) (K : Wx E (pc + 2) (st1 ls k (aR x)) st V L N I a b) : Wx E (pc) (ls) (aR x :: st) V L N I a b := by
  intro ad H locs lsa hP hD hS ha hl
  refine lv_astore C.1 C.2.1 d hl.has (C.nl ▸ hn) rfl (fun ls1 h1 => ?_)
  exact K ad H locs ls1 hP hD hS ha (LH_st1 rfl h1)
theorem x_astore_nq (C : OK E own cc nL ret D MC MS) {k : Fin 4} {x : Nat} (d : decode cc pc = .ok (.astore_n k, 1)) (hn : (k : Nat) < nL) (K : Wx E (pc + 1) (st1 ls (k : Nat) (aQ x)) st V L N I a b) : Wx E (pc) (ls) (aQ x :: st) V L N I a b := by
  intro ad H locs lsa hP hD hS ha hl
  refine lv_astore_n C.1 C.2.1 d rfl hl.has (C.nl ▸ hn) rfl (fun ls1 h1 => ?_)
  exact K ad H locs ls1 hP hD hS ha (LH_st1 rfl h1)
theorem x_astoreq (C : OK E own cc nL ret D MC MS) {k : Nat} {x : Nat} (d : decode cc pc = .ok (.astore k, 2)) (hn : k < nL) (K : Wx E (pc + 2) (st1 ls k (aQ x)) st V L N I a b) : Wx E (pc) (ls) (aQ x :: st) V L N I a b := by
  intro ad H locs lsa hP hD hS ha hl
  refine lv_astore C.1 C.2.1 d hl.has (C.nl ▸ hn) rfl (fun ls1 h1 => ?_)
  exact K ad H locs ls1 hP hD hS ha (LH_st1 rfl h1)
theorem x_iinc (C : OK E own cc nL ret D MC MS) {k : Nat} {n : Int} {x : Int32} (v : Int32) (d : decode cc pc = .ok (.iinc k n, 3)) (h : ls[k]? = some (some (aI x))) (hv : x + Int32.ofInt n = v) (hn : k < nL) (K : Wx E (pc + 3) (st1 ls k (aI v)) st V L N I a b) : Wx E (pc) (ls) (st) V L N I a b := by
  intro ad H locs lsa hP hD hS ha hl
  obtain ⟨j, hj⟩ := List.getElem?_of_mem (toL_mem (ad := ad) h)
  refine lv_iinc C.1 C.2.1 d hl.has hj hv (C.nl ▸ hn) rfl (fun ls1 h1 => ?_)
  exact K ad H locs ls1 hP hD hS ha (LH_st1 rfl h1)
theorem x_iadd (C : OK E own cc nL ret D MC MS) {x y : Int32} (d : decode cc pc = .ok (.iadd, 1)) (K : Wx E (pc + 1) (ls) (aI (x + y) :: st) V L N I a b) : Wx E (pc) (ls) (aI y :: aI x :: st) V L N I a b := by
  intro ad H locs lsa hP hD hS ha hl
  refine lv_iadd C.1 C.2.1 d ?_
  exact K ad H locs lsa hP hD hS ha hl
theorem x_isub (C : OK E own cc nL ret D MC MS) {x y : Int32} (d : decode cc pc = .ok (.isub, 1)) (K : Wx E (pc + 1) (ls) (aI (x - y) :: st) V L N I a b) : Wx E (pc) (ls) (aI y :: aI x :: st) V L N I a b := by
  intro ad H locs lsa hP hD hS ha hl
  refine lv_isub C.1 C.2.1 d ?_
  exact K ad H locs lsa hP hD hS ha hl
theorem x_imul (C : OK E own cc nL ret D MC MS) {x y : Int32} (d : decode cc pc = .ok (.imul, 1)) (K : Wx E (pc + 1) (ls) (aI (x * y) :: st) V L N I a b) : Wx E (pc) (ls) (aI y :: aI x :: st) V L N I a b := by
  intro ad H locs lsa hP hD hS ha hl
  refine lv_imul C.1 C.2.1 d ?_
  exact K ad H locs lsa hP hD hS ha hl
theorem x_iand (C : OK E own cc nL ret D MC MS) {x y : Int32} (d : decode cc pc = .ok (.iand, 1)) (K : Wx E (pc + 1) (ls) (aI (x &&& y) :: st) V L N I a b) : Wx E (pc) (ls) (aI y :: aI x :: st) V L N I a b := by
  intro ad H locs lsa hP hD hS ha hl
  refine lv_iand C.1 C.2.1 d ?_
  exact K ad H locs lsa hP hD hS ha hl
theorem x_idiv (C : OK E own cc nL ret D MC MS) {x y : Int32} (d : decode cc pc = .ok (.idiv, 1)) (hne : ¬ y = 0) (K : Wx E (pc + 1) (ls) (aI (x / y) :: st) V L N I a b) : Wx E (pc) (ls) (aI y :: aI x :: st) V L N I a b := by
  intro ad H locs lsa hP hD hS ha hl
  refine lv_idiv C.1 C.2.1 d hne ?_
  exact K ad H locs lsa hP hD hS ha hl
theorem x_irem (C : OK E own cc nL ret D MC MS) {x y : Int32} (d : decode cc pc = .ok (.irem, 1)) (hne : ¬ y = 0) (K : Wx E (pc + 1) (ls) (aI (x - x / y * y) :: st) V L N I a b) : Wx E (pc) (ls) (aI y :: aI x :: st) V L N I a b := by
  intro ad H locs lsa hP hD hS ha hl
  refine lv_irem C.1 C.2.1 d hne ?_
  exact K ad H locs lsa hP hD hS ha hl
theorem x_ineg (C : OK E own cc nL ret D MC MS) {x : Int32} (d : decode cc pc = .ok (.ineg, 1)) (K : Wx E (pc + 1) (ls) (aI (-x) :: st) V L N I a b) : Wx E (pc) (ls) (aI x :: st) V L N I a b := by
  intro ad H locs lsa hP hD hS ha hl
  refine lv_ineg C.1 C.2.1 d ?_
  exact K ad H locs lsa hP hD hS ha hl
theorem x_ladd (C : OK E own cc nL ret D MC MS) {x y : Int64} (d : decode cc pc = .ok (.ladd, 1)) (K : Wx E (pc + 1) (ls) (aL (x + y) :: st) V L N I a b) : Wx E (pc) (ls) (aL y :: aL x :: st) V L N I a b := by
  intro ad H locs lsa hP hD hS ha hl
  refine lv_ladd C.1 C.2.1 d ?_
  exact K ad H locs lsa hP hD hS ha hl
theorem x_lsub (C : OK E own cc nL ret D MC MS) {x y : Int64} (d : decode cc pc = .ok (.lsub, 1)) (K : Wx E (pc + 1) (ls) (aL (x - y) :: st) V L N I a b) : Wx E (pc) (ls) (aL y :: aL x :: st) V L N I a b := by
  intro ad H locs lsa hP hD hS ha hl
  refine lv_lsub C.1 C.2.1 d ?_
  exact K ad H locs lsa hP hD hS ha hl
theorem x_lmul (C : OK E own cc nL ret D MC MS) {x y : Int64} (d : decode cc pc = .ok (.lmul, 1)) (K : Wx E (pc + 1) (ls) (aL (x * y) :: st) V L N I a b) : Wx E (pc) (ls) (aL y :: aL x :: st) V L N I a b := by
  intro ad H locs lsa hP hD hS ha hl
  refine lv_lmul C.1 C.2.1 d ?_
  exact K ad H locs lsa hP hD hS ha hl
theorem x_lshl (C : OK E own cc nL ret D MC MS) {x : Int64} {y : Int32} (d : decode cc pc = .ok (.lshl, 1)) (K : Wx E (pc + 1) (ls) (aL (x <<< (y.toInt64 &&& 63)) :: st) V L N I a b) : Wx E (pc) (ls) (aI y :: aL x :: st) V L N I a b := by
  intro ad H locs lsa hP hD hS ha hl
  refine lv_lshl C.1 C.2.1 d rfl ?_
  exact K ad H locs lsa hP hD hS ha hl
theorem x_i2l (C : OK E own cc nL ret D MC MS) {x : Int32} (d : decode cc pc = .ok (.i2l, 1)) (K : Wx E (pc + 1) (ls) (aL x.toInt64 :: st) V L N I a b) : Wx E (pc) (ls) (aI x :: st) V L N I a b := by
  intro ad H locs lsa hP hD hS ha hl
  refine lv_i2l C.1 C.2.1 d rfl ?_
  exact K ad H locs lsa hP hD hS ha hl
theorem x_lcmp (C : OK E own cc nL ret D MC MS) {x y : Int64} (d : decode cc pc = .ok (.lcmp, 1)) (K : Wx E (pc + 1) (ls) (aI (lg_cmp x y) :: st) V L N I a b) : Wx E (pc) (ls) (aL y :: aL x :: st) V L N I a b := by
  intro ad H locs lsa hP hD hS ha hl
  refine W.lcmp C.1 C.2.1 d ?_
  exact K ad H locs lsa hP hD hS ha hl
theorem x_dcmp (C : OK E own cc nL ret D MC MS) {x y : UInt64} {op : CmpOp} (d : decode cc pc = .ok (.dcmp op, 1)) (K : Wx E (pc + 1) (ls) (aI (Op.cmpValue (FP.dcmp x y) op) :: st) V L N I a b) : Wx E (pc) (ls) (aD y :: aD x :: st) V L N I a b := by
  intro ad H locs lsa hP hD hS ha hl
  refine lv_dcmp C.1 C.2.1 d ?_
  exact K ad H locs lsa hP hD hS ha hl
theorem x_dmul (C : OK E own cc nL ret D MC MS) {x y : UInt64} (d : decode cc pc = .ok (.dmul, 1)) (hne : vf_n64 (FP.dmul x y)) (K : Wx E (pc + 1) (ls) (aD (FP.dmul x y) :: st) V L N I a b) : Wx E (pc) (ls) (aD y :: aD x :: st) V L N I a b := by
  intro ad H locs lsa hP hD hS ha hl
  refine lv_dmul C.1 C.2.1 d hne ?_
  exact K ad H locs lsa hP hD hS ha hl
theorem x_dsub (C : OK E own cc nL ret D MC MS) {x y : UInt64} (d : decode cc pc = .ok (.dsub, 1)) (hne : vf_n64 (FP.dsub x y)) (K : Wx E (pc + 1) (ls) (aD (FP.dsub x y) :: st) V L N I a b) : Wx E (pc) (ls) (aD y :: aD x :: st) V L N I a b := by
  intro ad H locs lsa hP hD hS ha hl
  refine lv_dsub C.1 C.2.1 d hne ?_
  exact K ad H locs lsa hP hD hS ha hl
theorem x_ddiv (C : OK E own cc nL ret D MC MS) {x y : UInt64} (d : decode cc pc = .ok (.ddiv, 1)) (hne : vf_n64 (FP.ddiv x y)) (K : Wx E (pc + 1) (ls) (aD (FP.ddiv x y) :: st) V L N I a b) : Wx E (pc) (ls) (aD y :: aD x :: st) V L N I a b := by
  intro ad H locs lsa hP hD hS ha hl
  refine lv_ddiv C.1 C.2.1 d hne ?_
  exact K ad H locs lsa hP hD hS ha hl
theorem x_i2d (C : OK E own cc nL ret D MC MS) {x : Int32} (d : decode cc pc = .ok (.i2d, 1)) (K : Wx E (pc + 1) (ls) (aD (FP.i2d x) :: st) V L N I a b) : Wx E (pc) (ls) (aI x :: st) V L N I a b := by
  intro ad H locs lsa hP hD hS ha hl
  refine lv_i2d C.1 C.2.1 d ?_
  exact K ad H locs lsa hP hD hS ha hl
theorem x_d2l (C : OK E own cc nL ret D MC MS) {x : UInt64} (d : decode cc pc = .ok (.d2l, 1)) (K : Wx E (pc + 1) (ls) (aL (FP.d2l x) :: st) V L N I a b) : Wx E (pc) (ls) (aD x :: st) V L N I a b := by
  intro ad H locs lsa hP hD hS ha hl
  refine lv_d2l C.1 C.2.1 d ?_
  exact K ad H locs lsa hP hD hS ha hl
theorem x_dup (C : OK E own cc nL ret D MC MS) {v : AV} (d : decode cc pc = .ok (.dup, 1)) (hw : isW v = false) (K : Wx E (pc + 1) (ls) (v :: v :: st) V L N I a b) : Wx E (pc) (ls) (v :: st) V L N I a b := by
  intro ad H locs lsa hP hD hS ha hl
  refine lv_dup C.1 C.2.1 d (by rcases lv_cat (en ad v) with q | q; exact q; exact absurd (isW_cat.mp q) (by rw [hw]; decide)) ?_
  exact K ad H locs lsa hP hD hS ha hl
theorem x_pop (C : OK E own cc nL ret D MC MS) {v : AV} (d : decode cc pc = .ok (.pop, 1)) (hw : isW v = false) (K : Wx E (pc + 1) (ls) (st) V L N I a b) : Wx E (pc) (ls) (v :: st) V L N I a b := by
  intro ad H locs lsa hP hD hS ha hl
  refine lv_pop C.1 C.2.1 d (by rcases lv_cat (en ad v) with q | q; exact q; exact absurd (isW_cat.mp q) (by rw [hw]; decide)) ?_
  exact K ad H locs lsa hP hD hS ha hl
theorem x_dup2 (C : OK E own cc nL ret D MC MS) {v u : AV} (d : decode cc pc = .ok (.dup2, 1)) (hw : isW v = false) (hw2 : isW u = false) (K : Wx E (pc + 1) (ls) (v :: u :: v :: u :: st) V L N I a b) : Wx E (pc) (ls) (v :: u :: st) V L N I a b := by
  intro ad H locs lsa hP hD hS ha hl
  refine lv_dup2_11 C.1 C.2.1 d (by rcases lv_cat (en ad v) with q | q; exact q; exact absurd (isW_cat.mp q) (by rw [hw]; decide)) (by rcases lv_cat (en ad u) with q | q; exact q; exact absurd (isW_cat.mp q) (by rw [hw2]; decide)) ?_
  exact K ad H locs lsa hP hD hS ha hl
theorem x_if_eq (C : OK E own cc nL ret D MC MS) {x : Int32} {off : Int} {tgt : Nat} (d : decode cc pc = .ok (.ifCond .eq off, 3)) (ht : (pc : Int) + off = (tgt : Int)) (kt : x = 0 → Wx E tgt ls st V L N I a b) (kf : ¬ x = 0 → Wx E (pc + 3) ls st V L N I a b) : Wx E (pc) (ls) (aI x :: st) V L N I a b := by
  intro ad H locs lsa hP hD hS ha hl
  exact lv_if_eq C.1 C.2.1 d ht (fun h => kt h ad H locs lsa hP hD hS ha hl) (fun h => kf h ad H locs lsa hP hD hS ha hl)
theorem x_icmp_eq (C : OK E own cc nL ret D MC MS) {x y : Int32} {off : Int} {tgt : Nat} (d : decode cc pc = .ok (.if_icmp .eq off, 3)) (ht : (pc : Int) + off = (tgt : Int)) (kt : x = y → Wx E tgt ls st V L N I a b) (kf : ¬ x = y → Wx E (pc + 3) ls st V L N I a b) : Wx E (pc) (ls) (aI y :: aI x :: st) V L N I a b := by
  intro ad H locs lsa hP hD hS ha hl
  exact lv_icmp_eq C.1 C.2.1 d ht (fun h => kt h ad H locs lsa hP hD hS ha hl) (fun h => kf h ad H locs lsa hP hD hS ha hl)
theorem x_if_ne (C : OK E own cc nL ret D MC MS) {x : Int32} {off : Int} {tgt : Nat} (d : decode cc pc = .ok (.ifCond .ne off, 3)) (ht : (pc : Int) + off = (tgt : Int)) (kt : ¬ x = 0 → Wx E tgt ls st V L N I a b) (kf : x = 0 → Wx E (pc + 3) ls st V L N I a b) : Wx E (pc) (ls) (aI x :: st) V L N I a b := by
  intro ad H locs lsa hP hD hS ha hl
  exact lv_if_ne C.1 C.2.1 d ht (fun h => kt h ad H locs lsa hP hD hS ha hl) (fun h => kf h ad H locs lsa hP hD hS ha hl)
theorem x_icmp_ne (C : OK E own cc nL ret D MC MS) {x y : Int32} {off : Int} {tgt : Nat} (d : decode cc pc = .ok (.if_icmp .ne off, 3)) (ht : (pc : Int) + off = (tgt : Int)) (kt : ¬ x = y → Wx E tgt ls st V L N I a b) (kf : x = y → Wx E (pc + 3) ls st V L N I a b) : Wx E (pc) (ls) (aI y :: aI x :: st) V L N I a b := by
  intro ad H locs lsa hP hD hS ha hl
  exact lv_icmp_ne C.1 C.2.1 d ht (fun h => kt h ad H locs lsa hP hD hS ha hl) (fun h => kf h ad H locs lsa hP hD hS ha hl)
theorem x_if_lt (C : OK E own cc nL ret D MC MS) {x : Int32} {off : Int} {tgt : Nat} (d : decode cc pc = .ok (.ifCond .lt off, 3)) (ht : (pc : Int) + off = (tgt : Int)) (kt : x < 0 → Wx E tgt ls st V L N I a b) (kf : ¬ x < 0 → Wx E (pc + 3) ls st V L N I a b) : Wx E (pc) (ls) (aI x :: st) V L N I a b := by
  intro ad H locs lsa hP hD hS ha hl
  exact lv_if_lt C.1 C.2.1 d ht (fun h => kt h ad H locs lsa hP hD hS ha hl) (fun h => kf h ad H locs lsa hP hD hS ha hl)
theorem x_icmp_lt (C : OK E own cc nL ret D MC MS) {x y : Int32} {off : Int} {tgt : Nat} (d : decode cc pc = .ok (.if_icmp .lt off, 3)) (ht : (pc : Int) + off = (tgt : Int)) (kt : x < y → Wx E tgt ls st V L N I a b) (kf : ¬ x < y → Wx E (pc + 3) ls st V L N I a b) : Wx E (pc) (ls) (aI y :: aI x :: st) V L N I a b := by
  intro ad H locs lsa hP hD hS ha hl
  exact lv_icmp_lt C.1 C.2.1 d ht (fun h => kt h ad H locs lsa hP hD hS ha hl) (fun h => kf h ad H locs lsa hP hD hS ha hl)
theorem x_if_ge (C : OK E own cc nL ret D MC MS) {x : Int32} {off : Int} {tgt : Nat} (d : decode cc pc = .ok (.ifCond .ge off, 3)) (ht : (pc : Int) + off = (tgt : Int)) (kt : 0 ≤ x → Wx E tgt ls st V L N I a b) (kf : ¬ 0 ≤ x → Wx E (pc + 3) ls st V L N I a b) : Wx E (pc) (ls) (aI x :: st) V L N I a b := by
  intro ad H locs lsa hP hD hS ha hl
  exact lv_if_ge C.1 C.2.1 d ht (fun h => kt h ad H locs lsa hP hD hS ha hl) (fun h => kf h ad H locs lsa hP hD hS ha hl)
theorem x_icmp_ge (C : OK E own cc nL ret D MC MS) {x y : Int32} {off : Int} {tgt : Nat} (d : decode cc pc = .ok (.if_icmp .ge off, 3)) (ht : (pc : Int) + off = (tgt : Int)) (kt : y ≤ x → Wx E tgt ls st V L N I a b) (kf : ¬ y ≤ x → Wx E (pc + 3) ls st V L N I a b) : Wx E (pc) (ls) (aI y :: aI x :: st) V L N I a b := by
  intro ad H locs lsa hP hD hS ha hl
  exact lv_icmp_ge C.1 C.2.1 d ht (fun h => kt h ad H locs lsa hP hD hS ha hl) (fun h => kf h ad H locs lsa hP hD hS ha hl)
theorem x_if_gt (C : OK E own cc nL ret D MC MS) {x : Int32} {off : Int} {tgt : Nat} (d : decode cc pc = .ok (.ifCond .gt off, 3)) (ht : (pc : Int) + off = (tgt : Int)) (kt : 0 < x → Wx E tgt ls st V L N I a b) (kf : ¬ 0 < x → Wx E (pc + 3) ls st V L N I a b) : Wx E (pc) (ls) (aI x :: st) V L N I a b := by
  intro ad H locs lsa hP hD hS ha hl
  exact lv_if_gt C.1 C.2.1 d ht (fun h => kt h ad H locs lsa hP hD hS ha hl) (fun h => kf h ad H locs lsa hP hD hS ha hl)
theorem x_icmp_gt (C : OK E own cc nL ret D MC MS) {x y : Int32} {off : Int} {tgt : Nat} (d : decode cc pc = .ok (.if_icmp .gt off, 3)) (ht : (pc : Int) + off = (tgt : Int)) (kt : y < x → Wx E tgt ls st V L N I a b) (kf : ¬ y < x → Wx E (pc + 3) ls st V L N I a b) : Wx E (pc) (ls) (aI y :: aI x :: st) V L N I a b := by
  intro ad H locs lsa hP hD hS ha hl
  exact lv_icmp_gt C.1 C.2.1 d ht (fun h => kt h ad H locs lsa hP hD hS ha hl) (fun h => kf h ad H locs lsa hP hD hS ha hl)
theorem x_if_le (C : OK E own cc nL ret D MC MS) {x : Int32} {off : Int} {tgt : Nat} (d : decode cc pc = .ok (.ifCond .le off, 3)) (ht : (pc : Int) + off = (tgt : Int)) (kt : x ≤ 0 → Wx E tgt ls st V L N I a b) (kf : ¬ x ≤ 0 → Wx E (pc + 3) ls st V L N I a b) : Wx E (pc) (ls) (aI x :: st) V L N I a b := by
  intro ad H locs lsa hP hD hS ha hl
  exact lv_if_le C.1 C.2.1 d ht (fun h => kt h ad H locs lsa hP hD hS ha hl) (fun h => kf h ad H locs lsa hP hD hS ha hl)
theorem x_icmp_le (C : OK E own cc nL ret D MC MS) {x y : Int32} {off : Int} {tgt : Nat} (d : decode cc pc = .ok (.if_icmp .le off, 3)) (ht : (pc : Int) + off = (tgt : Int)) (kt : x ≤ y → Wx E tgt ls st V L N I a b) (kf : ¬ x ≤ y → Wx E (pc + 3) ls st V L N I a b) : Wx E (pc) (ls) (aI y :: aI x :: st) V L N I a b := by
  intro ad H locs lsa hP hD hS ha hl
  exact lv_icmp_le C.1 C.2.1 d ht (fun h => kt h ad H locs lsa hP hD hS ha hl) (fun h => kf h ad H locs lsa hP hD hS ha hl)
theorem x_goto (C : OK E own cc nL ret D MC MS) {off : Int} {tgt : Nat} (d : decode cc pc = .ok (.goto off, 3)) (ht : (pc : Int) + off = (tgt : Int)) (K : Wx E tgt ls st V L N I a b) : Wx E (pc) (ls) (st) V L N I a b := by
  intro ad H locs lsa hP hD hS ha hl
  exact lv_goto C.1 C.2.1 d ht (K ad H locs lsa hP hD hS ha hl)
theorem x_tableOut (C : OK E own cc nL ret D MC MS) {dflt lo hi : Int} {offs : Array Int} {len : Nat} {x : Int32} {tgt : Nat} (d : decode cc pc = .ok (.tableswitch dflt lo hi offs, len)) (h : x.toInt < lo ∨ hi < x.toInt) (ht : (pc : Int) + dflt = (tgt : Int)) (K : Wx E tgt ls st V L N I a b) : Wx E (pc) (ls) (aI x :: st) V L N I a b := by
  intro ad H locs lsa hP hD hS ha hl
  exact lv_tableOut C.1 C.2.1 d h ht (K ad H locs lsa hP hD hS ha hl)
theorem x_tableIn (C : OK E own cc nL ret D MC MS) {dflt lo hi : Int} {offs : Array Int} {len : Nat} {x : Int32} {off : Int} {tgt : Nat} (d : decode cc pc = .ok (.tableswitch dflt lo hi offs, len)) (h1 : ¬ x.toInt < lo) (h2 : ¬ hi < x.toInt) (ho : offs[(x.toInt - lo).toNat]? = some off) (ht : (pc : Int) + off = (tgt : Int)) (K : Wx E tgt ls st V L N I a b) : Wx E (pc) (ls) (aI x :: st) V L N I a b := by
  intro ad H locs lsa hP hD hS ha hl
  exact lv_tableIn C.1 C.2.1 d h1 h2 ho ht (K ad H locs lsa hP hD hS ha hl)
theorem x_top {x : AV} (y : AV) (h : x = y) (K : Wx E pc ls (y :: st) V L N I a b) : Wx E (pc) (ls) (x :: st) V L N I a b := by subst h; exact K
theorem x_topi {x : Int32} (y : Int32) (h : x = y) (K : Wx E pc ls (aI y :: st) V L N I a b) : Wx E (pc) (ls) (aI x :: st) V L N I a b := by subst h; exact K
theorem x_nmi {x : Int32} (K : ∀ y : Int32, y = x → Wx E pc ls (aI y :: st) V L N I a b) : Wx E (pc) (ls) (aI x :: st) V L N I a b := K x rfl
theorem x_widen {a1 b1 : Nat} (h1 : a ≤ a1) (h2 : b ≤ b1) (K : Wx E pc ls st V L N I a1 b1) : Wx E (pc) (ls) (st) V L N I a b := by
  intro ad H locs lsa hP hD hS ha hl
  exact W.widen h1 h2 (K ad H locs lsa hP hD hS ha hl)
theorem x_ldc2 (C : OK E own cc nL ret D MC MS) {k : Nat} {v : Int64} (d : decode cc pc = .ok (.ldc2_w k, 3)) (hw : Cond.constantLong own k v ∈ U0) (K : Wx E (pc + 3) ls (aL v :: st) V L N I a b) : Wx E (pc) (ls) (st) V L N I a b := by
  intro ad H locs lsa hP hD hS ha hl
  exact lv_ldc2 C.1 C.2.1 C.2.2.2.1 (C.2.2.2.2.1 _ hw) d (K ad H locs lsa hP hD hS ha hl)
theorem x_ldc2d (C : OK E own cc nL ret D MC MS) {k : Nat} {v : UInt64} (d : decode cc pc = .ok (.ldc2_w k, 3)) (hw : Cond.constantDouble own k v ∈ U0) (K : Wx E (pc + 3) ls (aD v :: st) V L N I a b) : Wx E (pc) (ls) (st) V L N I a b := by
  intro ad H locs lsa hP hD hS ha hl
  exact lv_ldc2d C.1 C.2.1 C.2.2.2.1 (C.2.2.2.2.1 _ hw) d (K ad H locs lsa hP hD hS ha hl)
end
