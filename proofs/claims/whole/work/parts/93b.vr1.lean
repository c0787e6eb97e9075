section PURE
variable {b : Bool} {E : awE} {M : awM} {pc : Nat} {lv lv' : List (Nat × Value)} {st : List Value} {S : awS} {kc ks : Nat} {Q : Option Value → awS → Nat → Nat → Prop}
theorem av_iadd {x y : Int32} (hd : decode (awM_c M) pc = .ok (.iadd, 1)) (k : awV b E M (pc + 1) lv (.int (x + y) :: st) S kc ks Q) : awV b E M pc lv (.int y :: .int x :: st) S kc ks Q :=
  awV.pure (fun w => w.pop.pop.pi) (fun p e R s m args below meth c H locs ad ls Z hC wf hR hls kk => lv_iadd hC.1 hC.2.1 hd (kk ls hls)) k
theorem av_isub {x y : Int32} (hd : decode (awM_c M) pc = .ok (.isub, 1)) (k : awV b E M (pc + 1) lv (.int (x - y) :: st) S kc ks Q) : awV b E M pc lv (.int y :: .int x :: st) S kc ks Q :=
  awV.pure (fun w => w.pop.pop.pi) (fun p e R s m args below meth c H locs ad ls Z hC wf hR hls kk => lv_isub hC.1 hC.2.1 hd (kk ls hls)) k
theorem av_imul {x y : Int32} (hd : decode (awM_c M) pc = .ok (.imul, 1)) (k : awV b E M (pc + 1) lv (.int (x * y) :: st) S kc ks Q) : awV b E M pc lv (.int y :: .int x :: st) S kc ks Q :=
  awV.pure (fun w => w.pop.pop.pi) (fun p e R s m args below meth c H locs ad ls Z hC wf hR hls kk => lv_imul hC.1 hC.2.1 hd (kk ls hls)) k
theorem av_iand {x y : Int32} (hd : decode (awM_c M) pc = .ok (.iand, 1)) (k : awV b E M (pc + 1) lv (.int (x &&& y) :: st) S kc ks Q) : awV b E M pc lv (.int y :: .int x :: st) S kc ks Q :=
  awV.pure (fun w => w.pop.pop.pi) (fun p e R s m args below meth c H locs ad ls Z hC wf hR hls kk => lv_iand hC.1 hC.2.1 hd (kk ls hls)) k
theorem av_ior {x y : Int32} (hd : decode (awM_c M) pc = .ok (.ior, 1)) (k : awV b E M (pc + 1) lv (.int (x ||| y) :: st) S kc ks Q) : awV b E M pc lv (.int y :: .int x :: st) S kc ks Q :=
  awV.pure (fun w => w.pop.pop.pi) (fun p e R s m args below meth c H locs ad ls Z hC wf hR hls kk => lv_ior hC.1 hC.2.1 hd (kk ls hls)) k
theorem av_ixor {x y : Int32} (hd : decode (awM_c M) pc = .ok (.ixor, 1)) (k : awV b E M (pc + 1) lv (.int (x ^^^ y) :: st) S kc ks Q) : awV b E M pc lv (.int y :: .int x :: st) S kc ks Q :=
  awV.pure (fun w => w.pop.pop.pi) (fun p e R s m args below meth c H locs ad ls Z hC wf hR hls kk => lv_ixor hC.1 hC.2.1 hd (kk ls hls)) k
theorem av_ishl {x y : Int32} (hd : decode (awM_c M) pc = .ok (.ishl, 1)) (k : awV b E M (pc + 1) lv (.int (x <<< (y &&& 31)) :: st) S kc ks Q) : awV b E M pc lv (.int y :: .int x :: st) S kc ks Q :=
  awV.pure (fun w => w.pop.pop.pi) (fun p e R s m args below meth c H locs ad ls Z hC wf hR hls kk => lv_ishl hC.1 hC.2.1 hd (kk ls hls)) k
theorem av_ishr {x y : Int32} (hd : decode (awM_c M) pc = .ok (.ishr, 1)) (k : awV b E M (pc + 1) lv (.int (x >>> (y &&& 31)) :: st) S kc ks Q) : awV b E M pc lv (.int y :: .int x :: st) S kc ks Q :=
  awV.pure (fun w => w.pop.pop.pi) (fun p e R s m args below meth c H locs ad ls Z hC wf hR hls kk => lv_ishr hC.1 hC.2.1 hd (kk ls hls)) k
theorem av_idiv {x y : Int32} (hd : decode (awM_c M) pc = .ok (.idiv, 1)) (hne : ¬ y = 0) (k : awV b E M (pc + 1) lv (.int (x / y) :: st) S kc ks Q) : awV b E M pc lv (.int y :: .int x :: st) S kc ks Q :=
  awV.pure (fun w => w.pop.pop.pi) (fun p e R s m args below meth c H locs ad ls Z hC wf hR hls kk => lv_idiv hC.1 hC.2.1 hd hne (kk ls hls)) k
theorem av_irem {x y : Int32} (hd : decode (awM_c M) pc = .ok (.irem, 1)) (hne : ¬ y = 0) (k : awV b E M (pc + 1) lv (.int (x - x / y * y) :: st) S kc ks Q) : awV b E M pc lv (.int y :: .int x :: st) S kc ks Q :=
  awV.pure (fun w => w.pop.pop.pi) (fun p e R s m args below meth c H locs ad ls Z hC wf hR hls kk => lv_irem hC.1 hC.2.1 hd hne (kk ls hls)) k
theorem av_lsub {x y : Int64} (hd : decode (awM_c M) pc = .ok (.lsub, 1)) (k : awV b E M (pc + 1) lv (.long (x - y) :: st) S kc ks Q) : awV b E M pc lv (.long y :: .long x :: st) S kc ks Q :=
  awV.pure (fun w => w.pop.pop.pl) (fun p e R s m args below meth c H locs ad ls Z hC wf hR hls kk => lv_lsub hC.1 hC.2.1 hd (kk ls hls)) k
theorem av_land {x y : Int64} (hd : decode (awM_c M) pc = .ok (.land, 1)) (k : awV b E M (pc + 1) lv (.long (x &&& y) :: st) S kc ks Q) : awV b E M pc lv (.long y :: .long x :: st) S kc ks Q :=
  awV.pure (fun w => w.pop.pop.pl) (fun p e R s m args below meth c H locs ad ls Z hC wf hR hls kk => lv_land hC.1 hC.2.1 hd (kk ls hls)) k
theorem av_lor {x y : Int64} (hd : decode (awM_c M) pc = .ok (.lor, 1)) (k : awV b E M (pc + 1) lv (.long (x ||| y) :: st) S kc ks Q) : awV b E M pc lv (.long y :: .long x :: st) S kc ks Q :=
  awV.pure (fun w => w.pop.pop.pl) (fun p e R s m args below meth c H locs ad ls Z hC wf hR hls kk => lv_lor hC.1 hC.2.1 hd (kk ls hls)) k
theorem av_ladd {x y : Int64} (hd : decode (awM_c M) pc = .ok (.ladd, 1)) (k : awV b E M (pc + 1) lv (.long (x + y) :: st) S kc ks Q) : awV b E M pc lv (.long y :: .long x :: st) S kc ks Q :=
  awV.pure (fun w => w.pop.pop.pl) (fun p e R s m args below meth c H locs ad ls Z hC wf hR hls kk => lv_ladd hC.1 hC.2.1 hd (kk ls hls)) k
theorem av_lcmp {x y : Int64} (hd : decode (awM_c M) pc = .ok (.lcmp, 1)) (k : awV b E M (pc + 1) lv (.int (lg_cmp x y) :: st) S kc ks Q) : awV b E M pc lv (.long y :: .long x :: st) S kc ks Q :=
  awV.pure (fun w => w.pop.pop.pi) (fun p e R s m args below meth c H locs ad ls Z hC wf hR hls kk => W.lcmp hC.1 hC.2.1 hd (kk ls hls)) k
theorem av_lneg {x : Int64} (hd : decode (awM_c M) pc = .ok (.lneg, 1)) (k : awV b E M (pc + 1) lv (.long (-x) :: st) S kc ks Q) : awV b E M pc lv (.long x :: st) S kc ks Q :=
  awV.pure (fun w => w.pop.pl) (fun p e R s m args below meth c H locs ad ls Z hC wf hR hls kk => lv_lneg hC.1 hC.2.1 hd (kk ls hls)) k
theorem av_ineg {x : Int32} (hd : decode (awM_c M) pc = .ok (.ineg, 1)) (k : awV b E M (pc + 1) lv (.int (-x) :: st) S kc ks Q) : awV b E M pc lv (.int x :: st) S kc ks Q :=
  awV.pure (fun w => w.pop.pi) (fun p e R s m args below meth c H locs ad ls Z hC wf hR hls kk => lv_ineg hC.1 hC.2.1 hd (kk ls hls)) k
theorem av_lshl {x v : Int64} {y : Int32} (hd : decode (awM_c M) pc = .ok (.lshl, 1)) (hv : x <<< (y.toInt64 &&& 63) = v) (k : awV b E M (pc + 1) lv (.long v :: st) S kc ks Q) : awV b E M pc lv (.int y :: .long x :: st) S kc ks Q :=
  awV.pure (fun w => w.pop.pop.pl) (fun p e R s m args below meth c H locs ad ls Z hC wf hR hls kk => lv_lshl hC.1 hC.2.1 hd hv (kk ls hls)) k
theorem av_i2l {x : Int32} (hd : decode (awM_c M) pc = .ok (.i2l, 1)) (k : awV b E M (pc + 1) lv (.long x.toInt64 :: st) S kc ks Q) : awV b E M pc lv (.int x :: st) S kc ks Q :=
  awV.pure (fun w => w.pop.pl) (fun p e R s m args below meth c H locs ad ls Z hC wf hR hls kk => lv_i2l hC.1 hC.2.1 hd rfl (kk ls hls)) k
theorem av_l2i {x : Int64} (hd : decode (awM_c M) pc = .ok (.l2i, 1)) (k : awV b E M (pc + 1) lv (.int x.toInt32 :: st) S kc ks Q) : awV b E M pc lv (.long x :: st) S kc ks Q :=
  awV.pure (fun w => w.pop.pi) (fun p e R s m args below meth c H locs ad ls Z hC wf hR hls kk => lv_l2i hC.1 hC.2.1 hd rfl (kk ls hls)) k
theorem av_i2b {x : Int32} (hd : decode (awM_c M) pc = .ok (.i2b, 1)) (k : awV b E M (pc + 1) lv (.int x.toInt8.toInt32 :: st) S kc ks Q) : awV b E M pc lv (.int x :: st) S kc ks Q :=
  awV.pure (fun w => w.pop.pi) (fun p e R s m args below meth c H locs ad ls Z hC wf hR hls kk => lv_i2b hC.1 hC.2.1 hd rfl (kk ls hls)) k
theorem av_i2d {x : Int32} (hd : decode (awM_c M) pc = .ok (.i2d, 1)) (k : awV b E M (pc + 1) lv (.double (FP.i2d x) :: st) S kc ks Q) : awV b E M pc lv (.int x :: st) S kc ks Q :=
  awV.pure (fun w => w.pop.pd) (fun p e R s m args below meth c H locs ad ls Z hC wf hR hls kk => lv_i2d hC.1 hC.2.1 hd (kk ls hls)) k
theorem av_d2l {x : UInt64} (hd : decode (awM_c M) pc = .ok (.d2l, 1)) (k : awV b E M (pc + 1) lv (.long (FP.d2l x) :: st) S kc ks Q) : awV b E M pc lv (.double x :: st) S kc ks Q :=
  awV.pure (fun w => w.pop.pl) (fun p e R s m args below meth c H locs ad ls Z hC wf hR hls kk => lv_d2l hC.1 hC.2.1 hd (kk ls hls)) k
theorem av_dmul {x y : UInt64} (hd : decode (awM_c M) pc = .ok (.dmul, 1)) (hne : vf_n64 (FP.dmul x y)) (k : awV b E M (pc + 1) lv (.double (FP.dmul x y) :: st) S kc ks Q) : awV b E M pc lv (.double y :: .double x :: st) S kc ks Q :=
  awV.pure (fun w => w.pop.pop.pd) (fun p e R s m args below meth c H locs ad ls Z hC wf hR hls kk => lv_dmul hC.1 hC.2.1 hd hne (kk ls hls)) k
theorem av_dcmp {x y : UInt64} {op : CmpOp} (hd : decode (awM_c M) pc = .ok (.dcmp op, 1)) (k : awV b E M (pc + 1) lv (.int (Op.cmpValue (FP.dcmp x y) op) :: st) S kc ks Q) : awV b E M pc lv (.double y :: .double x :: st) S kc ks Q :=
  awV.pure (fun w => w.pop.pop.pi) (fun p e R s m args below meth c H locs ad ls Z hC wf hR hls kk => lv_dcmp hC.1 hC.2.1 hd (kk ls hls)) k
theorem av_iconst {n : Int} {v : Int32} (hd : decode (awM_c M) pc = .ok (.iconst n, 1)) (hv : Int32.ofInt n = v) (k : awV b E M (pc + 1) lv (.int v :: st) S kc ks Q) : awV b E M pc lv (st) S kc ks Q :=
  awV.pure (fun w => w.pi) (fun p e R s m args below meth c H locs ad ls Z hC wf hR hls kk => lv_iconst hC.1 hC.2.1 hd hv (kk ls hls)) k
theorem av_bipush {n : Int} {v : Int32} (hd : decode (awM_c M) pc = .ok (.bipush n, 2)) (hv : (Int8.ofInt n).toInt32 = v) (k : awV b E M (pc + 2) lv (.int v :: st) S kc ks Q) : awV b E M pc lv (st) S kc ks Q :=
  awV.pure (fun w => w.pi) (fun p e R s m args below meth c H locs ad ls Z hC wf hR hls kk => lv_bipush hC.1 hC.2.1 hd hv (kk ls hls)) k
theorem av_sipush {n : Int} {v : Int32} (hd : decode (awM_c M) pc = .ok (.sipush n, 3)) (hv : (Int16.ofInt n).toInt32 = v) (k : awV b E M (pc + 3) lv (.int v :: st) S kc ks Q) : awV b E M pc lv (st) S kc ks Q :=
  awV.pure (fun w => w.pi) (fun p e R s m args below meth c H locs ad ls Z hC wf hR hls kk => lv_sipush hC.1 hC.2.1 hd hv (kk ls hls)) k
theorem av_lconst {n : Fin 2} {v : Int64} (hd : decode (awM_c M) pc = .ok (.lconst n, 1)) (hv : Int64.ofNat (n : Nat) = v) (k : awV b E M (pc + 1) lv (.long v :: st) S kc ks Q) : awV b E M pc lv (st) S kc ks Q :=
  awV.pure (fun w => w.pl) (fun p e R s m args below meth c H locs ad ls Z hC wf hR hls kk => lv_lconst hC.1 hC.2.1 hd hv (kk ls hls)) k
theorem av_null (hd : decode (awM_c M) pc = .ok (.aconst_null, 1)) (k : awV b E M (pc + 1) lv (.null :: st) S kc ks Q) : awV b E M pc lv (st) S kc ks Q :=
  awV.pure (fun w => w.pn) (fun p e R s m args below meth c H locs ad ls Z hC wf hR hls kk => lv_null hC.1 hC.2.1 hd (kk ls hls)) k
theorem av_ldc2 {index : Nat} {v : Int64} (hd : decode (awM_c M) pc = .ok (.ldc2_w index, 3)) (hw : Cond.constantLong (awM_y M).cls index v ∈ awBig) (k : awV b E M (pc + 3) lv (.long v :: st) S kc ks Q) : awV b E M pc lv (st) S kc ks Q :=
  awV.pure (fun w => w.pl) (fun p e R s m args below meth c H locs ad ls Z hC wf hR hls kk => lv_ldc2 hC.1 hC.2.1 hC.2.2.2.2.2.1 (hC.2.2.2.2.2.2.1 _ hw) hd (kk ls hls)) k
theorem av_ldc2d {index : Nat} {v : UInt64} (hd : decode (awM_c M) pc = .ok (.ldc2_w index, 3)) (hw : Cond.constantDouble (awM_y M).cls index v ∈ awBig) (k : awV b E M (pc + 3) lv (.double v :: st) S kc ks Q) : awV b E M pc lv (st) S kc ks Q :=
  awV.pure (fun w => w.pd) (fun p e R s m args below meth c H locs ad ls Z hC wf hR hls kk => lv_ldc2d hC.1 hC.2.1 hC.2.2.2.2.2.1 (hC.2.2.2.2.2.2.1 _ hw) hd (kk ls hls)) k
theorem av_ldcw {index : Nat} {v : Int32} (hd : decode (awM_c M) pc = .ok (.ldc_w index, 3)) (hw : Cond.constant (awM_y M).cls index v ∈ awBig) (k : awV b E M (pc + 3) lv (.int v :: st) S kc ks Q) : awV b E M pc lv (st) S kc ks Q :=
  awV.pure (fun w => w.pi) (fun p e R s m args below meth c H locs ad ls Z hC wf hR hls kk => lv_ldcw hC.1 hC.2.1 hC.2.2.2.2.2.1 (hC.2.2.2.2.2.2.1 _ hw) hd (kk ls hls)) k
theorem av_ldc {index : Nat} {v : Int32} (hd : decode (awM_c M) pc = .ok (.ldc index, 2)) (hw : Cond.constant (awM_y M).cls index v ∈ awBig) (k : awV b E M (pc + 2) lv (.int v :: st) S kc ks Q) : awV b E M pc lv (st) S kc ks Q :=
  awV.pure (fun w => w.pi) (fun p e R s m args below meth c H locs ad ls Z hC wf hR hls kk => lv_ldc hC.1 hC.2.1 hC.2.2.2.2.2.1 (hC.2.2.2.2.2.2.1 _ hw) hd (kk ls hls)) k
theorem av_iload_n {j : Fin 4} {i : Nat} {x : Int32} (hd : decode (awM_c M) pc = .ok (.iload_n j, 1)) (hi : (j : Nat) = i) (hk : lk lv i = some (.int x)) (k : awV b E M (pc + 1) lv (.int x :: st) S kc ks Q) : awV b E M pc lv (st) S kc ks Q :=
  awV.pure (fun w => w.pi) (fun p e R s m args below meth c H locs ad ls Z hC wf hR hls kk => lv_iload_n hC.1 hC.2.1 hd hi (lk_ls hls hk) (kk ls hls)) k
theorem av_iload {i : Nat} {x : Int32} (hd : decode (awM_c M) pc = .ok (.iload i, 2)) (hk : lk lv i = some (.int x)) (k : awV b E M (pc + 2) lv (.int x :: st) S kc ks Q) : awV b E M pc lv (st) S kc ks Q :=
  awV.pure (fun w => w.pi) (fun p e R s m args below meth c H locs ad ls Z hC wf hR hls kk => lv_iload hC.1 hC.2.1 hd (lk_ls hls hk) (kk ls hls)) k
theorem av_lload_n {j : Fin 4} {i : Nat} {x : Int64} (hd : decode (awM_c M) pc = .ok (.lload_n j, 1)) (hi : (j : Nat) = i) (hk : lk lv i = some (.long x)) (k : awV b E M (pc + 1) lv (.long x :: st) S kc ks Q) : awV b E M pc lv (st) S kc ks Q :=
  awV.pure (fun w => w.pl) (fun p e R s m args below meth c H locs ad ls Z hC wf hR hls kk => lv_lload_n hC.1 hC.2.1 hd hi (lk_ls hls hk) (kk ls hls)) k
theorem av_lload {i : Nat} {x : Int64} (hd : decode (awM_c M) pc = .ok (.lload i, 2)) (hk : lk lv i = some (.long x)) (k : awV b E M (pc + 2) lv (.long x :: st) S kc ks Q) : awV b E M pc lv (st) S kc ks Q :=
  awV.pure (fun w => w.pl) (fun p e R s m args below meth c H locs ad ls Z hC wf hR hls kk => lv_lload hC.1 hC.2.1 hd (lk_ls hls hk) (kk ls hls)) k
theorem av_dload_n {j : Fin 4} {i : Nat} {x : UInt64} (hd : decode (awM_c M) pc = .ok (.dload_n j, 1)) (hi : (j : Nat) = i) (hk : lk lv i = some (.double x)) (k : awV b E M (pc + 1) lv (.double x :: st) S kc ks Q) : awV b E M pc lv (st) S kc ks Q :=
  awV.pure (fun w => w.pd) (fun p e R s m args below meth c H locs ad ls Z hC wf hR hls kk => lv_dload_n hC.1 hC.2.1 hd hi (lk_ls hls hk) (kk ls hls)) k
theorem av_dload {i : Nat} {x : UInt64} (hd : decode (awM_c M) pc = .ok (.dload i, 2)) (hk : lk lv i = some (.double x)) (k : awV b E M (pc + 2) lv (.double x :: st) S kc ks Q) : awV b E M pc lv (st) S kc ks Q :=
  awV.pure (fun w => w.pd) (fun p e R s m args below meth c H locs ad ls Z hC wf hR hls kk => lv_dload hC.1 hC.2.1 hd (lk_ls hls hk) (kk ls hls)) k
theorem av_aload_n {j : Fin 4} {i : Nat} {v : Value} (hd : decode (awM_c M) pc = .ok (.aload_n j, 1)) (hi : (j : Nat) = i) (hk : lk lv i = some v) (hv : rfV v = true) (k : awV b E M (pc + 1) lv (v :: st) S kc ks Q) : awV b E M pc lv st S kc ks Q := by
  refine awV.pure (fun w => w.push (w.loc hk)) (fun p e R s m args below meth c H locs ad ls Z hC wf hR hls kk => ?_) k
  cases v <;> first | (cases hv; done) | exact lv_aload_n hC.1 hC.2.1 hd hi (lk_ls hls hk) (kk ls hls) | exact lv_aload_nN hC.1 hC.2.1 hd hi (lk_ls hls hk) (kk ls hls)
theorem av_aload {i : Nat} {v : Value} (hd : decode (awM_c M) pc = .ok (.aload i, 2)) (hk : lk lv i = some v) (hv : rfV v = true) (k : awV b E M (pc + 2) lv (v :: st) S kc ks Q) : awV b E M pc lv st S kc ks Q := by
  refine awV.pure (fun w => w.push (w.loc hk)) (fun p e R s m args below meth c H locs ad ls Z hC wf hR hls kk => ?_) k
  cases v <;> first | (cases hv; done) | exact lv_aload hC.1 hC.2.1 hd (lk_ls hls hk) (kk ls hls) | exact lv_aloadN hC.1 hC.2.1 hd (lk_ls hls hk) (kk ls hls)
theorem av_istore_n {j : Fin 4} {i : Nat} {x : Int32} (hd : decode (awM_c M) pc = .ok (.istore_n j, 1)) (hi : (j : Nat) = i) (hn : i < awM_n M) (hl : up1 lv i (.int x) = lv') (k : awV b E M (pc + 1) lv' st S kc ks Q) : awV b E M pc lv (.int x :: st) S kc ks Q := by
  subst hl
  exact awV.pure (fun w => w.pop.set1 (v := .int x) trivial) (fun p e R s m args below meth c H locs ad ls Z hC wf hR hls kk => lv_istore_n hC.1 hC.2.1 hd hi hls hn (lvm_up1 ad lv i (.int x)) (fun ls' h => kk ls' h)) k
theorem av_istore {i : Nat} {x : Int32} (hd : decode (awM_c M) pc = .ok (.istore i, 2)) (hn : i < awM_n M) (hl : up1 lv i (.int x) = lv') (k : awV b E M (pc + 2) lv' st S kc ks Q) : awV b E M pc lv (.int x :: st) S kc ks Q := by
  subst hl
  exact awV.pure (fun w => w.pop.set1 (v := .int x) trivial) (fun p e R s m args below meth c H locs ad ls Z hC wf hR hls kk => lv_istore hC.1 hC.2.1 hd hls hn (lvm_up1 ad lv i (.int x)) (fun ls' h => kk ls' h)) k
theorem av_lstore_n {j : Fin 4} {i : Nat} {x : Int64} (hd : decode (awM_c M) pc = .ok (.lstore_n j, 1)) (hi : (j : Nat) = i) (hn : i + 1 < awM_n M) (hl : up2 lv i (.long x) = lv') (k : awV b E M (pc + 1) lv' st S kc ks Q) : awV b E M pc lv (.long x :: st) S kc ks Q := by
  subst hl
  exact awV.pure (fun w => w.pop.set2 (v := .long x) trivial) (fun p e R s m args below meth c H locs ad ls Z hC wf hR hls kk => lv_lstore_n hC.1 hC.2.1 hd hi hls hn (lvm_up2 ad lv i (.long x)) (fun ls' h => kk ls' h)) k
theorem av_lstore {i : Nat} {x : Int64} (hd : decode (awM_c M) pc = .ok (.lstore i, 2)) (hn : i + 1 < awM_n M) (hl : up2 lv i (.long x) = lv') (k : awV b E M (pc + 2) lv' st S kc ks Q) : awV b E M pc lv (.long x :: st) S kc ks Q := by
  subst hl
  exact awV.pure (fun w => w.pop.set2 (v := .long x) trivial) (fun p e R s m args below meth c H locs ad ls Z hC wf hR hls kk => lv_lstore hC.1 hC.2.1 hd hls hn (lvm_up2 ad lv i (.long x)) (fun ls' h => kk ls' h)) k
theorem av_astore_n {j : Fin 4} {i : Nat} {v : Value} (hd : decode (awM_c M) pc = .ok (.astore_n j, 1)) (hi : (j : Nat) = i) (hn : i < awM_n M) (hv : rfV v = true) (hl : up1 lv i v = lv') (k : awV b E M (pc + 1) lv' st S kc ks Q) : awV b E M pc lv (v :: st) S kc ks Q := by
  subst hl
  refine awV.pure (fun w => w.pop.set1 w.top) (fun p e R s m args below meth c H locs ad ls Z hC wf hR hls kk => ?_) k
  cases v <;> first | (cases hv; done) | exact lv_astore_n hC.1 hC.2.1 hd hi hls hn (lvm_up1 ad lv i (.ref _)) (fun ls' h => kk ls' h) | exact lv_astore_nN hC.1 hC.2.1 hd hi hls hn (lvm_up1 ad lv i .null) (fun ls' h => kk ls' h)
theorem av_astore {i : Nat} {v : Value} (hd : decode (awM_c M) pc = .ok (.astore i, 2)) (hn : i < awM_n M) (hv : rfV v = true) (hl : up1 lv i v = lv') (k : awV b E M (pc + 2) lv' st S kc ks Q) : awV b E M pc lv (v :: st) S kc ks Q := by
  subst hl
  refine awV.pure (fun w => w.pop.set1 w.top) (fun p e R s m args below meth c H locs ad ls Z hC wf hR hls kk => ?_) k
  cases v <;> first | (cases hv; done) | exact lv_astore hC.1 hC.2.1 hd hls hn (lvm_up1 ad lv i (.ref _)) (fun ls' h => kk ls' h) | exact lv_astoreN hC.1 hC.2.1 hd hls hn (lvm_up1 ad lv i .null) (fun ls' h => kk ls' h)
theorem av_iinc {i : Nat} {n : Int} {x v : Int32} (hd : decode (awM_c M) pc = .ok (.iinc i n, 3)) (hk : lk lv i = some (.int x)) (hv : x + Int32.ofInt n = v) (hn : i < awM_n M) (hl : up1 lv i (.int v) = lv') (k : awV b E M (pc + 3) lv' st S kc ks Q) : awV b E M pc lv st S kc ks Q := by
  subst hl
  obtain ⟨q, hq⟩ := lk_pos hk
  exact awV.pure (fun w => w.set1 (v := .int v) trivial) (fun p e R s m args below meth c H locs ad ls Z hC wf hR hls kk => lv_iinc hC.1 hC.2.1 hd hls (k := q) (by rw [lvm, List.getElem?_map, hq]; rfl) hv hn (lvm_up1 ad lv i (.int v)) (fun ls' h => kk ls' h)) k
theorem av_iincW {i : Nat} {n : Int} {x v : Int32} (hd : decode (awM_c M) pc = .ok (.iinc i n, 6)) (hk : lk lv i = some (.int x)) (hv : x + Int32.ofInt n = v) (hn : i < awM_n M) (hl : up1 lv i (.int v) = lv') (k : awV b E M (pc + 6) lv' st S kc ks Q) : awV b E M pc lv st S kc ks Q := by
  subst hl
  obtain ⟨q, hq⟩ := lk_pos hk
  exact awV.pure (fun w => w.set1 (v := .int v) trivial) (fun p e R s m args below meth c H locs ad ls Z hC wf hR hls kk => lv_iincW hC.1 hC.2.1 hd hls (k := q) (by rw [lvm, List.getElem?_map, hq]; rfl) hv hn (lvm_up1 ad lv i (.int v)) (fun ls' h => kk ls' h)) k
theorem av_dup {v : Value} (hd : decode (awM_c M) pc = .ok (.dup, 1)) (hv : v.category = 1) (k : awV b E M (pc + 1) lv (v :: v :: st) S kc ks Q) : awV b E M pc lv (v :: st) S kc ks Q :=
  awV.pure (fun w => w.push w.top) (fun p e R s m args below meth c H locs ad ls Z hC wf hR hls kk => lv_dup hC.1 hC.2.1 hd ((rnv_cat ad v).trans hv) (kk ls hls)) k
theorem av_pop {v : Value} (hd : decode (awM_c M) pc = .ok (.pop, 1)) (hv : v.category = 1) (k : awV b E M (pc + 1) lv (st) S kc ks Q) : awV b E M pc lv (v :: st) S kc ks Q :=
  awV.pure (fun w => w.pop) (fun p e R s m args below meth c H locs ad ls Z hC wf hR hls kk => lv_pop hC.1 hC.2.1 hd ((rnv_cat ad v).trans hv) (kk ls hls)) k
theorem av_dup2 {v u : Value} (hd : decode (awM_c M) pc = .ok (.dup2, 1)) (hv : v.category = 1) (hu : u.category = 1) (k : awV b E M (pc + 1) lv (v :: u :: v :: u :: st) S kc ks Q) : awV b E M pc lv (v :: u :: st) S kc ks Q :=
  awV.pure (fun w => (w.push w.pop.top).push w.top) (fun p e R s m args below meth c H locs ad ls Z hC wf hR hls kk => lv_dup2_11 hC.1 hC.2.1 hd ((rnv_cat ad v).trans hv) ((rnv_cat ad u).trans hu) (kk ls hls)) k
theorem av_dup_x1 {v u : Value} (hd : decode (awM_c M) pc = .ok (.dup_x1, 1)) (hv : v.category = 1) (hu : u.category = 1) (k : awV b E M (pc + 1) lv (v :: u :: v :: st) S kc ks Q) : awV b E M pc lv (v :: u :: st) S kc ks Q :=
  awV.pure (fun w => ((w.pop.pop.push w.top).push w.pop.top).push w.top) (fun p e R s m args below meth c H locs ad ls Z hC wf hR hls kk => lv_dup_x1 hC.1 hC.2.1 hd ((rnv_cat ad v).trans hv) ((rnv_cat ad u).trans hu) (kk ls hls)) k
theorem av_goto {off : Int} {tgt : Nat} (hd : decode (awM_c M) pc = .ok (.goto off, 3)) (ht : (pc : Int) + off = (tgt : Int)) (k : awV b E M tgt lv st S kc ks Q) : awV b E M pc lv st S kc ks Q :=
  awV.pure (fun w => w) (fun p e R s m args below meth c H locs ad ls Z hC wf hR hls kk => lv_goto hC.1 hC.2.1 hd ht (kk ls hls)) k
theorem av_if_eq {x : Int32} {off : Int} {tgt : Nat} (hd : decode (awM_c M) pc = .ok (.ifCond .eq off, 3)) (ht : (pc : Int) + off = (tgt : Int)) (kt : x = 0 → awV b E M tgt lv st S kc ks Q) (kf : ¬ (x = 0) → awV b E M (pc + 3) lv st S kc ks Q) : awV b E M pc lv (.int x :: st) S kc ks Q := by
  by_cases h : x = 0
  · exact awV.pure (fun w => w.pop) (fun p e R s m args below meth c H locs ad ls Z hC wf hR hls kk => lv_if_eq hC.1 hC.2.1 hd ht (fun _ => kk ls hls) (fun h' => absurd h (by simpa using h'))) (kt h)
  · exact awV.pure (fun w => w.pop) (fun p e R s m args below meth c H locs ad ls Z hC wf hR hls kk => lv_if_eq hC.1 hC.2.1 hd ht (fun h' => absurd h' h) (fun _ => kk ls hls)) (kf h)
theorem av_icmp_eq {x y : Int32} {off : Int} {tgt : Nat} (hd : decode (awM_c M) pc = .ok (.if_icmp .eq off, 3)) (ht : (pc : Int) + off = (tgt : Int)) (kt : x = y → awV b E M tgt lv st S kc ks Q) (kf : ¬ (x = y) → awV b E M (pc + 3) lv st S kc ks Q) : awV b E M pc lv (.int y :: .int x :: st) S kc ks Q := by
  by_cases h : x = y
  · exact awV.pure (fun w => w.pop.pop) (fun p e R s m args below meth c H locs ad ls Z hC wf hR hls kk => lv_icmp_eq hC.1 hC.2.1 hd ht (fun _ => kk ls hls) (fun h' => absurd h (by simpa using h'))) (kt h)
  · exact awV.pure (fun w => w.pop.pop) (fun p e R s m args below meth c H locs ad ls Z hC wf hR hls kk => lv_icmp_eq hC.1 hC.2.1 hd ht (fun h' => absurd h' h) (fun _ => kk ls hls)) (kf h)
theorem av_if_ne {x : Int32} {off : Int} {tgt : Nat} (hd : decode (awM_c M) pc = .ok (.ifCond .ne off, 3)) (ht : (pc : Int) + off = (tgt : Int)) (kt : ¬ x = 0 → awV b E M tgt lv st S kc ks Q) (kf : ¬ (¬ x = 0) → awV b E M (pc + 3) lv st S kc ks Q) : awV b E M pc lv (.int x :: st) S kc ks Q := by
  by_cases h : ¬ x = 0
  · exact awV.pure (fun w => w.pop) (fun p e R s m args below meth c H locs ad ls Z hC wf hR hls kk => lv_if_ne hC.1 hC.2.1 hd ht (fun _ => kk ls hls) (fun h' => absurd h (by simpa using h'))) (kt h)
  · exact awV.pure (fun w => w.pop) (fun p e R s m args below meth c H locs ad ls Z hC wf hR hls kk => lv_if_ne hC.1 hC.2.1 hd ht (fun h' => absurd h' h) (fun _ => kk ls hls)) (kf h)
theorem av_icmp_ne {x y : Int32} {off : Int} {tgt : Nat} (hd : decode (awM_c M) pc = .ok (.if_icmp .ne off, 3)) (ht : (pc : Int) + off = (tgt : Int)) (kt : ¬ x = y → awV b E M tgt lv st S kc ks Q) (kf : ¬ (¬ x = y) → awV b E M (pc + 3) lv st S kc ks Q) : awV b E M pc lv (.int y :: .int x :: st) S kc ks Q := by
  by_cases h : ¬ x = y
  · exact awV.pure (fun w => w.pop.pop) (fun p e R s m args below meth c H locs ad ls Z hC wf hR hls kk => lv_icmp_ne hC.1 hC.2.1 hd ht (fun _ => kk ls hls) (fun h' => absurd h (by simpa using h'))) (kt h)
  · exact awV.pure (fun w => w.pop.pop) (fun p e R s m args below meth c H locs ad ls Z hC wf hR hls kk => lv_icmp_ne hC.1 hC.2.1 hd ht (fun h' => absurd h' h) (fun _ => kk ls hls)) (kf h)
theorem av_if_lt {x : Int32} {off : Int} {tgt : Nat} (hd : decode (awM_c M) pc = .ok (.ifCond .lt off, 3)) (ht : (pc : Int) + off = (tgt : Int)) (kt : x < 0 → awV b E M tgt lv st S kc ks Q) (kf : ¬ (x < 0) → awV b E M (pc + 3) lv st S kc ks Q) : awV b E M pc lv (.int x :: st) S kc ks Q := by
  by_cases h : x < 0
  · exact awV.pure (fun w => w.pop) (fun p e R s m args below meth c H locs ad ls Z hC wf hR hls kk => lv_if_lt hC.1 hC.2.1 hd ht (fun _ => kk ls hls) (fun h' => absurd h (by simpa using h'))) (kt h)
  · exact awV.pure (fun w => w.pop) (fun p e R s m args below meth c H locs ad ls Z hC wf hR hls kk => lv_if_lt hC.1 hC.2.1 hd ht (fun h' => absurd h' h) (fun _ => kk ls hls)) (kf h)
theorem av_icmp_lt {x y : Int32} {off : Int} {tgt : Nat} (hd : decode (awM_c M) pc = .ok (.if_icmp .lt off, 3)) (ht : (pc : Int) + off = (tgt : Int)) (kt : x < y → awV b E M tgt lv st S kc ks Q) (kf : ¬ (x < y) → awV b E M (pc + 3) lv st S kc ks Q) : awV b E M pc lv (.int y :: .int x :: st) S kc ks Q := by
  by_cases h : x < y
  · exact awV.pure (fun w => w.pop.pop) (fun p e R s m args below meth c H locs ad ls Z hC wf hR hls kk => lv_icmp_lt hC.1 hC.2.1 hd ht (fun _ => kk ls hls) (fun h' => absurd h (by simpa using h'))) (kt h)
  · exact awV.pure (fun w => w.pop.pop) (fun p e R s m args below meth c H locs ad ls Z hC wf hR hls kk => lv_icmp_lt hC.1 hC.2.1 hd ht (fun h' => absurd h' h) (fun _ => kk ls hls)) (kf h)
theorem av_if_ge {x : Int32} {off : Int} {tgt : Nat} (hd : decode (awM_c M) pc = .ok (.ifCond .ge off, 3)) (ht : (pc : Int) + off = (tgt : Int)) (kt : 0 ≤ x → awV b E M tgt lv st S kc ks Q) (kf : ¬ (0 ≤ x) → awV b E M (pc + 3) lv st S kc ks Q) : awV b E M pc lv (.int x :: st) S kc ks Q := by
  by_cases h : 0 ≤ x
  · exact awV.pure (fun w => w.pop) (fun p e R s m args below meth c H locs ad ls Z hC wf hR hls kk => lv_if_ge hC.1 hC.2.1 hd ht (fun _ => kk ls hls) (fun h' => absurd h (by simpa using h'))) (kt h)
  · exact awV.pure (fun w => w.pop) (fun p e R s m args below meth c H locs ad ls Z hC wf hR hls kk => lv_if_ge hC.1 hC.2.1 hd ht (fun h' => absurd h' h) (fun _ => kk ls hls)) (kf h)
theorem av_icmp_ge {x y : Int32} {off : Int} {tgt : Nat} (hd : decode (awM_c M) pc = .ok (.if_icmp .ge off, 3)) (ht : (pc : Int) + off = (tgt : Int)) (kt : y ≤ x → awV b E M tgt lv st S kc ks Q) (kf : ¬ (y ≤ x) → awV b E M (pc + 3) lv st S kc ks Q) : awV b E M pc lv (.int y :: .int x :: st) S kc ks Q := by
  by_cases h : y ≤ x
  · exact awV.pure (fun w => w.pop.pop) (fun p e R s m args below meth c H locs ad ls Z hC wf hR hls kk => lv_icmp_ge hC.1 hC.2.1 hd ht (fun _ => kk ls hls) (fun h' => absurd h (by simpa using h'))) (kt h)
  · exact awV.pure (fun w => w.pop.pop) (fun p e R s m args below meth c H locs ad ls Z hC wf hR hls kk => lv_icmp_ge hC.1 hC.2.1 hd ht (fun h' => absurd h' h) (fun _ => kk ls hls)) (kf h)
theorem av_if_gt {x : Int32} {off : Int} {tgt : Nat} (hd : decode (awM_c M) pc = .ok (.ifCond .gt off, 3)) (ht : (pc : Int) + off = (tgt : Int)) (kt : 0 < x → awV b E M tgt lv st S kc ks Q) (kf : ¬ (0 < x) → awV b E M (pc + 3) lv st S kc ks Q) : awV b E M pc lv (.int x :: st) S kc ks Q := by
  by_cases h : 0 < x
  · exact awV.pure (fun w => w.pop) (fun p e R s m args below meth c H locs ad ls Z hC wf hR hls kk => lv_if_gt hC.1 hC.2.1 hd ht (fun _ => kk ls hls) (fun h' => absurd h (by simpa using h'))) (kt h)
  · exact awV.pure (fun w => w.pop) (fun p e R s m args below meth c H locs ad ls Z hC wf hR hls kk => lv_if_gt hC.1 hC.2.1 hd ht (fun h' => absurd h' h) (fun _ => kk ls hls)) (kf h)
theorem av_icmp_gt {x y : Int32} {off : Int} {tgt : Nat} (hd : decode (awM_c M) pc = .ok (.if_icmp .gt off, 3)) (ht : (pc : Int) + off = (tgt : Int)) (kt : y < x → awV b E M tgt lv st S kc ks Q) (kf : ¬ (y < x) → awV b E M (pc + 3) lv st S kc ks Q) : awV b E M pc lv (.int y :: .int x :: st) S kc ks Q := by
  by_cases h : y < x
  · exact awV.pure (fun w => w.pop.pop) (fun p e R s m args below meth c H locs ad ls Z hC wf hR hls kk => lv_icmp_gt hC.1 hC.2.1 hd ht (fun _ => kk ls hls) (fun h' => absurd h (by simpa using h'))) (kt h)
  · exact awV.pure (fun w => w.pop.pop) (fun p e R s m args below meth c H locs ad ls Z hC wf hR hls kk => lv_icmp_gt hC.1 hC.2.1 hd ht (fun h' => absurd h' h) (fun _ => kk ls hls)) (kf h)
theorem av_if_le {x : Int32} {off : Int} {tgt : Nat} (hd : decode (awM_c M) pc = .ok (.ifCond .le off, 3)) (ht : (pc : Int) + off = (tgt : Int)) (kt : x ≤ 0 → awV b E M tgt lv st S kc ks Q) (kf : ¬ (x ≤ 0) → awV b E M (pc + 3) lv st S kc ks Q) : awV b E M pc lv (.int x :: st) S kc ks Q := by
  by_cases h : x ≤ 0
  · exact awV.pure (fun w => w.pop) (fun p e R s m args below meth c H locs ad ls Z hC wf hR hls kk => lv_if_le hC.1 hC.2.1 hd ht (fun _ => kk ls hls) (fun h' => absurd h (by simpa using h'))) (kt h)
  · exact awV.pure (fun w => w.pop) (fun p e R s m args below meth c H locs ad ls Z hC wf hR hls kk => lv_if_le hC.1 hC.2.1 hd ht (fun h' => absurd h' h) (fun _ => kk ls hls)) (kf h)
theorem av_icmp_le {x y : Int32} {off : Int} {tgt : Nat} (hd : decode (awM_c M) pc = .ok (.if_icmp .le off, 3)) (ht : (pc : Int) + off = (tgt : Int)) (kt : x ≤ y → awV b E M tgt lv st S kc ks Q) (kf : ¬ (x ≤ y) → awV b E M (pc + 3) lv st S kc ks Q) : awV b E M pc lv (.int y :: .int x :: st) S kc ks Q := by
  by_cases h : x ≤ y
  · exact awV.pure (fun w => w.pop.pop) (fun p e R s m args below meth c H locs ad ls Z hC wf hR hls kk => lv_icmp_le hC.1 hC.2.1 hd ht (fun _ => kk ls hls) (fun h' => absurd h (by simpa using h'))) (kt h)
  · exact awV.pure (fun w => w.pop.pop) (fun p e R s m args below meth c H locs ad ls Z hC wf hR hls kk => lv_icmp_le hC.1 hC.2.1 hd ht (fun h' => absurd h' h) (fun _ => kk ls hls)) (kf h)
theorem av_acmp_eq {v u : Value} {off : Int} {tgt : Nat} (hd : decode (awM_c M) pc = .ok (.if_acmp .eq off, 3)) (ht : (pc : Int) + off = (tgt : Int)) (hv : rfV v = true) (hu : rfV u = true) (hs : v = u ∨ (nsV v ∧ nsV u)) (kt : v = u → awV b E M tgt lv st S kc ks Q) (kf : ¬ v = u → awV b E M (pc + 3) lv st S kc ks Q) : awV b E M pc lv (u :: v :: st) S kc ks Q := by
  obtain ⟨r1, rfl⟩ := rf_of hv
  obtain ⟨r2, rfl⟩ := rf_of hu
  have e2 : ∀ a b : Option Nat, va_rf a = va_rf b ↔ a = b := fun a b => by cases a <;> cases b <;> simp [va_rf]
  by_cases h : va_rf r1 = va_rf r2
  · refine awV.pure (fun w => w.pop.pop) (fun p e R s m args below meth c H locs ad ls Z hC wf hR hls kk => ?_) (kt h)
    have hi := rnv_inj hR (wf.pop.top) (wf.top) hv hu hs
    rw [rnv_rf, rnv_rf, e2] at hi
    rw [List.map_cons, List.map_cons, rnv_rf, rnv_rf]
    exact lv_acmp_eq hC.1 hC.2.1 hd ht (fun _ => kk ls hls) (fun h' => absurd h (by first | exact fun q => q (hi.mp h') | exact fun q => h' (hi.mpr q)))
  · refine awV.pure (fun w => w.pop.pop) (fun p e R s m args below meth c H locs ad ls Z hC wf hR hls kk => ?_) (kf (by first | exact h | exact Classical.not_not.mp h))
    have hi := rnv_inj hR (wf.pop.top) (wf.top) hv hu hs
    rw [rnv_rf, rnv_rf, e2] at hi
    rw [List.map_cons, List.map_cons, rnv_rf, rnv_rf]
    exact lv_acmp_eq hC.1 hC.2.1 hd ht (fun h' => absurd (by first | exact hi.mp h' | exact fun q => h' (hi.mpr q)) h) (fun _ => kk ls hls)
theorem av_acmp_ne {v u : Value} {off : Int} {tgt : Nat} (hd : decode (awM_c M) pc = .ok (.if_acmp .ne off, 3)) (ht : (pc : Int) + off = (tgt : Int)) (hv : rfV v = true) (hu : rfV u = true) (hs : v = u ∨ (nsV v ∧ nsV u)) (kt : ¬ v = u → awV b E M tgt lv st S kc ks Q) (kf : v = u → awV b E M (pc + 3) lv st S kc ks Q) : awV b E M pc lv (u :: v :: st) S kc ks Q := by
  obtain ⟨r1, rfl⟩ := rf_of hv
  obtain ⟨r2, rfl⟩ := rf_of hu
  have e2 : ∀ a b : Option Nat, va_rf a = va_rf b ↔ a = b := fun a b => by cases a <;> cases b <;> simp [va_rf]
  by_cases h : ¬ va_rf r1 = va_rf r2
  · refine awV.pure (fun w => w.pop.pop) (fun p e R s m args below meth c H locs ad ls Z hC wf hR hls kk => ?_) (kt h)
    have hi := rnv_inj hR (wf.pop.top) (wf.top) hv hu hs
    rw [rnv_rf, rnv_rf, e2] at hi
    rw [List.map_cons, List.map_cons, rnv_rf, rnv_rf]
    exact lv_acmp_ne hC.1 hC.2.1 hd ht (fun _ => kk ls hls) (fun h' => absurd h (by first | exact fun q => q (hi.mp h') | exact fun q => h' (hi.mpr q)))
  · refine awV.pure (fun w => w.pop.pop) (fun p e R s m args below meth c H locs ad ls Z hC wf hR hls kk => ?_) (kf (by first | exact h | exact Classical.not_not.mp h))
    have hi := rnv_inj hR (wf.pop.top) (wf.top) hv hu hs
    rw [rnv_rf, rnv_rf, e2] at hi
    rw [List.map_cons, List.map_cons, rnv_rf, rnv_rf]
    exact lv_acmp_ne hC.1 hC.2.1 hd ht (fun h' => absurd (by first | exact hi.mp h' | exact fun q => h' (hi.mpr q)) h) (fun _ => kk ls hls)
theorem av_ifnull {r : Option Nat} {off : Int} {tgt : Nat} (hd : decode (awM_c M) pc = .ok (.ifnull off, 3)) (ht : (pc : Int) + off = (tgt : Int)) (kt : r = none → awV b E M tgt lv st S kc ks Q) (kf : ∀ n, r = some n → awV b E M (pc + 3) lv st S kc ks Q) : awV b E M pc lv (va_rf r :: st) S kc ks Q := by
  cases r with
  | none => exact awV.pure (fun w => w.pop) (fun p e R s m args below meth c H locs ad ls Z hC wf hR hls kk => lv_ifnullN hC.1 hC.2.1 hd ht (kk ls hls)) (kt rfl)
  | some n => exact awV.pure (fun w => w.pop) (fun p e R s m args below meth c H locs ad ls Z hC wf hR hls kk => lv_ifnull hC.1 hC.2.1 hd (kk ls hls)) (kf n rfl)
theorem av_ifnonnull {r : Option Nat} {off : Int} {tgt : Nat} (hd : decode (awM_c M) pc = .ok (.ifnonnull off, 3)) (ht : (pc : Int) + off = (tgt : Int)) (kt : ∀ n, r = some n → awV b E M tgt lv st S kc ks Q) (kf : r = none → awV b E M (pc + 3) lv st S kc ks Q) : awV b E M pc lv (va_rf r :: st) S kc ks Q := by
  cases r with
  | none => exact awV.pure (fun w => w.pop) (fun p e R s m args below meth c H locs ad ls Z hC wf hR hls kk => lv_ifnonnullN hC.1 hC.2.1 hd (kk ls hls)) (kf rfl)
  | some n => exact awV.pure (fun w => w.pop) (fun p e R s m args below meth c H locs ad ls Z hC wf hR hls kk => lv_ifnonnull hC.1 hC.2.1 hd ht (kk ls hls)) (kt n rfl)
theorem av_tableIn {dflt lo hi : Int} {offs : Array Int} {len : Nat} {x : Int32} {off : Int} {tgt : Nat} (hd : decode (awM_c M) pc = .ok (.tableswitch dflt lo hi offs, len)) (h1 : ¬ x.toInt < lo) (h2 : ¬ hi < x.toInt) (ho : offs[(x.toInt - lo).toNat]? = some off) (ht : (pc : Int) + off = (tgt : Int)) (k : awV b E M tgt lv st S kc ks Q) : awV b E M pc lv (.int x :: st) S kc ks Q :=
  awV.pure (fun w => w.pop) (fun p e R s m args below meth c H locs ad ls Z hC wf hR hls kk => lv_tableIn hC.1 hC.2.1 hd h1 h2 ho ht (kk ls hls)) k
theorem av_tableOut {dflt lo hi : Int} {offs : Array Int} {len : Nat} {x : Int32} {tgt : Nat} (hd : decode (awM_c M) pc = .ok (.tableswitch dflt lo hi offs, len)) (h : x.toInt < lo ∨ hi < x.toInt) (ht : (pc : Int) + dflt = (tgt : Int)) (k : awV b E M tgt lv st S kc ks Q) : awV b E M pc lv (.int x :: st) S kc ks Q :=
  awV.pure (fun w => w.pop) (fun p e R s m args below meth c H locs ad ls Z hC wf hR hls kk => lv_tableOut hC.1 hC.2.1 hd h ht (kk ls hls)) k
end PURE

