theorem awWf.push {S : awS} {lv : List (Nat × Value)} {st : List Value} {v : Value} (h : awWf S lv st) (hv : lvV S v) : awWf S lv (v :: st) := ⟨h.1, fun w hw => (List.mem_cons.mp hw).elim (fun e => e ▸ hv) (h.2 w)⟩
theorem awWf.pop {S : awS} {lv : List (Nat × Value)} {st : List Value} {v : Value} (h : awWf S lv (v :: st)) : awWf S lv st := ⟨h.1, fun w hw => h.2 w (List.mem_cons_of_mem _ hw)⟩
theorem awWf.top {S : awS} {lv : List (Nat × Value)} {st : List Value} {v : Value} (h : awWf S lv (v :: st)) : lvV S v := h.2 v List.mem_cons_self
theorem awWf.pi {S : awS} {lv : List (Nat × Value)} {st : List Value} {x : Int32} (h : awWf S lv st) : awWf S lv (.int x :: st) := h.push trivial
theorem awWf.pl {S : awS} {lv : List (Nat × Value)} {st : List Value} {x : Int64} (h : awWf S lv st) : awWf S lv (.long x :: st) := h.push trivial
theorem awWf.pd {S : awS} {lv : List (Nat × Value)} {st : List Value} {x : UInt64} (h : awWf S lv st) : awWf S lv (.double x :: st) := h.push trivial
theorem awWf.pn {S : awS} {lv : List (Nat × Value)} {st : List Value} (h : awWf S lv st) : awWf S lv (.null :: st) := h.push trivial
def up1 (lv : List (Nat × Value)) (i : Nat) (v : Value) : List (Nat × Value) := (i, v) :: lv.filter (fun q => !(q.1 == i) && !(q.1 + 1 == i && q.2.category == 2))
def up2 (lv : List (Nat × Value)) (i : Nat) (v : Value) : List (Nat × Value) := (i, v) :: lv.filter (fun q => !(q.1 == i) && (!(q.1 == i + 1) && !(q.1 + 1 == i && q.2.category == 2)))
theorem lvm_up1 (ad : Nat → Nat) (lv : List (Nat × Value)) (i : Nat) (v : Value) : (i, rnv ad v) :: (lvm ad lv).filter (fun q => !(q.1 == i) && !(q.1 + 1 == i && q.2.category == 2)) = lvm ad (up1 lv i v) := by
  unfold up1 lvm
  rw [List.map_cons, List.filter_map]
  congr 2
  apply List.filter_congr
  intro x _
  simp only [Function.comp, rnv_cat]
theorem lvm_up2 (ad : Nat → Nat) (lv : List (Nat × Value)) (i : Nat) (v : Value) : (i, rnv ad v) :: (lvm ad lv).filter (fun q => !(q.1 == i) && (!(q.1 == i + 1) && !(q.1 + 1 == i && q.2.category == 2))) = lvm ad (up2 lv i v) := by
  unfold up2 lvm
  rw [List.map_cons, List.filter_map]
  congr 2
  apply List.filter_congr
  intro x _
  simp only [Function.comp, rnv_cat]
theorem awWf.set1 {S : awS} {lv : List (Nat × Value)} {st : List Value} {v : Value} {i : Nat} (h : awWf S lv st) (hv : lvV S v) : awWf S (up1 lv i v) st := ⟨fun q hq => (List.mem_cons.mp hq).elim (fun e => e ▸ hv) (fun hq => h.1 q (List.mem_filter.mp hq).1), h.2⟩
theorem awWf.set2 {S : awS} {lv : List (Nat × Value)} {st : List Value} {v : Value} {i : Nat} (h : awWf S lv st) (hv : lvV S v) : awWf S (up2 lv i v) st := ⟨fun q hq => (List.mem_cons.mp hq).elim (fun e => e ▸ hv) (fun hq => h.1 q (List.mem_filter.mp hq).1), h.2⟩
def rfV : Value → Bool
  | .ref _ => true
  | .null => true
  | _ => false
theorem rfV_rf (r : Option Nat) : rfV (va_rf r) = true := by cases r <;> rfl
theorem cat_rf (r : Option Nat) : (va_rf r).category = 1 := by cases r <;> rfl
theorem awWf.loc {S : awS} {lv : List (Nat × Value)} {st : List Value} {v : Value} {i : Nat} (h : awWf S lv st) (hk : lk lv i = some v) : lvV S v := h.1 (i, v) (lk_mem hk)
/-- two names that are alive are one if their addresses are -/
theorem awR_inj {b : Bool} {E : awE} {S : awS} {ad : Nat → Nat} {H : Heap} (h : awR b E S ad H) {n n' : Nat} (h1 : lvN S n) (h2 : lvN S n') (a1 : n % 256 < 125 ∨ 127 < n % 256) (a2 : n' % 256 < 125 ∨ 127 < n' % 256) (e : ad n = ad n') : n = n' := by
  cases b with
  | false => exact h.2.2.2.1 n n' h1 h2 a1 a2 e
  | true =>
    obtain ⟨S0, hh, hr⟩ := h
    have key : ∀ n, lvN S n → lvN S0 n := fun n hn => by
      unfold lvN at hn ⊢
      by_cases hf : 48 ≤ n % 256 ∧ n % 256 < 64
      · rw [hh.2.2.1 _ hf.1 hf.2] at hn; omega
      · rw [hh.2.1 _ hf]; exact hn
    exact hr.2.2.2.1 n n' (key n h1) (key n' h2) a1 a2 e
def nsV : Value → Prop
  | .ref n => n % 256 < 125 ∨ 127 < n % 256
  | _ => True
theorem rnv_inj {b : Bool} {E : awE} {S : awS} {ad : Nat → Nat} {H : Heap} (h : awR b E S ad H) {v w : Value} (h1 : lvV S v) (h2 : lvV S w) (a1 : rfV v = true) (a2 : rfV w = true) (hs : v = w ∨ (nsV v ∧ nsV w)) : rnv ad v = rnv ad w ↔ v = w := by
  constructor
  · intro e
    rcases hs with q | ⟨q1, q2⟩
    · exact q
    · cases v <;> cases w <;> first | rfl | (cases a1; done) | (cases a2; done) | (cases e; done) | skip
      exact congrArg Value.ref (awR_inj h h1 h2 q1 q2 (Value.ref.inj e))
  · rintro rfl; rfl
theorem rf_of {v : Value} (h : rfV v = true) : ∃ r, v = va_rf r := by
  cases v <;> first | (cases h; done) | exact ⟨none, rfl⟩ | exact ⟨some _, rfl⟩
section PURE
variable {b : Bool} {E : awE} {M : awM} {pc : Nat} {lv lv' : List (Nat × Value)} {st : List Value} {S : awS} {kc ks : Nat} {Q : Option Value → awS → Nat → Nat → Prop}
theorem ax_iadd {x y : Int32} (hd : decode (awM_c M) pc = .ok (.iadd, 1)) (k : awX b E M (pc + 1) lv (.int (x + y) :: st) S kc ks Q) : awX b E M pc lv (.int y :: .int x :: st) S kc ks Q :=
  awX.pure (fun w => w.pop.pop.pi) (fun p e R s m args below meth c H locs ad ls Z hC wf hR hls kk => lv_iadd hC.1 hC.2.1 hd (kk ls hls)) k
theorem ax_isub {x y : Int32} (hd : decode (awM_c M) pc = .ok (.isub, 1)) (k : awX b E M (pc + 1) lv (.int (x - y) :: st) S kc ks Q) : awX b E M pc lv (.int y :: .int x :: st) S kc ks Q :=
  awX.pure (fun w => w.pop.pop.pi) (fun p e R s m args below meth c H locs ad ls Z hC wf hR hls kk => lv_isub hC.1 hC.2.1 hd (kk ls hls)) k
theorem ax_imul {x y : Int32} (hd : decode (awM_c M) pc = .ok (.imul, 1)) (k : awX b E M (pc + 1) lv (.int (x * y) :: st) S kc ks Q) : awX b E M pc lv (.int y :: .int x :: st) S kc ks Q :=
  awX.pure (fun w => w.pop.pop.pi) (fun p e R s m args below meth c H locs ad ls Z hC wf hR hls kk => lv_imul hC.1 hC.2.1 hd (kk ls hls)) k
theorem ax_iand {x y : Int32} (hd : decode (awM_c M) pc = .ok (.iand, 1)) (k : awX b E M (pc + 1) lv (.int (x &&& y) :: st) S kc ks Q) : awX b E M pc lv (.int y :: .int x :: st) S kc ks Q :=
  awX.pure (fun w => w.pop.pop.pi) (fun p e R s m args below meth c H locs ad ls Z hC wf hR hls kk => lv_iand hC.1 hC.2.1 hd (kk ls hls)) k
theorem ax_ior {x y : Int32} (hd : decode (awM_c M) pc = .ok (.ior, 1)) (k : awX b E M (pc + 1) lv (.int (x ||| y) :: st) S kc ks Q) : awX b E M pc lv (.int y :: .int x :: st) S kc ks Q :=
  awX.pure (fun w => w.pop.pop.pi) (fun p e R s m args below meth c H locs ad ls Z hC wf hR hls kk => lv_ior hC.1 hC.2.1 hd (kk ls hls)) k
theorem ax_ixor {x y : Int32} (hd : decode (awM_c M) pc = .ok (.ixor, 1)) (k : awX b E M (pc + 1) lv (.int (x ^^^ y) :: st) S kc ks Q) : awX b E M pc lv (.int y :: .int x :: st) S kc ks Q :=
  awX.pure (fun w => w.pop.pop.pi) (fun p e R s m args below meth c H locs ad ls Z hC wf hR hls kk => lv_ixor hC.1 hC.2.1 hd (kk ls hls)) k
theorem ax_ishl {x y : Int32} (hd : decode (awM_c M) pc = .ok (.ishl, 1)) (k : awX b E M (pc + 1) lv (.int (x <<< (y &&& 31)) :: st) S kc ks Q) : awX b E M pc lv (.int y :: .int x :: st) S kc ks Q :=
  awX.pure (fun w => w.pop.pop.pi) (fun p e R s m args below meth c H locs ad ls Z hC wf hR hls kk => lv_ishl hC.1 hC.2.1 hd (kk ls hls)) k
theorem ax_ishr {x y : Int32} (hd : decode (awM_c M) pc = .ok (.ishr, 1)) (k : awX b E M (pc + 1) lv (.int (x >>> (y &&& 31)) :: st) S kc ks Q) : awX b E M pc lv (.int y :: .int x :: st) S kc ks Q :=
  awX.pure (fun w => w.pop.pop.pi) (fun p e R s m args below meth c H locs ad ls Z hC wf hR hls kk => lv_ishr hC.1 hC.2.1 hd (kk ls hls)) k
theorem ax_idiv {x y : Int32} (hd : decode (awM_c M) pc = .ok (.idiv, 1)) (hne : ¬ y = 0) (k : awX b E M (pc + 1) lv (.int (x / y) :: st) S kc ks Q) : awX b E M pc lv (.int y :: .int x :: st) S kc ks Q :=
  awX.pure (fun w => w.pop.pop.pi) (fun p e R s m args below meth c H locs ad ls Z hC wf hR hls kk => lv_idiv hC.1 hC.2.1 hd hne (kk ls hls)) k
theorem ax_irem {x y : Int32} (hd : decode (awM_c M) pc = .ok (.irem, 1)) (hne : ¬ y = 0) (k : awX b E M (pc + 1) lv (.int (x - x / y * y) :: st) S kc ks Q) : awX b E M pc lv (.int y :: .int x :: st) S kc ks Q :=
  awX.pure (fun w => w.pop.pop.pi) (fun p e R s m args below meth c H locs ad ls Z hC wf hR hls kk => lv_irem hC.1 hC.2.1 hd hne (kk ls hls)) k
theorem ax_lsub {x y : Int64} (hd : decode (awM_c M) pc = .ok (.lsub, 1)) (k : awX b E M (pc + 1) lv (.long (x - y) :: st) S kc ks Q) : awX b E M pc lv (.long y :: .long x :: st) S kc ks Q :=
  awX.pure (fun w => w.pop.pop.pl) (fun p e R s m args below meth c H locs ad ls Z hC wf hR hls kk => lv_lsub hC.1 hC.2.1 hd (kk ls hls)) k
theorem ax_land {x y : Int64} (hd : decode (awM_c M) pc = .ok (.land, 1)) (k : awX b E M (pc + 1) lv (.long (x &&& y) :: st) S kc ks Q) : awX b E M pc lv (.long y :: .long x :: st) S kc ks Q :=
  awX.pure (fun w => w.pop.pop.pl) (fun p e R s m args below meth c H locs ad ls Z hC wf hR hls kk => lv_land hC.1 hC.2.1 hd (kk ls hls)) k
theorem ax_lor {x y : Int64} (hd : decode (awM_c M) pc = .ok (.lor, 1)) (k : awX b E M (pc + 1) lv (.long (x ||| y) :: st) S kc ks Q) : awX b E M pc lv (.long y :: .long x :: st) S kc ks Q :=
  awX.pure (fun w => w.pop.pop.pl) (fun p e R s m args below meth c H locs ad ls Z hC wf hR hls kk => lv_lor hC.1 hC.2.1 hd (kk ls hls)) k
theorem ax_ladd {x y : Int64} (hd : decode (awM_c M) pc = .ok (.ladd, 1)) (k : awX b E M (pc + 1) lv (.long (x + y) :: st) S kc ks Q) : awX b E M pc lv (.long y :: .long x :: st) S kc ks Q :=
  awX.pure (fun w => w.pop.pop.pl) (fun p e R s m args below meth c H locs ad ls Z hC wf hR hls kk => lv_ladd hC.1 hC.2.1 hd (kk ls hls)) k
theorem ax_lcmp {x y : Int64} (hd : decode (awM_c M) pc = .ok (.lcmp, 1)) (k : awX b E M (pc + 1) lv (.int (lg_cmp x y) :: st) S kc ks Q) : awX b E M pc lv (.long y :: .long x :: st) S kc ks Q :=
  awX.pure (fun w => w.pop.pop.pi) (fun p e R s m args below meth c H locs ad ls Z hC wf hR hls kk => W.lcmp hC.1 hC.2.1 hd (kk ls hls)) k
theorem ax_lneg {x : Int64} (hd : decode (awM_c M) pc = .ok (.lneg, 1)) (k : awX b E M (pc + 1) lv (.long (-x) :: st) S kc ks Q) : awX b E M pc lv (.long x :: st) S kc ks Q :=
  awX.pure (fun w => w.pop.pl) (fun p e R s m args below meth c H locs ad ls Z hC wf hR hls kk => lv_lneg hC.1 hC.2.1 hd (kk ls hls)) k
theorem ax_ineg {x : Int32} (hd : decode (awM_c M) pc = .ok (.ineg, 1)) (k : awX b E M (pc + 1) lv (.int (-x) :: st) S kc ks Q) : awX b E M pc lv (.int x :: st) S kc ks Q :=
  awX.pure (fun w => w.pop.pi) (fun p e R s m args below meth c H locs ad ls Z hC wf hR hls kk => lv_ineg hC.1 hC.2.1 hd (kk ls hls)) k
theorem ax_lshl {x v : Int64} {y : Int32} (hd : decode (awM_c M) pc = .ok (.lshl, 1)) (hv : x <<< (y.toInt64 &&& 63) = v) (k : awX b E M (pc + 1) lv (.long v :: st) S kc ks Q) : awX b E M pc lv (.int y :: .long x :: st) S kc ks Q :=
  awX.pure (fun w => w.pop.pop.pl) (fun p e R s m args below meth c H locs ad ls Z hC wf hR hls kk => lv_lshl hC.1 hC.2.1 hd hv (kk ls hls)) k
theorem ax_i2l {x : Int32} (hd : decode (awM_c M) pc = .ok (.i2l, 1)) (k : awX b E M (pc + 1) lv (.long x.toInt64 :: st) S kc ks Q) : awX b E M pc lv (.int x :: st) S kc ks Q :=
  awX.pure (fun w => w.pop.pl) (fun p e R s m args below meth c H locs ad ls Z hC wf hR hls kk => lv_i2l hC.1 hC.2.1 hd rfl (kk ls hls)) k
theorem ax_l2i {x : Int64} (hd : decode (awM_c M) pc = .ok (.l2i, 1)) (k : awX b E M (pc + 1) lv (.int x.toInt32 :: st) S kc ks Q) : awX b E M pc lv (.long x :: st) S kc ks Q :=
  awX.pure (fun w => w.pop.pi) (fun p e R s m args below meth c H locs ad ls Z hC wf hR hls kk => lv_l2i hC.1 hC.2.1 hd rfl (kk ls hls)) k
theorem ax_i2b {x : Int32} (hd : decode (awM_c M) pc = .ok (.i2b, 1)) (k : awX b E M (pc + 1) lv (.int x.toInt8.toInt32 :: st) S kc ks Q) : awX b E M pc lv (.int x :: st) S kc ks Q :=
  awX.pure (fun w => w.pop.pi) (fun p e R s m args below meth c H locs ad ls Z hC wf hR hls kk => lv_i2b hC.1 hC.2.1 hd rfl (kk ls hls)) k
theorem ax_i2d {x : Int32} (hd : decode (awM_c M) pc = .ok (.i2d, 1)) (k : awX b E M (pc + 1) lv (.double (FP.i2d x) :: st) S kc ks Q) : awX b E M pc lv (.int x :: st) S kc ks Q :=
  awX.pure (fun w => w.pop.pd) (fun p e R s m args below meth c H locs ad ls Z hC wf hR hls kk => lv_i2d hC.1 hC.2.1 hd (kk ls hls)) k
theorem ax_d2l {x : UInt64} (hd : decode (awM_c M) pc = .ok (.d2l, 1)) (k : awX b E M (pc + 1) lv (.long (FP.d2l x) :: st) S kc ks Q) : awX b E M pc lv (.double x :: st) S kc ks Q :=
  awX.pure (fun w => w.pop.pl) (fun p e R s m args below meth c H locs ad ls Z hC wf hR hls kk => lv_d2l hC.1 hC.2.1 hd (kk ls hls)) k
theorem ax_dmul {x y : UInt64} (hd : decode (awM_c M) pc = .ok (.dmul, 1)) (hne : vf_n64 (FP.dmul x y)) (k : awX b E M (pc + 1) lv (.double (FP.dmul x y) :: st) S kc ks Q) : awX b E M pc lv (.double y :: .double x :: st) S kc ks Q :=
  awX.pure (fun w => w.pop.pop.pd) (fun p e R s m args below meth c H locs ad ls Z hC wf hR hls kk => lv_dmul hC.1 hC.2.1 hd hne (kk ls hls)) k
theorem ax_dcmp {x y : UInt64} {op : CmpOp} (hd : decode (awM_c M) pc = .ok (.dcmp op, 1)) (k : awX b E M (pc + 1) lv (.int (Op.cmpValue (FP.dcmp x y) op) :: st) S kc ks Q) : awX b E M pc lv (.double y :: .double x :: st) S kc ks Q :=
  awX.pure (fun w => w.pop.pop.pi) (fun p e R s m args below meth c H locs ad ls Z hC wf hR hls kk => lv_dcmp hC.1 hC.2.1 hd (kk ls hls)) k
theorem ax_iconst {n : Int} {v : Int32} (hd : decode (awM_c M) pc = .ok (.iconst n, 1)) (hv : Int32.ofInt n = v) (k : awX b E M (pc + 1) lv (.int v :: st) S kc ks Q) : awX b E M pc lv (st) S kc ks Q :=
  awX.pure (fun w => w.pi) (fun p e R s m args below meth c H locs ad ls Z hC wf hR hls kk => lv_iconst hC.1 hC.2.1 hd hv (kk ls hls)) k
theorem ax_bipush {n : Int} {v : Int32} (hd : decode (awM_c M) pc = .ok (.bipush n, 2)) (hv : (Int8.ofInt n).toInt32 = v) (k : awX b E M (pc + 2) lv (.int v :: st) S kc ks Q) : awX b E M pc lv (st) S kc ks Q :=
  awX.pure (fun w => w.pi) (fun p e R s m args below meth c H locs ad ls Z hC wf hR hls kk => lv_bipush hC.1 hC.2.1 hd hv (kk ls hls)) k
theorem ax_sipush {n : Int} {v : Int32} (hd : decode (awM_c M) pc = .ok (.sipush n, 3)) (hv : (Int16.ofInt n).toInt32 = v) (k : awX b E M (pc + 3) lv (.int v :: st) S kc ks Q) : awX b E M pc lv (st) S kc ks Q :=
  awX.pure (fun w => w.pi) (fun p e R s m args below meth c H locs ad ls Z hC wf hR hls kk => lv_sipush hC.1 hC.2.1 hd hv (kk ls hls)) k
theorem ax_lconst {n : Fin 2} {v : Int64} (hd : decode (awM_c M) pc = .ok (.lconst n, 1)) (hv : Int64.ofNat (n : Nat) = v) (k : awX b E M (pc + 1) lv (.long v :: st) S kc ks Q) : awX b E M pc lv (st) S kc ks Q :=
  awX.pure (fun w => w.pl) (fun p e R s m args below meth c H locs ad ls Z hC wf hR hls kk => lv_lconst hC.1 hC.2.1 hd hv (kk ls hls)) k
theorem ax_null (hd : decode (awM_c M) pc = .ok (.aconst_null, 1)) (k : awX b E M (pc + 1) lv (.null :: st) S kc ks Q) : awX b E M pc lv (st) S kc ks Q :=
  awX.pure (fun w => w.pn) (fun p e R s m args below meth c H locs ad ls Z hC wf hR hls kk => lv_null hC.1 hC.2.1 hd (kk ls hls)) k
theorem ax_ldc2 {index : Nat} {v : Int64} (hd : decode (awM_c M) pc = .ok (.ldc2_w index, 3)) (hw : Cond.constantLong (awM_y M).cls index v ∈ awBig) (k : awX b E M (pc + 3) lv (.long v :: st) S kc ks Q) : awX b E M pc lv (st) S kc ks Q :=
  awX.pure (fun w => w.pl) (fun p e R s m args below meth c H locs ad ls Z hC wf hR hls kk => lv_ldc2 hC.1 hC.2.1 hC.2.2.2.2.2.1 (hC.2.2.2.2.2.2.1 _ hw) hd (kk ls hls)) k
theorem ax_ldc2d {index : Nat} {v : UInt64} (hd : decode (awM_c M) pc = .ok (.ldc2_w index, 3)) (hw : Cond.constantDouble (awM_y M).cls index v ∈ awBig) (k : awX b E M (pc + 3) lv (.double v :: st) S kc ks Q) : awX b E M pc lv (st) S kc ks Q :=
  awX.pure (fun w => w.pd) (fun p e R s m args below meth c H locs ad ls Z hC wf hR hls kk => lv_ldc2d hC.1 hC.2.1 hC.2.2.2.2.2.1 (hC.2.2.2.2.2.2.1 _ hw) hd (kk ls hls)) k
theorem ax_ldcw {index : Nat} {v : Int32} (hd : decode (awM_c M) pc = .ok (.ldc_w index, 3)) (hw : Cond.constant (awM_y M).cls index v ∈ awBig) (k : awX b E M (pc + 3) lv (.int v :: st) S kc ks Q) : awX b E M pc lv (st) S kc ks Q :=
  awX.pure (fun w => w.pi) (fun p e R s m args below meth c H locs ad ls Z hC wf hR hls kk => lv_ldcw hC.1 hC.2.1 hC.2.2.2.2.2.1 (hC.2.2.2.2.2.2.1 _ hw) hd (kk ls hls)) k
theorem ax_ldc {index : Nat} {v : Int32} (hd : decode (awM_c M) pc = .ok (.ldc index, 2)) (hw : Cond.constant (awM_y M).cls index v ∈ awBig) (k : awX b E M (pc + 2) lv (.int v :: st) S kc ks Q) : awX b E M pc lv (st) S kc ks Q :=
  awX.pure (fun w => w.pi) (fun p e R s m args below meth c H locs ad ls Z hC wf hR hls kk => lv_ldc hC.1 hC.2.1 hC.2.2.2.2.2.1 (hC.2.2.2.2.2.2.1 _ hw) hd (kk ls hls)) k
theorem ax_iload_n {j : Fin 4} {i : Nat} {x : Int32} (hd : decode (awM_c M) pc = .ok (.iload_n j, 1)) (hi : (j : Nat) = i) (hk : lk lv i = some (.int x)) (k : awX b E M (pc + 1) lv (.int x :: st) S kc ks Q) : awX b E M pc lv (st) S kc ks Q :=
  awX.pure (fun w => w.pi) (fun p e R s m args below meth c H locs ad ls Z hC wf hR hls kk => lv_iload_n hC.1 hC.2.1 hd hi (lk_ls hls hk) (kk ls hls)) k
theorem ax_iload {i : Nat} {x : Int32} (hd : decode (awM_c M) pc = .ok (.iload i, 2)) (hk : lk lv i = some (.int x)) (k : awX b E M (pc + 2) lv (.int x :: st) S kc ks Q) : awX b E M pc lv (st) S kc ks Q :=
  awX.pure (fun w => w.pi) (fun p e R s m args below meth c H locs ad ls Z hC wf hR hls kk => lv_iload hC.1 hC.2.1 hd (lk_ls hls hk) (kk ls hls)) k
theorem ax_lload_n {j : Fin 4} {i : Nat} {x : Int64} (hd : decode (awM_c M) pc = .ok (.lload_n j, 1)) (hi : (j : Nat) = i) (hk : lk lv i = some (.long x)) (k : awX b E M (pc + 1) lv (.long x :: st) S kc ks Q) : awX b E M pc lv (st) S kc ks Q :=
  awX.pure (fun w => w.pl) (fun p e R s m args below meth c H locs ad ls Z hC wf hR hls kk => lv_lload_n hC.1 hC.2.1 hd hi (lk_ls hls hk) (kk ls hls)) k
theorem ax_lload {i : Nat} {x : Int64} (hd : decode (awM_c M) pc = .ok (.lload i, 2)) (hk : lk lv i = some (.long x)) (k : awX b E M (pc + 2) lv (.long x :: st) S kc ks Q) : awX b E M pc lv (st) S kc ks Q :=
  awX.pure (fun w => w.pl) (fun p e R s m args below meth c H locs ad ls Z hC wf hR hls kk => lv_lload hC.1 hC.2.1 hd (lk_ls hls hk) (kk ls hls)) k
theorem ax_dload_n {j : Fin 4} {i : Nat} {x : UInt64} (hd : decode (awM_c M) pc = .ok (.dload_n j, 1)) (hi : (j : Nat) = i) (hk : lk lv i = some (.double x)) (k : awX b E M (pc + 1) lv (.double x :: st) S kc ks Q) : awX b E M pc lv (st) S kc ks Q :=
  awX.pure (fun w => w.pd) (fun p e R s m args below meth c H locs ad ls Z hC wf hR hls kk => lv_dload_n hC.1 hC.2.1 hd hi (lk_ls hls hk) (kk ls hls)) k
theorem ax_dload {i : Nat} {x : UInt64} (hd : decode (awM_c M) pc = .ok (.dload i, 2)) (hk : lk lv i = some (.double x)) (k : awX b E M (pc + 2) lv (.double x :: st) S kc ks Q) : awX b E M pc lv (st) S kc ks Q :=
  awX.pure (fun w => w.pd) (fun p e R s m args below meth c H locs ad ls Z hC wf hR hls kk => lv_dload hC.1 hC.2.1 hd (lk_ls hls hk) (kk ls hls)) k
theorem ax_aload_n {j : Fin 4} {i : Nat} {v : Value} (hd : decode (awM_c M) pc = .ok (.aload_n j, 1)) (hi : (j : Nat) = i) (hk : lk lv i = some v) (hv : rfV v = true) (k : awX b E M (pc + 1) lv (v :: st) S kc ks Q) : awX b E M pc lv st S kc ks Q := by
  refine awX.pure (fun w => w.push (w.loc hk)) (fun p e R s m args below meth c H locs ad ls Z hC wf hR hls kk => ?_) k
  cases v <;> first | (cases hv; done) | exact lv_aload_n hC.1 hC.2.1 hd hi (lk_ls hls hk) (kk ls hls) | exact lv_aload_nN hC.1 hC.2.1 hd hi (lk_ls hls hk) (kk ls hls)
theorem ax_aload {i : Nat} {v : Value} (hd : decode (awM_c M) pc = .ok (.aload i, 2)) (hk : lk lv i = some v) (hv : rfV v = true) (k : awX b E M (pc + 2) lv (v :: st) S kc ks Q) : awX b E M pc lv st S kc ks Q := by
  refine awX.pure (fun w => w.push (w.loc hk)) (fun p e R s m args below meth c H locs ad ls Z hC wf hR hls kk => ?_) k
  cases v <;> first | (cases hv; done) | exact lv_aload hC.1 hC.2.1 hd (lk_ls hls hk) (kk ls hls) | exact lv_aloadN hC.1 hC.2.1 hd (lk_ls hls hk) (kk ls hls)
theorem ax_istore_n {j : Fin 4} {i : Nat} {x : Int32} (hd : decode (awM_c M) pc = .ok (.istore_n j, 1)) (hi : (j : Nat) = i) (hn : i < awM_n M) (hl : up1 lv i (.int x) = lv') (k : awX b E M (pc + 1) lv' st S kc ks Q) : awX b E M pc lv (.int x :: st) S kc ks Q := by
  subst hl
  exact awX.pure (fun w => w.pop.set1 (v := .int x) trivial) (fun p e R s m args below meth c H locs ad ls Z hC wf hR hls kk => lv_istore_n hC.1 hC.2.1 hd hi hls hn (lvm_up1 ad lv i (.int x)) (fun ls' h => kk ls' h)) k
theorem ax_istore {i : Nat} {x : Int32} (hd : decode (awM_c M) pc = .ok (.istore i, 2)) (hn : i < awM_n M) (hl : up1 lv i (.int x) = lv') (k : awX b E M (pc + 2) lv' st S kc ks Q) : awX b E M pc lv (.int x :: st) S kc ks Q := by
  subst hl
  exact awX.pure (fun w => w.pop.set1 (v := .int x) trivial) (fun p e R s m args below meth c H locs ad ls Z hC wf hR hls kk => lv_istore hC.1 hC.2.1 hd hls hn (lvm_up1 ad lv i (.int x)) (fun ls' h => kk ls' h)) k
theorem ax_lstore_n {j : Fin 4} {i : Nat} {x : Int64} (hd : decode (awM_c M) pc = .ok (.lstore_n j, 1)) (hi : (j : Nat) = i) (hn : i + 1 < awM_n M) (hl : up2 lv i (.long x) = lv') (k : awX b E M (pc + 1) lv' st S kc ks Q) : awX b E M pc lv (.long x :: st) S kc ks Q := by
  subst hl
  exact awX.pure (fun w => w.pop.set2 (v := .long x) trivial) (fun p e R s m args below meth c H locs ad ls Z hC wf hR hls kk => lv_lstore_n hC.1 hC.2.1 hd hi hls hn (lvm_up2 ad lv i (.long x)) (fun ls' h => kk ls' h)) k
theorem ax_lstore {i : Nat} {x : Int64} (hd : decode (awM_c M) pc = .ok (.lstore i, 2)) (hn : i + 1 < awM_n M) (hl : up2 lv i (.long x) = lv') (k : awX b E M (pc + 2) lv' st S kc ks Q) : awX b E M pc lv (.long x :: st) S kc ks Q := by
  subst hl
  exact awX.pure (fun w => w.pop.set2 (v := .long x) trivial) (fun p e R s m args below meth c H locs ad ls Z hC wf hR hls kk => lv_lstore hC.1 hC.2.1 hd hls hn (lvm_up2 ad lv i (.long x)) (fun ls' h => kk ls' h)) k
theorem ax_astore_n {j : Fin 4} {i : Nat} {v : Value} (hd : decode (awM_c M) pc = .ok (.astore_n j, 1)) (hi : (j : Nat) = i) (hn : i < awM_n M) (hv : rfV v = true) (hl : up1 lv i v = lv') (k : awX b E M (pc + 1) lv' st S kc ks Q) : awX b E M pc lv (v :: st) S kc ks Q := by
  subst hl
  refine awX.pure (fun w => w.pop.set1 w.top) (fun p e R s m args below meth c H locs ad ls Z hC wf hR hls kk => ?_) k
  cases v <;> first | (cases hv; done) | exact lv_astore_n hC.1 hC.2.1 hd hi hls hn (lvm_up1 ad lv i (.ref _)) (fun ls' h => kk ls' h) | exact lv_astore_nN hC.1 hC.2.1 hd hi hls hn (lvm_up1 ad lv i .null) (fun ls' h => kk ls' h)
theorem ax_astore {i : Nat} {v : Value} (hd : decode (awM_c M) pc = .ok (.astore i, 2)) (hn : i < awM_n M) (hv : rfV v = true) (hl : up1 lv i v = lv') (k : awX b E M (pc + 2) lv' st S kc ks Q) : awX b E M pc lv (v :: st) S kc ks Q := by
  subst hl
  refine awX.pure (fun w => w.pop.set1 w.top) (fun p e R s m args below meth c H locs ad ls Z hC wf hR hls kk => ?_) k
  cases v <;> first | (cases hv; done) | exact lv_astore hC.1 hC.2.1 hd hls hn (lvm_up1 ad lv i (.ref _)) (fun ls' h => kk ls' h) | exact lv_astoreN hC.1 hC.2.1 hd hls hn (lvm_up1 ad lv i .null) (fun ls' h => kk ls' h)
theorem lk_pos : ∀ {lv : List (Nat × Value)} {i : Nat} {v : Value}, lk lv i = some v → ∃ n : Nat, lv[n]? = some (i, v)
  | [], i, v, h => by cases h
  | q :: l, i, v, h => by
    unfold lk at h
    by_cases e : q.1 = i
    · rw [if_pos e] at h
      cases h; subst e; exact ⟨0, rfl⟩
    · rw [if_neg e] at h
      obtain ⟨n, hn⟩ := lk_pos h
      exact ⟨n + 1, by rw [List.getElem?_cons_succ]; exact hn⟩
theorem ax_iinc {i : Nat} {n : Int} {x v : Int32} (hd : decode (awM_c M) pc = .ok (.iinc i n, 3)) (hk : lk lv i = some (.int x)) (hv : x + Int32.ofInt n = v) (hn : i < awM_n M) (hl : up1 lv i (.int v) = lv') (k : awX b E M (pc + 3) lv' st S kc ks Q) : awX b E M pc lv st S kc ks Q := by
  subst hl
  obtain ⟨q, hq⟩ := lk_pos hk
  exact awX.pure (fun w => w.set1 (v := .int v) trivial) (fun p e R s m args below meth c H locs ad ls Z hC wf hR hls kk => lv_iinc hC.1 hC.2.1 hd hls (k := q) (by rw [lvm, List.getElem?_map, hq]; rfl) hv hn (lvm_up1 ad lv i (.int v)) (fun ls' h => kk ls' h)) k
theorem ax_iincW {i : Nat} {n : Int} {x v : Int32} (hd : decode (awM_c M) pc = .ok (.iinc i n, 6)) (hk : lk lv i = some (.int x)) (hv : x + Int32.ofInt n = v) (hn : i < awM_n M) (hl : up1 lv i (.int v) = lv') (k : awX b E M (pc + 6) lv' st S kc ks Q) : awX b E M pc lv st S kc ks Q := by
  subst hl
  obtain ⟨q, hq⟩ := lk_pos hk
  exact awX.pure (fun w => w.set1 (v := .int v) trivial) (fun p e R s m args below meth c H locs ad ls Z hC wf hR hls kk => lv_iincW hC.1 hC.2.1 hd hls (k := q) (by rw [lvm, List.getElem?_map, hq]; rfl) hv hn (lvm_up1 ad lv i (.int v)) (fun ls' h => kk ls' h)) k
theorem ax_dup {v : Value} (hd : decode (awM_c M) pc = .ok (.dup, 1)) (hv : v.category = 1) (k : awX b E M (pc + 1) lv (v :: v :: st) S kc ks Q) : awX b E M pc lv (v :: st) S kc ks Q :=
  awX.pure (fun w => w.push w.top) (fun p e R s m args below meth c H locs ad ls Z hC wf hR hls kk => lv_dup hC.1 hC.2.1 hd ((rnv_cat ad v).trans hv) (kk ls hls)) k
theorem ax_pop {v : Value} (hd : decode (awM_c M) pc = .ok (.pop, 1)) (hv : v.category = 1) (k : awX b E M (pc + 1) lv (st) S kc ks Q) : awX b E M pc lv (v :: st) S kc ks Q :=
  awX.pure (fun w => w.pop) (fun p e R s m args below meth c H locs ad ls Z hC wf hR hls kk => lv_pop hC.1 hC.2.1 hd ((rnv_cat ad v).trans hv) (kk ls hls)) k
theorem ax_dup2 {v u : Value} (hd : decode (awM_c M) pc = .ok (.dup2, 1)) (hv : v.category = 1) (hu : u.category = 1) (k : awX b E M (pc + 1) lv (v :: u :: v :: u :: st) S kc ks Q) : awX b E M pc lv (v :: u :: st) S kc ks Q :=
  awX.pure (fun w => (w.push w.pop.top).push w.top) (fun p e R s m args below meth c H locs ad ls Z hC wf hR hls kk => lv_dup2_11 hC.1 hC.2.1 hd ((rnv_cat ad v).trans hv) ((rnv_cat ad u).trans hu) (kk ls hls)) k
theorem ax_dup_x1 {v u : Value} (hd : decode (awM_c M) pc = .ok (.dup_x1, 1)) (hv : v.category = 1) (hu : u.category = 1) (k : awX b E M (pc + 1) lv (v :: u :: v :: st) S kc ks Q) : awX b E M pc lv (v :: u :: st) S kc ks Q :=
  awX.pure (fun w => ((w.pop.pop.push w.top).push w.pop.top).push w.top) (fun p e R s m args below meth c H locs ad ls Z hC wf hR hls kk => lv_dup_x1 hC.1 hC.2.1 hd ((rnv_cat ad v).trans hv) ((rnv_cat ad u).trans hu) (kk ls hls)) k
theorem ax_goto {off : Int} {tgt : Nat} (hd : decode (awM_c M) pc = .ok (.goto off, 3)) (ht : (pc : Int) + off = (tgt : Int)) (k : awX b E M tgt lv st S kc ks Q) : awX b E M pc lv st S kc ks Q :=
  awX.pure (fun w => w) (fun p e R s m args below meth c H locs ad ls Z hC wf hR hls kk => lv_goto hC.1 hC.2.1 hd ht (kk ls hls)) k
theorem awX.at {pc' : Nat} (h : pc' = pc) (k : awX b E M pc' lv st S kc ks Q) : awX b E M pc lv st S kc ks Q := h ▸ k
theorem ax_if_eq {x : Int32} {off : Int} {tgt : Nat} (hd : decode (awM_c M) pc = .ok (.ifCond .eq off, 3)) (ht : (pc : Int) + off = (tgt : Int)) (kt : x = 0 → awX b E M tgt lv st S kc ks Q) (kf : ¬ (x = 0) → awX b E M (pc + 3) lv st S kc ks Q) : awX b E M pc lv (.int x :: st) S kc ks Q := by
  by_cases h : x = 0
  · exact awX.pure (fun w => w.pop) (fun p e R s m args below meth c H locs ad ls Z hC wf hR hls kk => lv_if_eq hC.1 hC.2.1 hd ht (fun _ => kk ls hls) (fun h' => absurd h (by simpa using h'))) (kt h)
  · exact awX.pure (fun w => w.pop) (fun p e R s m args below meth c H locs ad ls Z hC wf hR hls kk => lv_if_eq hC.1 hC.2.1 hd ht (fun h' => absurd h' h) (fun _ => kk ls hls)) (kf h)
theorem ax_icmp_eq {x y : Int32} {off : Int} {tgt : Nat} (hd : decode (awM_c M) pc = .ok (.if_icmp .eq off, 3)) (ht : (pc : Int) + off = (tgt : Int)) (kt : x = y → awX b E M tgt lv st S kc ks Q) (kf : ¬ (x = y) → awX b E M (pc + 3) lv st S kc ks Q) : awX b E M pc lv (.int y :: .int x :: st) S kc ks Q := by
  by_cases h : x = y
  · exact awX.pure (fun w => w.pop.pop) (fun p e R s m args below meth c H locs ad ls Z hC wf hR hls kk => lv_icmp_eq hC.1 hC.2.1 hd ht (fun _ => kk ls hls) (fun h' => absurd h (by simpa using h'))) (kt h)
  · exact awX.pure (fun w => w.pop.pop) (fun p e R s m args below meth c H locs ad ls Z hC wf hR hls kk => lv_icmp_eq hC.1 hC.2.1 hd ht (fun h' => absurd h' h) (fun _ => kk ls hls)) (kf h)
theorem ax_if_ne {x : Int32} {off : Int} {tgt : Nat} (hd : decode (awM_c M) pc = .ok (.ifCond .ne off, 3)) (ht : (pc : Int) + off = (tgt : Int)) (kt : ¬ x = 0 → awX b E M tgt lv st S kc ks Q) (kf : ¬ (¬ x = 0) → awX b E M (pc + 3) lv st S kc ks Q) : awX b E M pc lv (.int x :: st) S kc ks Q := by
  by_cases h : ¬ x = 0
  · exact awX.pure (fun w => w.pop) (fun p e R s m args below meth c H locs ad ls Z hC wf hR hls kk => lv_if_ne hC.1 hC.2.1 hd ht (fun _ => kk ls hls) (fun h' => absurd h (by simpa using h'))) (kt h)
  · exact awX.pure (fun w => w.pop) (fun p e R s m args below meth c H locs ad ls Z hC wf hR hls kk => lv_if_ne hC.1 hC.2.1 hd ht (fun h' => absurd h' h) (fun _ => kk ls hls)) (kf h)
theorem ax_icmp_ne {x y : Int32} {off : Int} {tgt : Nat} (hd : decode (awM_c M) pc = .ok (.if_icmp .ne off, 3)) (ht : (pc : Int) + off = (tgt : Int)) (kt : ¬ x = y → awX b E M tgt lv st S kc ks Q) (kf : ¬ (¬ x = y) → awX b E M (pc + 3) lv st S kc ks Q) : awX b E M pc lv (.int y :: .int x :: st) S kc ks Q := by
  by_cases h : ¬ x = y
  · exact awX.pure (fun w => w.pop.pop) (fun p e R s m args below meth c H locs ad ls Z hC wf hR hls kk => lv_icmp_ne hC.1 hC.2.1 hd ht (fun _ => kk ls hls) (fun h' => absurd h (by simpa using h'))) (kt h)
  · exact awX.pure (fun w => w.pop.pop) (fun p e R s m args below meth c H locs ad ls Z hC wf hR hls kk => lv_icmp_ne hC.1 hC.2.1 hd ht (fun h' => absurd h' h) (fun _ => kk ls hls)) (kf h)
theorem ax_if_lt {x : Int32} {off : Int} {tgt : Nat} (hd : decode (awM_c M) pc = .ok (.ifCond .lt off, 3)) (ht : (pc : Int) + off = (tgt : Int)) (kt : x < 0 → awX b E M tgt lv st S kc ks Q) (kf : ¬ (x < 0) → awX b E M (pc + 3) lv st S kc ks Q) : awX b E M pc lv (.int x :: st) S kc ks Q := by
  by_cases h : x < 0
  · exact awX.pure (fun w => w.pop) (fun p e R s m args below meth c H locs ad ls Z hC wf hR hls kk => lv_if_lt hC.1 hC.2.1 hd ht (fun _ => kk ls hls) (fun h' => absurd h (by simpa using h'))) (kt h)
  · exact awX.pure (fun w => w.pop) (fun p e R s m args below meth c H locs ad ls Z hC wf hR hls kk => lv_if_lt hC.1 hC.2.1 hd ht (fun h' => absurd h' h) (fun _ => kk ls hls)) (kf h)
theorem ax_icmp_lt {x y : Int32} {off : Int} {tgt : Nat} (hd : decode (awM_c M) pc = .ok (.if_icmp .lt off, 3)) (ht : (pc : Int) + off = (tgt : Int)) (kt : x < y → awX b E M tgt lv st S kc ks Q) (kf : ¬ (x < y) → awX b E M (pc + 3) lv st S kc ks Q) : awX b E M pc lv (.int y :: .int x :: st) S kc ks Q := by
  by_cases h : x < y
  · exact awX.pure (fun w => w.pop.pop) (fun p e R s m args below meth c H locs ad ls Z hC wf hR hls kk => lv_icmp_lt hC.1 hC.2.1 hd ht (fun _ => kk ls hls) (fun h' => absurd h (by simpa using h'))) (kt h)
  · exact awX.pure (fun w => w.pop.pop) (fun p e R s m args below meth c H locs ad ls Z hC wf hR hls kk => lv_icmp_lt hC.1 hC.2.1 hd ht (fun h' => absurd h' h) (fun _ => kk ls hls)) (kf h)
theorem ax_if_ge {x : Int32} {off : Int} {tgt : Nat} (hd : decode (awM_c M) pc = .ok (.ifCond .ge off, 3)) (ht : (pc : Int) + off = (tgt : Int)) (kt : 0 ≤ x → awX b E M tgt lv st S kc ks Q) (kf : ¬ (0 ≤ x) → awX b E M (pc + 3) lv st S kc ks Q) : awX b E M pc lv (.int x :: st) S kc ks Q := by
  by_cases h : 0 ≤ x
  · exact awX.pure (fun w => w.pop) (fun p e R s m args below meth c H locs ad ls Z hC wf hR hls kk => lv_if_ge hC.1 hC.2.1 hd ht (fun _ => kk ls hls) (fun h' => absurd h (by simpa using h'))) (kt h)
  · exact awX.pure (fun w => w.pop) (fun p e R s m args below meth c H locs ad ls Z hC wf hR hls kk => lv_if_ge hC.1 hC.2.1 hd ht (fun h' => absurd h' h) (fun _ => kk ls hls)) (kf h)
theorem ax_icmp_ge {x y : Int32} {off : Int} {tgt : Nat} (hd : decode (awM_c M) pc = .ok (.if_icmp .ge off, 3)) (ht : (pc : Int) + off = (tgt : Int)) (kt : y ≤ x → awX b E M tgt lv st S kc ks Q) (kf : ¬ (y ≤ x) → awX b E M (pc + 3) lv st S kc ks Q) : awX b E M pc lv (.int y :: .int x :: st) S kc ks Q := by
  by_cases h : y ≤ x
  · exact awX.pure (fun w => w.pop.pop) (fun p e R s m args below meth c H locs ad ls Z hC wf hR hls kk => lv_icmp_ge hC.1 hC.2.1 hd ht (fun _ => kk ls hls) (fun h' => absurd h (by simpa using h'))) (kt h)
  · exact awX.pure (fun w => w.pop.pop) (fun p e R s m args below meth c H locs ad ls Z hC wf hR hls kk => lv_icmp_ge hC.1 hC.2.1 hd ht (fun h' => absurd h' h) (fun _ => kk ls hls)) (kf h)
theorem ax_if_gt {x : Int32} {off : Int} {tgt : Nat} (hd : decode (awM_c M) pc = .ok (.ifCond .gt off, 3)) (ht : (pc : Int) + off = (tgt : Int)) (kt : 0 < x → awX b E M tgt lv st S kc ks Q) (kf : ¬ (0 < x) → awX b E M (pc + 3) lv st S kc ks Q) : awX b E M pc lv (.int x :: st) S kc ks Q := by
  by_cases h : 0 < x
  · exact awX.pure (fun w => w.pop) (fun p e R s m args below meth c H locs ad ls Z hC wf hR hls kk => lv_if_gt hC.1 hC.2.1 hd ht (fun _ => kk ls hls) (fun h' => absurd h (by simpa using h'))) (kt h)
  · exact awX.pure (fun w => w.pop) (fun p e R s m args below meth c H locs ad ls Z hC wf hR hls kk => lv_if_gt hC.1 hC.2.1 hd ht (fun h' => absurd h' h) (fun _ => kk ls hls)) (kf h)
theorem ax_icmp_gt {x y : Int32} {off : Int} {tgt : Nat} (hd : decode (awM_c M) pc = .ok (.if_icmp .gt off, 3)) (ht : (pc : Int) + off = (tgt : Int)) (kt : y < x → awX b E M tgt lv st S kc ks Q) (kf : ¬ (y < x) → awX b E M (pc + 3) lv st S kc ks Q) : awX b E M pc lv (.int y :: .int x :: st) S kc ks Q := by
  by_cases h : y < x
  · exact awX.pure (fun w => w.pop.pop) (fun p e R s m args below meth c H locs ad ls Z hC wf hR hls kk => lv_icmp_gt hC.1 hC.2.1 hd ht (fun _ => kk ls hls) (fun h' => absurd h (by simpa using h'))) (kt h)
  · exact awX.pure (fun w => w.pop.pop) (fun p e R s m args below meth c H locs ad ls Z hC wf hR hls kk => lv_icmp_gt hC.1 hC.2.1 hd ht (fun h' => absurd h' h) (fun _ => kk ls hls)) (kf h)
theorem ax_if_le {x : Int32} {off : Int} {tgt : Nat} (hd : decode (awM_c M) pc = .ok (.ifCond .le off, 3)) (ht : (pc : Int) + off = (tgt : Int)) (kt : x ≤ 0 → awX b E M tgt lv st S kc ks Q) (kf : ¬ (x ≤ 0) → awX b E M (pc + 3) lv st S kc ks Q) : awX b E M pc lv (.int x :: st) S kc ks Q := by
  by_cases h : x ≤ 0
  · exact awX.pure (fun w => w.pop) (fun p e R s m args below meth c H locs ad ls Z hC wf hR hls kk => lv_if_le hC.1 hC.2.1 hd ht (fun _ => kk ls hls) (fun h' => absurd h (by simpa using h'))) (kt h)
  · exact awX.pure (fun w => w.pop) (fun p e R s m args below meth c H locs ad ls Z hC wf hR hls kk => lv_if_le hC.1 hC.2.1 hd ht (fun h' => absurd h' h) (fun _ => kk ls hls)) (kf h)
theorem ax_icmp_le {x y : Int32} {off : Int} {tgt : Nat} (hd : decode (awM_c M) pc = .ok (.if_icmp .le off, 3)) (ht : (pc : Int) + off = (tgt : Int)) (kt : x ≤ y → awX b E M tgt lv st S kc ks Q) (kf : ¬ (x ≤ y) → awX b E M (pc + 3) lv st S kc ks Q) : awX b E M pc lv (.int y :: .int x :: st) S kc ks Q := by
  by_cases h : x ≤ y
  · exact awX.pure (fun w => w.pop.pop) (fun p e R s m args below meth c H locs ad ls Z hC wf hR hls kk => lv_icmp_le hC.1 hC.2.1 hd ht (fun _ => kk ls hls) (fun h' => absurd h (by simpa using h'))) (kt h)
  · exact awX.pure (fun w => w.pop.pop) (fun p e R s m args below meth c H locs ad ls Z hC wf hR hls kk => lv_icmp_le hC.1 hC.2.1 hd ht (fun h' => absurd h' h) (fun _ => kk ls hls)) (kf h)
theorem ax_acmp_eq {v u : Value} {off : Int} {tgt : Nat} (hd : decode (awM_c M) pc = .ok (.if_acmp .eq off, 3)) (ht : (pc : Int) + off = (tgt : Int)) (hv : rfV v = true) (hu : rfV u = true) (hs : v = u ∨ (nsV v ∧ nsV u)) (kt : v = u → awX b E M tgt lv st S kc ks Q) (kf : ¬ v = u → awX b E M (pc + 3) lv st S kc ks Q) : awX b E M pc lv (u :: v :: st) S kc ks Q := by
  obtain ⟨r1, rfl⟩ := rf_of hv
  obtain ⟨r2, rfl⟩ := rf_of hu
  have e2 : ∀ a b : Option Nat, va_rf a = va_rf b ↔ a = b := fun a b => by cases a <;> cases b <;> simp [va_rf]
  by_cases h : va_rf r1 = va_rf r2
  · refine awX.pure (fun w => w.pop.pop) (fun p e R s m args below meth c H locs ad ls Z hC wf hR hls kk => ?_) (kt h)
    have hi := rnv_inj hR (wf.pop.top) (wf.top) hv hu hs
    rw [rnv_rf, rnv_rf, e2] at hi
    rw [List.map_cons, List.map_cons, rnv_rf, rnv_rf]
    exact lv_acmp_eq hC.1 hC.2.1 hd ht (fun _ => kk ls hls) (fun h' => absurd h (by first | exact fun q => q (hi.mp h') | exact fun q => h' (hi.mpr q)))
  · refine awX.pure (fun w => w.pop.pop) (fun p e R s m args below meth c H locs ad ls Z hC wf hR hls kk => ?_) (kf (by first | exact h | exact Classical.not_not.mp h))
    have hi := rnv_inj hR (wf.pop.top) (wf.top) hv hu hs
    rw [rnv_rf, rnv_rf, e2] at hi
    rw [List.map_cons, List.map_cons, rnv_rf, rnv_rf]
    exact lv_acmp_eq hC.1 hC.2.1 hd ht (fun h' => absurd (by first | exact hi.mp h' | exact fun q => h' (hi.mpr q)) h) (fun _ => kk ls hls)
theorem ax_acmp_ne {v u : Value} {off : Int} {tgt : Nat} (hd : decode (awM_c M) pc = .ok (.if_acmp .ne off, 3)) (ht : (pc : Int) + off = (tgt : Int)) (hv : rfV v = true) (hu : rfV u = true) (hs : v = u ∨ (nsV v ∧ nsV u)) (kt : ¬ v = u → awX b E M tgt lv st S kc ks Q) (kf : v = u → awX b E M (pc + 3) lv st S kc ks Q) : awX b E M pc lv (u :: v :: st) S kc ks Q := by
  obtain ⟨r1, rfl⟩ := rf_of hv
  obtain ⟨r2, rfl⟩ := rf_of hu
  have e2 : ∀ a b : Option Nat, va_rf a = va_rf b ↔ a = b := fun a b => by cases a <;> cases b <;> simp [va_rf]
  by_cases h : ¬ va_rf r1 = va_rf r2
  · refine awX.pure (fun w => w.pop.pop) (fun p e R s m args below meth c H locs ad ls Z hC wf hR hls kk => ?_) (kt h)
    have hi := rnv_inj hR (wf.pop.top) (wf.top) hv hu hs
    rw [rnv_rf, rnv_rf, e2] at hi
    rw [List.map_cons, List.map_cons, rnv_rf, rnv_rf]
    exact lv_acmp_ne hC.1 hC.2.1 hd ht (fun _ => kk ls hls) (fun h' => absurd h (by first | exact fun q => q (hi.mp h') | exact fun q => h' (hi.mpr q)))
  · refine awX.pure (fun w => w.pop.pop) (fun p e R s m args below meth c H locs ad ls Z hC wf hR hls kk => ?_) (kf (by first | exact h | exact Classical.not_not.mp h))
    have hi := rnv_inj hR (wf.pop.top) (wf.top) hv hu hs
    rw [rnv_rf, rnv_rf, e2] at hi
    rw [List.map_cons, List.map_cons, rnv_rf, rnv_rf]
    exact lv_acmp_ne hC.1 hC.2.1 hd ht (fun h' => absurd (by first | exact hi.mp h' | exact fun q => h' (hi.mpr q)) h) (fun _ => kk ls hls)
theorem ax_ifnull {r : Option Nat} {off : Int} {tgt : Nat} (hd : decode (awM_c M) pc = .ok (.ifnull off, 3)) (ht : (pc : Int) + off = (tgt : Int)) (kt : r = none → awX b E M tgt lv st S kc ks Q) (kf : ∀ n, r = some n → awX b E M (pc + 3) lv st S kc ks Q) : awX b E M pc lv (va_rf r :: st) S kc ks Q := by
  cases r with
  | none => exact awX.pure (fun w => w.pop) (fun p e R s m args below meth c H locs ad ls Z hC wf hR hls kk => lv_ifnullN hC.1 hC.2.1 hd ht (kk ls hls)) (kt rfl)
  | some n => exact awX.pure (fun w => w.pop) (fun p e R s m args below meth c H locs ad ls Z hC wf hR hls kk => lv_ifnull hC.1 hC.2.1 hd (kk ls hls)) (kf n rfl)
theorem ax_ifnonnull {r : Option Nat} {off : Int} {tgt : Nat} (hd : decode (awM_c M) pc = .ok (.ifnonnull off, 3)) (ht : (pc : Int) + off = (tgt : Int)) (kt : ∀ n, r = some n → awX b E M tgt lv st S kc ks Q) (kf : r = none → awX b E M (pc + 3) lv st S kc ks Q) : awX b E M pc lv (va_rf r :: st) S kc ks Q := by
  cases r with
  | none => exact awX.pure (fun w => w.pop) (fun p e R s m args below meth c H locs ad ls Z hC wf hR hls kk => lv_ifnonnullN hC.1 hC.2.1 hd (kk ls hls)) (kf rfl)
  | some n => exact awX.pure (fun w => w.pop) (fun p e R s m args below meth c H locs ad ls Z hC wf hR hls kk => lv_ifnonnull hC.1 hC.2.1 hd ht (kk ls hls)) (kt n rfl)
theorem ax_tableIn {dflt lo hi : Int} {offs : Array Int} {len : Nat} {x : Int32} {off : Int} {tgt : Nat} (hd : decode (awM_c M) pc = .ok (.tableswitch dflt lo hi offs, len)) (h1 : ¬ x.toInt < lo) (h2 : ¬ hi < x.toInt) (ho : offs[(x.toInt - lo).toNat]? = some off) (ht : (pc : Int) + off = (tgt : Int)) (k : awX b E M tgt lv st S kc ks Q) : awX b E M pc lv (.int x :: st) S kc ks Q :=
  awX.pure (fun w => w.pop) (fun p e R s m args below meth c H locs ad ls Z hC wf hR hls kk => lv_tableIn hC.1 hC.2.1 hd h1 h2 ho ht (kk ls hls)) k
theorem ax_tableOut {dflt lo hi : Int} {offs : Array Int} {len : Nat} {x : Int32} {tgt : Nat} (hd : decode (awM_c M) pc = .ok (.tableswitch dflt lo hi offs, len)) (h : x.toInt < lo ∨ hi < x.toInt) (ht : (pc : Int) + dflt = (tgt : Int)) (k : awX b E M tgt lv st S kc ks Q) : awX b E M pc lv (.int x :: st) S kc ks Q :=
  awX.pure (fun w => w.pop) (fun p e R s m args below meth c H locs ad ls Z hC wf hR hls kk => lv_tableOut hC.1 hC.2.1 hd h ht (kk ls hls)) k
end PURE
