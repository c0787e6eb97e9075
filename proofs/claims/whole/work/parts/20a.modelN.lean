section NRULES
variable {b : Bool} {E : awE} {Mt : awM} {pc : Nat} {lv lv' : List (Nat × Value)} {st : List Value} {S : awS} {M : aM} {kc ks : Nat} {Q : Option Value → awS → Nat → Nat → Prop}
theorem ax_top {x y : Int32} (e : x = y) (k : awX b E Mt pc lv (.int y :: st) S kc ks Q) : awX b E Mt pc lv (.int x :: st) S kc ks Q := by rw [e]; exact k
theorem ax_iaddN {m n : Nat} (hd : decode (awM_c Mt) pc = .ok (.iadd, 1)) (k : awX b E Mt (pc + 1) lv (.int (nI (m + n)) :: st) S kc ks Q) : awX b E Mt pc lv (.int (nI n) :: .int (nI m) :: st) S kc ks Q := ax_iadd hd (by rw [nI_add]; exact k)
theorem ax_iadd1 {m : Nat} (hd : decode (awM_c Mt) pc = .ok (.iadd, 1)) (k : awX b E Mt (pc + 1) lv (.int (nI (m + 1)) :: st) S kc ks Q) : awX b E Mt pc lv (.int 1 :: .int (nI m) :: st) S kc ks Q := ax_iadd hd (by rw [nI_1]; exact k)
theorem ax_imulN {m n : Nat} (hd : decode (awM_c Mt) pc = .ok (.imul, 1)) (k : awX b E Mt (pc + 1) lv (.int (nI (m * n)) :: st) S kc ks Q) : awX b E Mt pc lv (.int (nI n) :: .int (nI m) :: st) S kc ks Q := ax_imul hd (by rw [pk_mul]; exact k)
theorem ax_isubN {m n : Nat} (hd : decode (awM_c Mt) pc = .ok (.isub, 1)) (h : n ≤ m) (k : awX b E Mt (pc + 1) lv (.int (nI (m - n)) :: st) S kc ks Q) : awX b E Mt pc lv (.int (nI n) :: .int (nI m) :: st) S kc ks Q := ax_isub hd (by rw [pk_sub h]; exact k)
theorem ax_mIN {k n N : Nat} (hm : mOk S) (hd : decode (awM_c Mt) pc = .ok (.iaload, 1)) (hf : fK (128 + k) = 20) (hN : mLen k = N) (hNb : N < 2 ^ 31) (hn : n < N) (kk : awX b E Mt (pc + 1) lv (.int (mA M k n) :: st) (putM S M) kc ks Q) : awX b E Mt pc lv (.int (nI n) :: .ref (nm (128 + k) 0) :: st) (putM S M) kc ks Q :=
  ax_mI hm hd hf (by omega) (by rw [hN]; exact vp_in_nI hn hNb) (by rw [nI_clamp (by omega)]; exact kk)
theorem ax_mZN {k n N : Nat} (hm : mOk S) (hd : decode (awM_c Mt) pc = .ok (.baload, 1)) (hf : fK (128 + k) = 22) (hN : mLen k = N) (hNb : N < 2 ^ 31) (hn : n < N) (kk : awX b E Mt (pc + 1) lv (.int (mA M k n) :: st) (putM S M) kc ks Q) : awX b E Mt pc lv (.int (nI n) :: .ref (nm (128 + k) 0) :: st) (putM S M) kc ks Q :=
  ax_mZ hm hd hf (by omega) (by rw [hN]; exact vp_in_nI hn hNb) (by rw [nI_clamp (by omega)]; exact kk)
theorem ax_mBN {k n N : Nat} (hm : mOk S) (hd : decode (awM_c Mt) pc = .ok (.baload, 1)) (hf : fK (128 + k) = 23) (hN : mLen k = N) (hNb : N < 2 ^ 31) (hn : n < N) (kk : awX b E Mt (pc + 1) lv (.int (mA M k n) :: st) (putM S M) kc ks Q) : awX b E Mt pc lv (.int (nI n) :: .ref (nm (128 + k) 0) :: st) (putM S M) kc ks Q :=
  ax_mB hm hd hf (by omega) (by rw [hN]; exact vp_in_nI hn hNb) (by rw [nI_clamp (by omega)]; exact kk)
theorem ax_mJN {k n N : Nat} (hm : mOk S) (hd : decode (awM_c Mt) pc = .ok (.laload, 1)) (hf : fK (128 + k) = 21) (hN : mLen k = N) (hNb : N < 2 ^ 31) (hn : n < N) (kk : awX b E Mt (pc + 1) lv (.long (mL M k n) :: st) (putM S M) kc ks Q) : awX b E Mt pc lv (.int (nI n) :: .ref (nm (128 + k) 0) :: st) (putM S M) kc ks Q :=
  ax_mJ hm hd hf (by omega) (by rw [hN]; exact vp_in_nI hn hNb) (by rw [nI_clamp (by omega)]; exact kk)
theorem ax_mPIN {k n N : Nat} {y : Int32} (hm : mOk S) (hd : decode (awM_c Mt) pc = .ok (.iastore, 1)) (hf : fK (128 + k) = 20) (hN : mLen k = N) (hNb : N < 2 ^ 31) (hn : n < N) (kk : awX b E Mt (pc + 1) lv st (putM S (pA M k n y)) kc ks Q) : awX b E Mt pc lv (.int y :: .int (nI n) :: .ref (nm (128 + k) 0) :: st) (putM S M) kc ks Q :=
  ax_mPI hm hd hf (by omega) (by rw [hN]; exact vp_in_nI hn hNb) (by rw [nI_clamp (by omega)]; exact kk)
theorem ax_mPZN {k n N : Nat} {y : Int32} (hm : mOk S) (hd : decode (awM_c Mt) pc = .ok (.bastore, 1)) (hf : fK (128 + k) = 22) (hN : mLen k = N) (hNb : N < 2 ^ 31) (hn : n < N) (hy : y &&& 1 = y) (kk : awX b E Mt (pc + 1) lv st (putM S (pA M k n y)) kc ks Q) : awX b E Mt pc lv (.int y :: .int (nI n) :: .ref (nm (128 + k) 0) :: st) (putM S M) kc ks Q :=
  ax_mPZ hm hd hf (by omega) (by rw [hN]; exact vp_in_nI hn hNb) hy (by rw [nI_clamp (by omega)]; exact kk)
theorem ax_mPBN {k n N : Nat} {y : Int32} (hm : mOk S) (hd : decode (awM_c Mt) pc = .ok (.bastore, 1)) (hf : fK (128 + k) = 23) (hN : mLen k = N) (hNb : N < 2 ^ 31) (hn : n < N) (hy : y.toInt8.toInt32 = y) (kk : awX b E Mt (pc + 1) lv st (putM S (pA M k n y)) kc ks Q) : awX b E Mt pc lv (.int y :: .int (nI n) :: .ref (nm (128 + k) 0) :: st) (putM S M) kc ks Q :=
  ax_mPB hm hd hf (by omega) (by rw [hN]; exact vp_in_nI hn hNb) hy (by rw [nI_clamp (by omega)]; exact kk)
theorem ax_mPJN {k n N : Nat} {y : Int64} (hm : mOk S) (hd : decode (awM_c Mt) pc = .ok (.lastore, 1)) (hf : fK (128 + k) = 21) (hN : mLen k = N) (hNb : N < 2 ^ 31) (hn : n < N) (kk : awX b E Mt (pc + 1) lv st (putM S (pL M k n y)) kc ks Q) : awX b E Mt pc lv (.long y :: .int (nI n) :: .ref (nm (128 + k) 0) :: st) (putM S M) kc ks Q :=
  ax_mPJ hm hd hf (by omega) (by rw [hN]; exact vp_in_nI hn hNb) (by rw [nI_clamp (by omega)]; exact kk)
end NRULES
theorem ax_loc {b : Bool} {E : awE} {M : awM} {pc : Nat} {lv lv' : List (Nat × Value)} {st : List Value} {S : awS} {kc ks : Nat} {Q : Option Value → awS → Nat → Nat → Prop} (h : lv'.map (fun q => lk lv q.1) = lv'.map (fun q => some q.2)) (k : awX b E M pc lv' st S kc ks Q) : awX b E M pc lv st S kc ks Q := by
  have hh : ∀ q ∈ lv', lk lv q.1 = some q.2 := fun q hq => by
    obtain ⟨i, hi⟩ := List.getElem?_of_mem hq
    have e1 : (lv'.map (fun q => lk lv q.1))[i]? = some (lk lv q.1) := by rw [List.getElem?_map, hi]; rfl
    rw [h, List.getElem?_map, hi] at e1
    exact (Option.some.inj e1).symm
  exact awX.pure (fun w => ⟨fun q hq => w.loc (hh q hq), w.2⟩) (fun p e R s m args below meth c H locs ad ls Z hC wf hR hls kk => kk ls ⟨hls.1, hls.2.1, fun q hq => by
    obtain ⟨q', hq', rfl⟩ := List.mem_map.mp hq
    exact lk_ls hls (hh q' hq')⟩) k
theorem fst_iff {c d : Prop} (h : c ↔ d) {A : Prop} (k : d → A) : c → A := fun z => k (h.mp z)
theorem cmpW {k t n m : Nat} (h : k + n = t + m) (hk : k ≤ t) (ht : t ≤ 1000) (hn : n ≤ 1000) : nI k ≤ nI t - nI n ↔ m = 0 := by
  rw [Int32.le_iff_toInt_le, nI_toInt (by omega), pk_sub_toInt (by omega) (by omega)]
  omega
theorem cmpW2 {k t n m : Nat} (h : k + n + 1 = t + m) (hk : k < t) (ht : t ≤ 1000) (hn : n ≤ 1000) : nI k < nI t - nI n ↔ m = 0 := by
  rw [Int32.lt_iff_toInt_lt, nI_toInt (by omega), pk_sub_toInt (by omega) (by omega)]
  omega
