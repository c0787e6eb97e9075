section NRULES
variable {b : Bool} {E : awE} {Mt : awM} {pc : Nat} {lv lv' : List (Nat × Value)} {st : List Value} {S : awS} {M : aM} {kc ks : Nat} {Q : Option Value → awS → Nat → Nat → Prop}
theorem av_top {x y : Int32} (e : x = y) (k : awV b E Mt pc lv (.int y :: st) S kc ks Q) : awV b E Mt pc lv (.int x :: st) S kc ks Q := by rw [e]; exact k
theorem av_iaddN {m n : Nat} (hd : decode (awM_c Mt) pc = .ok (.iadd, 1)) (k : awV b E Mt (pc + 1) lv (.int (nI (m + n)) :: st) S kc ks Q) : awV b E Mt pc lv (.int (nI n) :: .int (nI m) :: st) S kc ks Q := av_iadd hd (by rw [nI_add]; exact k)
theorem av_iadd1 {m : Nat} (hd : decode (awM_c Mt) pc = .ok (.iadd, 1)) (k : awV b E Mt (pc + 1) lv (.int (nI (m + 1)) :: st) S kc ks Q) : awV b E Mt pc lv (.int 1 :: .int (nI m) :: st) S kc ks Q := av_iadd hd (by rw [nI_1]; exact k)
theorem av_imulN {m n : Nat} (hd : decode (awM_c Mt) pc = .ok (.imul, 1)) (k : awV b E Mt (pc + 1) lv (.int (nI (m * n)) :: st) S kc ks Q) : awV b E Mt pc lv (.int (nI n) :: .int (nI m) :: st) S kc ks Q := av_imul hd (by rw [pk_mul]; exact k)
theorem av_isubN {m n : Nat} (hd : decode (awM_c Mt) pc = .ok (.isub, 1)) (h : n ≤ m) (k : awV b E Mt (pc + 1) lv (.int (nI (m - n)) :: st) S kc ks Q) : awV b E Mt pc lv (.int (nI n) :: .int (nI m) :: st) S kc ks Q := av_isub hd (by rw [pk_sub h]; exact k)
end NRULES
theorem av_loc {b : Bool} {E : awE} {M : awM} {pc : Nat} {lv lv' : List (Nat × Value)} {st : List Value} {S : awS} {kc ks : Nat} {Q : Option Value → awS → Nat → Nat → Prop} (h : lv'.map (fun q => lk lv q.1) = lv'.map (fun q => some q.2)) (k : awV b E M pc lv' st S kc ks Q) : awV b E M pc lv st S kc ks Q := by
  have hh : ∀ q ∈ lv', lk lv q.1 = some q.2 := fun q hq => by
    obtain ⟨i, hi⟩ := List.getElem?_of_mem hq
    have e1 : (lv'.map (fun q => lk lv q.1))[i]? = some (lk lv q.1) := by rw [List.getElem?_map, hi]; rfl
    rw [h, List.getElem?_map, hi] at e1
    exact (Option.some.inj e1).symm
  exact awV.pure (fun w => ⟨fun q hq => w.loc (hh q hq), w.2⟩) (fun p e R s m args below meth c H locs ad ls Z hC wf hR hls kk => kk ls ⟨hls.1, hls.2.1, fun q hq => by
    obtain ⟨q', hq', rfl⟩ := List.mem_map.mp hq
    exact lk_ls hls (hh q' hq')⟩) k
