-- the reference's own state: its numbers, its rows of ints, its rows of longs, by the places of their fields
abbrev aM : Type := (Nat → Int32) × (Nat → Nat → Int32) × (Nat → Nat → Int64)
def mS (M : aM) (k : Nat) : Int32 := M.1 k
def mA (M : aM) (k j : Nat) : Int32 := M.2.1 k j
def mL (M : aM) (k j : Nat) : Int64 := M.2.2 k j
def pS (M : aM) (k : Nat) (v : Int32) : aM := (fun k' => if k' = k then v else M.1 k', M.2)
def pA (M : aM) (k j : Nat) (v : Int32) : aM := (M.1, fun k' j' => if k' = k ∧ j' = j then v else M.2.1 k' j', M.2.2)
def pL (M : aM) (k j : Nat) (v : Int64) : aM := (M.1, M.2.1, fun k' j' => if k' = k ∧ j' = j then v else M.2.2 k' j')
theorem mS_pS (M : aM) (k : Nat) (v : Int32) (k' : Nat) : mS (pS M k v) k' = if k' = k then v else mS M k' := rfl
theorem mS_pA (M : aM) (k j : Nat) (v : Int32) (k' : Nat) : mS (pA M k j v) k' = mS M k' := rfl
theorem mS_pL (M : aM) (k j : Nat) (v : Int64) (k' : Nat) : mS (pL M k j v) k' = mS M k' := rfl
theorem mA_pS (M : aM) (k : Nat) (v : Int32) (k' j' : Nat) : mA (pS M k v) k' j' = mA M k' j' := rfl
theorem mA_pA (M : aM) (k j : Nat) (v : Int32) (k' j' : Nat) : mA (pA M k j v) k' j' = if k' = k ∧ j' = j then v else mA M k' j' := rfl
theorem mA_pL (M : aM) (k j : Nat) (v : Int64) (k' j' : Nat) : mA (pL M k j v) k' j' = mA M k' j' := rfl
theorem mL_pS (M : aM) (k : Nat) (v : Int32) (k' j' : Nat) : mL (pS M k v) k' j' = mL M k' j' := rfl
theorem mL_pA (M : aM) (k j : Nat) (v : Int32) (k' j' : Nat) : mL (pA M k j v) k' j' = mL M k' j' := rfl
theorem mL_pL (M : aM) (k j : Nat) (v : Int64) (k' j' : Nat) : mL (pL M k j v) k' j' = if k' = k ∧ j' = j then v else mL M k' j' := rfl
/-- the store with the reference's part put in -/
def putM (S : awS) (M : aM) : awS := (fun f i j => if i = 0 ∧ f = 13 then M.1 j else if i = 0 ∧ 128 ≤ f then M.2.1 (f - 128) j else S.1 f i j, fun f i j => if i = 0 ∧ 128 ≤ f then M.2.2 (f - 128) j else S.2.1 f i j, S.2.2)
def parM (S : awS) : aM := (fun k => S.1 13 0 k, fun k j => S.1 (128 + k) 0 j, fun k j => S.2.1 (128 + k) 0 j)
theorem putM_par (S : awS) : putM S (parM S) = S := by
  obtain ⟨I, L, T⟩ := S
  unfold putM parM
  refine Prod.ext ?_ (Prod.ext ?_ rfl)
  · funext f i j
    dsimp only
    by_cases h : i = 0 ∧ f = 13
    · rw [if_pos h, h.1, h.2]
    · rw [if_neg h]
      by_cases h2 : i = 0 ∧ 128 ≤ f
      · rw [if_pos h2, h2.1, Nat.add_sub_cancel' h2.2]
      · rw [if_neg h2]
  · funext f i j
    dsimp only
    by_cases h2 : i = 0 ∧ 128 ≤ f
    · rw [if_pos h2, h2.1, Nat.add_sub_cancel' h2.2]
    · rw [if_neg h2]
theorem parM_put (S : awS) (M : aM) : parM (putM S M) = M := by
  obtain ⟨a, b, c⟩ := M
  unfold putM parM
  refine Prod.ext ?_ (Prod.ext ?_ ?_)
  · funext k
    dsimp only
    rw [if_pos ⟨rfl, rfl⟩]
  · funext k j
    dsimp only
    rw [if_neg (by omega), if_pos (by omega), Nat.add_sub_cancel_left]
  · funext k j
    dsimp only
    rw [if_pos (by omega), Nat.add_sub_cancel_left]
theorem putM_put (S : awS) (M M' : aM) : putM (putM S M) M' = putM S M' := by
  unfold putM
  refine Prod.ext ?_ (Prod.ext ?_ rfl)
  · funext f i j
    dsimp only
    grind
  · funext f i j
    dsimp only
    grind
theorem putM_s (S : awS) (M : aM) (k : Nat) : sI (putM S M) 13 0 k = mS M k := by
  unfold sI putM mS
  simp
theorem putM_a (S : awS) (M : aM) (k j : Nat) : sI (putM S M) (128 + k) 0 j = mA M k j := by
  unfold sI putM mA
  dsimp only
  grind
theorem putM_l (S : awS) (M : aM) (k j : Nat) : sL (putM S M) (128 + k) 0 j = mL M k j := by
  unfold sL putM mL
  dsimp only
  grind
theorem putM_o (S : awS) (M : aM) {f : Nat} (i j : Nat) (hf : f < 13 ∨ (13 < f ∧ f < 128)) : sI (putM S M) f i j = sI S f i j := by
  unfold sI putM
  dsimp only
  grind
theorem putM_ol (S : awS) (M : aM) {f : Nat} (i j : Nat) (hf : f < 128) : sL (putM S M) f i j = sL S f i j := by
  unfold sL putM
  dsimp only
  grind
theorem putM_r (S : awS) (M : aM) (f i k : Nat) : sR (putM S M) f i k = sR S f i k := rfl
theorem putM_c (S : awS) (M : aM) (f : Nat) : sC (putM S M) f = sC S f := rfl
theorem putM_n (S : awS) (M : aM) (f i : Nat) : sN (putM S M) f i = sN S f i := rfl
theorem putM_k (S : awS) (M : aM) (q : Nat) : sK (putM S M) q = sK S q := rfl
theorem putM_wS (S : awS) (M : aM) (k : Nat) (v : Int32) : wI (putM S M) 13 0 k v = putM S (pS M k v) := by
  unfold wI putM pS
  refine Prod.ext ?_ rfl
  funext f i j
  dsimp only
  unfold u3
  grind
theorem putM_wA (S : awS) (M : aM) (k j : Nat) (v : Int32) : wI (putM S M) (128 + k) 0 j v = putM S (pA M k j v) := by
  unfold wI putM pA
  refine Prod.ext ?_ rfl
  funext f i j'
  dsimp only
  unfold u3
  grind
theorem putM_wL (S : awS) (M : aM) (k j : Nat) (v : Int64) : wL (putM S M) (128 + k) 0 j v = putM S (pL M k j v) := by
  unfold wL putM pL
  refine Prod.ext rfl (Prod.ext ?_ rfl)
  funext f i j'
  dsimp only
  unfold u3
  grind
def mLenL : List Nat := [0, 0, 0, 16, 6416, 6416, 0, 16, 16, 16, 16, 16, 16, 16, 16, 16, 102656, 256, 256, 256, 256, 0, 40, 40, 40, 0, 20, 20, 20, 20, 0, 300, 300, 300, 300, 300, 300, 300, 300, 300, 300, 300, 300, 0, 0, 0, 0, 0, 0, 300, 300, 300, 0, 0, 40, 40, 40, 40, 0, 20, 20, 20, 20, 0, 200, 200, 200, 200, 8000, 200, 1600, 200, 200, 200, 200, 16, 8, 8, 0, 8, 8, 8, 480, 60]
def mLen (k : Nat) : Nat := mLenL.getD k 0
/-- the reference stands: its rows lie at its fields -/
def mOk (S : awS) : Prop := ∀ k, 0 < mLen k → sR S 13 0 k = some (nm (128 + k) 0) ∧ sN S (128 + k) 0 = mLen k
theorem mOk.put {S : awS} (h : mOk S) (M : aM) : mOk (putM S M) := h
section MRULES
variable {b : Bool} {E : awE} {Mt : awM} {pc : Nat} {lv lv' : List (Nat × Value)} {st : List Value} {S : awS} {M : aM} {kc ks : Nat} {Q : Option Value → awS → Nat → Nat → Prop}
theorem ax_mS {idx k : Nat} (hd : decode (awM_c Mt) pc = .ok (.getfield idx, 3)) (hw : awFld (awM_y Mt).cls idx 13 k) (ht : tyK (oTy 13 k) = 0) (kk : awX b E Mt (pc + 3) lv (.int (mS M k) :: st) (putM S M) kc ks Q) : awX b E Mt pc lv (.ref (nm 13 0) :: st) (putM S M) kc ks Q :=
  ax_getI hd hw rfl (by cases b <;> rfl) ht (by rw [putM_s]; exact kk)
theorem ax_mR {idx k : Nat} (hm : mOk S) (hd : decode (awM_c Mt) pc = .ok (.getfield idx, 3)) (hw : awFld (awM_y Mt).cls idx 13 k) (ht : tyK (oTy 13 k) = 2) (hl : 0 < mLen k) (kk : awX b E Mt (pc + 3) lv (.ref (nm (128 + k) 0) :: st) (putM S M) kc ks Q) : awX b E Mt pc lv (.ref (nm 13 0) :: st) (putM S M) kc ks Q :=
  ax_getR hd hw rfl (by cases b <;> rfl) ht (hm k hl).1 kk
theorem ax_mPS {idx k : Nat} {x : Int32} (hd : decode (awM_c Mt) pc = .ok (.putfield idx, 3)) (hw : awFld (awM_y Mt).cls idx 13 k) (ht : oTy 13 k = .int) (hfin : ((oCl 13).2.1 k).2.2.2 = false) (kk : awX b E Mt (pc + 3) lv st (putM S (pS M k x)) kc ks Q) : awX b E Mt pc lv (.int x :: .ref (nm 13 0) :: st) (putM S M) kc ks Q :=
  ax_putI hd hw rfl (by cases b <;> rfl) (by rw [ht]; rfl) (Or.inl hfin) (by rw [ht]; rfl) (by rw [ht]; rfl) (by rw [putM_wS]; exact kk)
theorem nb_m (b : Bool) (k : Nat) : nb b (128 + k) = true := by
  cases b with
  | false => rfl
  | true => simp [nb]; omega
theorem ax_mI {k : Nat} {x : Int32} (hm : mOk S) (hd : decode (awM_c Mt) pc = .ok (.iaload, 1)) (hf : fK (128 + k) = 20) (hl : 0 < mLen k) (hin : vp_in x (mLen k)) (kk : awX b E Mt (pc + 1) lv (.int (mA M k x.toNatClampNeg) :: st) (putM S M) kc ks Q) : awX b E Mt pc lv (.int x :: .ref (nm (128 + k) 0) :: st) (putM S M) kc ks Q :=
  ax_iald hd hf (nb_m b k) (by rw [putM_n, (hm k hl).2]; exact hin) (by rw [putM_a]; exact kk)
theorem ax_mZ {k : Nat} {x : Int32} (hm : mOk S) (hd : decode (awM_c Mt) pc = .ok (.baload, 1)) (hf : fK (128 + k) = 22) (hl : 0 < mLen k) (hin : vp_in x (mLen k)) (kk : awX b E Mt (pc + 1) lv (.int (mA M k x.toNatClampNeg) :: st) (putM S M) kc ks Q) : awX b E Mt pc lv (.int x :: .ref (nm (128 + k) 0) :: st) (putM S M) kc ks Q :=
  ax_zald hd hf (nb_m b k) (by rw [putM_n, (hm k hl).2]; exact hin) (by rw [putM_a]; exact kk)
theorem ax_mB {k : Nat} {x : Int32} (hm : mOk S) (hd : decode (awM_c Mt) pc = .ok (.baload, 1)) (hf : fK (128 + k) = 23) (hl : 0 < mLen k) (hin : vp_in x (mLen k)) (kk : awX b E Mt (pc + 1) lv (.int (mA M k x.toNatClampNeg) :: st) (putM S M) kc ks Q) : awX b E Mt pc lv (.int x :: .ref (nm (128 + k) 0) :: st) (putM S M) kc ks Q :=
  ax_bald hd hf (nb_m b k) (by rw [putM_n, (hm k hl).2]; exact hin) (by rw [putM_a]; exact kk)
theorem ax_mJ {k : Nat} {x : Int32} (hm : mOk S) (hd : decode (awM_c Mt) pc = .ok (.laload, 1)) (hf : fK (128 + k) = 21) (hl : 0 < mLen k) (hin : vp_in x (mLen k)) (kk : awX b E Mt (pc + 1) lv (.long (mL M k x.toNatClampNeg) :: st) (putM S M) kc ks Q) : awX b E Mt pc lv (.int x :: .ref (nm (128 + k) 0) :: st) (putM S M) kc ks Q :=
  ax_lald hd hf (nb_m b k) (by rw [putM_n, (hm k hl).2]; exact hin) (by rw [putM_l]; exact kk)
theorem ax_mPI {k : Nat} {x y : Int32} (hm : mOk S) (hd : decode (awM_c Mt) pc = .ok (.iastore, 1)) (hf : fK (128 + k) = 20) (hl : 0 < mLen k) (hin : vp_in x (mLen k)) (kk : awX b E Mt (pc + 1) lv st (putM S (pA M k x.toNatClampNeg y)) kc ks Q) : awX b E Mt pc lv (.int y :: .int x :: .ref (nm (128 + k) 0) :: st) (putM S M) kc ks Q :=
  ax_iast hd hf (nb_m b k) (by rw [putM_n, (hm k hl).2]; exact hin) (by rw [putM_wA]; exact kk)
theorem ax_mPZ {k : Nat} {x y : Int32} (hm : mOk S) (hd : decode (awM_c Mt) pc = .ok (.bastore, 1)) (hf : fK (128 + k) = 22) (hl : 0 < mLen k) (hin : vp_in x (mLen k)) (hn : y &&& 1 = y) (kk : awX b E Mt (pc + 1) lv st (putM S (pA M k x.toNatClampNeg y)) kc ks Q) : awX b E Mt pc lv (.int y :: .int x :: .ref (nm (128 + k) 0) :: st) (putM S M) kc ks Q :=
  ax_zast hd hf (nb_m b k) (by rw [putM_n, (hm k hl).2]; exact hin) hn (by rw [putM_wA]; exact kk)
theorem ax_mPB {k : Nat} {x y : Int32} (hm : mOk S) (hd : decode (awM_c Mt) pc = .ok (.bastore, 1)) (hf : fK (128 + k) = 23) (hl : 0 < mLen k) (hin : vp_in x (mLen k)) (hn : y.toInt8.toInt32 = y) (kk : awX b E Mt (pc + 1) lv st (putM S (pA M k x.toNatClampNeg y)) kc ks Q) : awX b E Mt pc lv (.int y :: .int x :: .ref (nm (128 + k) 0) :: st) (putM S M) kc ks Q :=
  ax_bast hd hf (nb_m b k) (by rw [putM_n, (hm k hl).2]; exact hin) hn (by rw [putM_wA]; exact kk)
theorem ax_mPJ {k : Nat} {x : Int32} {y : Int64} (hm : mOk S) (hd : decode (awM_c Mt) pc = .ok (.lastore, 1)) (hf : fK (128 + k) = 21) (hl : 0 < mLen k) (hin : vp_in x (mLen k)) (kk : awX b E Mt (pc + 1) lv st (putM S (pL M k x.toNatClampNeg y)) kc ks Q) : awX b E Mt pc lv (.long y :: .int x :: .ref (nm (128 + k) 0) :: st) (putM S M) kc ks Q :=
  ax_last hd hf (nb_m b k) (by rw [putM_n, (hm k hl).2]; exact hin) (by rw [putM_wL]; exact kk)
end MRULES
