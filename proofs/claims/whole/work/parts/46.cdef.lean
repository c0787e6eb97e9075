-- THE CLASS's STATE AND THE REFERENCE's: cR τ S M
section CNULL
variable {b : Bool} {E : awE} {M : awM} {pc : Nat} {lv lv' : List (Nat × Value)} {st : List Value} {S : awS} {kc ks : Nat} {Q : Option Value → awS → Nat → Nat → Prop}
theorem ax_ifnull_t {off : Int} {tgt : Nat} (hd : decode (awM_c M) pc = .ok (.ifnull off, 3)) (ht : (pc : Int) + off = (tgt : Int)) (k : awX b E M tgt lv st S kc ks Q) : awX b E M pc lv (.null :: st) S kc ks Q := ax_ifnull (r := none) hd ht (fun _ => k) (fun n h => by cases h)
theorem ax_ifnull_f {off : Int} {n : Nat} (hd : decode (awM_c M) pc = .ok (.ifnull off, 3)) {k0 : Nat} (hk : (pc : Int) + off = (k0 : Int)) (k : awX b E M (pc + 3) lv st S kc ks Q) : awX b E M pc lv (.ref n :: st) S kc ks Q := ax_ifnull (r := some n) hd hk (fun h => by cases h) (fun _ _ => k)
theorem ax_ifnonnull_t {off : Int} {tgt n : Nat} (hd : decode (awM_c M) pc = .ok (.ifnonnull off, 3)) (ht : (pc : Int) + off = (tgt : Int)) (k : awX b E M tgt lv st S kc ks Q) : awX b E M pc lv (.ref n :: st) S kc ks Q := ax_ifnonnull (r := some n) hd ht (fun _ _ => k) (fun h => by cases h)
theorem ax_ifnonnull_f {off : Int} (hd : decode (awM_c M) pc = .ok (.ifnonnull off, 3)) {k0 : Nat} (hk : (pc : Int) + off = (k0 : Int)) (k : awX b E M (pc + 3) lv st S kc ks Q) : awX b E M pc lv (.null :: st) S kc ks Q := ax_ifnonnull (r := none) hd hk (fun n h => by cases h) (fun _ => k)
theorem ax_alenN {f i n : Nat} (hd : decode (awM_c M) pc = .ok (.arraylength, 1)) (hf : 20 ≤ fK f ∧ fK f < 27) (hb : nb b f = true) (hN : sN S f i = n) (kk : awX b E M (pc + 1) lv (.int (nI n) :: st) S kc ks Q) : awX b E M pc lv (.ref (nm f i) :: st) S kc ks Q := ax_alen hd hf hb (by rw [hN]; exact kk)
theorem ax_ialdN {f i n N : Nat} (hd : decode (awM_c M) pc = .ok (.iaload, 1)) (hf : fK f = 20) (hb : nb b f = true) (hN : sN S f i = N) (hNb : N < 2 ^ 31) (hn : n < N) (kk : awX b E M (pc + 1) lv (.int (sI S f i n) :: st) S kc ks Q) : awX b E M pc lv (.int (nI n) :: .ref (nm f i) :: st) S kc ks Q := ax_iald hd hf hb (by rw [hN]; exact vp_in_nI hn hNb) (by rw [nI_clamp (by omega)]; exact kk)
theorem ax_zaldN {f i n N : Nat} (hd : decode (awM_c M) pc = .ok (.baload, 1)) (hf : fK f = 22) (hb : nb b f = true) (hN : sN S f i = N) (hNb : N < 2 ^ 31) (hn : n < N) (kk : awX b E M (pc + 1) lv (.int (sI S f i n) :: st) S kc ks Q) : awX b E M pc lv (.int (nI n) :: .ref (nm f i) :: st) S kc ks Q := ax_zald hd hf hb (by rw [hN]; exact vp_in_nI hn hNb) (by rw [nI_clamp (by omega)]; exact kk)
theorem ax_laldN {f i n N : Nat} (hd : decode (awM_c M) pc = .ok (.laload, 1)) (hf : fK f = 21) (hb : nb b f = true) (hN : sN S f i = N) (hNb : N < 2 ^ 31) (hn : n < N) (kk : awX b E M (pc + 1) lv (.long (sL S f i n) :: st) S kc ks Q) : awX b E M pc lv (.int (nI n) :: .ref (nm f i) :: st) S kc ks Q := ax_lald hd hf hb (by rw [hN]; exact vp_in_nI hn hNb) (by rw [nI_clamp (by omega)]; exact kk)
theorem ax_aaldN {f i n N : Nat} {r : Option Nat} (hd : decode (awM_c M) pc = .ok (.aaload, 1)) (hf : fK f = 24) (hb : nb b f = true) (hN : sN S f i = N) (hNb : N < 2 ^ 31) (hn : n < N) (hr : sR S f i n = r) (kk : awX b E M (pc + 1) lv (va_rf r :: st) S kc ks Q) : awX b E M pc lv (.int (nI n) :: .ref (nm f i) :: st) S kc ks Q := ax_aald hd hf hb (by rw [hN]; exact vp_in_nI hn hNb) (by rw [nI_clamp (by omega)]; exact hr) kk
theorem ax_daldN {f i n N : Nat} {r : Option Nat} (hd : decode (awM_c M) pc = .ok (.aaload, 1)) (hf : fK f = 26) (hb : nb b f = true) (hN : sN S f i = N) (hNb : N < 2 ^ 31) (hn : n < N) (hr : sR S f i n = r) (kk : awX b E M (pc + 1) lv (va_rf r :: st) S kc ks Q) : awX b E M pc lv (.int (nI n) :: .ref (nm f i) :: st) S kc ks Q := ax_dald hd hf hb (by rw [hN]; exact vp_in_nI hn hNb) (by rw [nI_clamp (by omega)]; exact hr) kk
theorem ax_iastN {f i n N : Nat} {y : Int32} (hd : decode (awM_c M) pc = .ok (.iastore, 1)) (hf : fK f = 20) (hb : nb b f = true) (hN : sN S f i = N) (hNb : N < 2 ^ 31) (hn : n < N) (kk : awX b E M (pc + 1) lv st (wI S f i n y) kc ks Q) : awX b E M pc lv (.int y :: .int (nI n) :: .ref (nm f i) :: st) S kc ks Q := ax_iast hd hf hb (by rw [hN]; exact vp_in_nI hn hNb) (by rw [nI_clamp (by omega)]; exact kk)
theorem ax_zastN {f i n N : Nat} {y : Int32} (hd : decode (awM_c M) pc = .ok (.bastore, 1)) (hf : fK f = 22) (hb : nb b f = true) (hN : sN S f i = N) (hNb : N < 2 ^ 31) (hn : n < N) (hy : y &&& 1 = y) (kk : awX b E M (pc + 1) lv st (wI S f i n y) kc ks Q) : awX b E M pc lv (.int y :: .int (nI n) :: .ref (nm f i) :: st) S kc ks Q := ax_zast hd hf hb (by rw [hN]; exact vp_in_nI hn hNb) hy (by rw [nI_clamp (by omega)]; exact kk)
theorem ax_lastN {f i n N : Nat} {y : Int64} (hd : decode (awM_c M) pc = .ok (.lastore, 1)) (hf : fK f = 21) (hb : nb b f = true) (hN : sN S f i = N) (hNb : N < 2 ^ 31) (hn : n < N) (kk : awX b E M (pc + 1) lv st (wL S f i n y) kc ks Q) : awX b E M pc lv (.long y :: .int (nI n) :: .ref (nm f i) :: st) S kc ks Q := ax_last hd hf hb (by rw [hN]; exact vp_in_nI hn hNb) (by rw [nI_clamp (by omega)]; exact kk)
end CNULL
-- shapes: they never change
abbrev srcOk (S : awS) (i : Nat) : Prop := sR S 9 i 2 = some (nm 16 i) ∧ sR S 9 i 3 = some (nm 17 i) ∧ sN S 16 i = 401 ∧ sN S 17 i = 401 ∧ sI S 9 i 0 = nI i
abbrev watOk (S : awS) (r s : Nat) : Prop := sR S 18 r s = some (nm 11 (16 * r + s)) ∧ sR S 11 (16 * r + s) 5 = some (nm 22 (16 * r + s)) ∧ sN S 22 (16 * r + s) = 11
abbrev rulOk (S : awS) (i : Nat) : Prop := sR S 6 i 9 = some (nm 18 i) ∧ sR S 6 i 10 = some (nm 19 i) ∧ sR S 6 i 11 = some (nm 20 i) ∧ sR S 6 i 12 = some (nm 21 i) ∧ sN S 18 i = 16 ∧ sN S 19 i = 3 ∧ sN S 20 i = 11 ∧ sN S 21 i = 20 ∧ sI S 6 i 0 = nI i ∧ ∀ s, s < 16 → watOk S i s
abbrev letOk (S : awS) (l : Nat) : Prop := sR S 4 l 3 = some (nm 23 l) ∧ sR S 4 l 10 = some (nm 24 l) ∧ sN S 23 l = 8 ∧ sN S 24 l = 40
abbrev brdOk (S : awS) (d : Nat) : Prop := sR S 2 d 3 = some (nm 25 d) ∧ sN S 25 d = 60
def cTow (S : awS) : Prop := (∀ q, q < 6 → sR S 12 0 q = some (nm (32 + q) 0)) ∧ sR S 12 0 7 = some (nm 5 0) ∧ sR S 12 0 8 = some (nm 26 0) ∧ sN S 26 0 = 8 ∧ sR S 5 0 1 = some (nm 39 0) ∧ sR S 5 0 2 = some (nm 40 0) ∧ sR S 5 0 3 = some (nm 27 0) ∧ sR S 5 0 4 = some (nm 28 0) ∧ sN S 27 0 = 8 ∧ sN S 28 0 = 8 ∧ ∀ q, q < 9 ∧ ¬ q = 6 → sC S (32 + q) = 1
def cLst (S : awS) (M : aM) : Prop := sK S 0 = (mN M 2, nm 9) ∧ sK S 1 = (mN M 6, nm 6) ∧ sK S 2 = (mN M 25, nm 8) ∧ sK S 3 = (mN M 30, nm 1) ∧ sK S 4 = (mN M 48, nm 3) ∧ sK S 5 = (mN M 63, nm 4) ∧ (sR S 12 0 6 = some (nm 30 0) ∧ sN S 30 0 = 8 ∧ ∀ j, j < 8 → sR S 30 0 j = some (nm 2 j)) ∧ sK S 7 = (mN M 53, nm 7) ∧ sK S 8 = (mN M 58, nm 10)
/-- how many there are of each family -/
def cCl : List (Nat × Nat × Nat) := [(9, 1, 2), (16, 1, 2), (17, 1, 2), (6, 1, 6), (18, 1, 6), (19, 1, 6), (20, 1, 6), (21, 1, 6), (11, 16, 6), (22, 16, 6), (8, 1, 25), (1, 1, 30), (3, 1, 48), (4, 1, 63), (23, 1, 63), (24, 1, 63)]
/-- n of the c that were made stand in the list; all, while there is room -/
def cShp (n c cap : Nat) : Prop := n ≤ c ∧ (n < cap → c = n)
def cCnt (S : awS) (M : aM) : Prop := (∀ q ∈ cCl, sC S q.1 = q.2.1 * mN M q.2.2) ∧ cShp (mN M 53) (sC S 7) 40 ∧ cShp (mN M 58) (sC S 10) 20
def cSrc (S : awS) (M : aM) : Prop := ∀ i, i < mN M 2 → srcOk S i
def cRul (S : awS) (M : aM) : Prop := ∀ i, i < mN M 6 → rulOk S i
def cAla (S : awS) (M : aM) : Prop := ∀ i, i < mN M 30 → sI S 1 i 0 = nI i
def cLet (S : awS) (M : aM) : Prop := ∀ l, l < mN M 63 → letOk S l
def cBrd (S : awS) : Prop := ∀ d, d < 8 → brdOk S d
-- the ints that stand in both: (family, field, the reference's row, whose number bounds)
def cLk : List (Nat × Nat × Nat × Nat) := [(1, 4, 33, 30), (1, 5, 34, 30), (1, 9, 38, 30), (1, 11, 40, 30), (1, 12, 41, 30), (3, 2, 51, 48), (3, 3, 50, 48), (4, 1, 66, 63), (4, 2, 64, 63), (4, 4, 69, 63), (4, 5, 72, 63), (4, 6, 67, 63), (4, 7, 73, 63), (4, 8, 74, 63), (4, 9, 71, 63), (6, 1, 7, 6), (6, 3, 10, 6), (6, 4, 11, 6), (6, 5, 12, 6), (6, 6, 13, 6), (6, 7, 8, 6), (6, 8, 14, 6), (7, 0, 54, 53), (7, 1, 57, 53), (7, 2, 55, 53), (7, 3, 56, 53), (8, 0, 26, 25), (8, 1, 27, 25), (8, 2, 28, 25), (8, 3, 29, 25), (9, 1, 3, 2), (10, 0, 59, 58), (10, 1, 60, 58), (10, 2, 61, 58), (10, 3, 62, 58), (11, 1, 17, 100), (11, 2, 18, 100), (11, 3, 19, 100), (2, 0, 79, 101)]
def cB (M : aM) (q : Nat) : Nat := if q = 100 then 16 * mN M 6 else if q = 101 then 8 else mN M q
def cInt (S : awS) (M : aM) : Prop := ∀ q ∈ cLk, ∀ i, i < cB M q.2.2.2 → sI S q.1 i q.2.1 = mA M q.2.2.1 i
def cLa (S : awS) (M : aM) : Prop := ∀ r, r < mN M 6 → sL S 6 r 2 = mL M 9 r
def cSca (S : awS) (M : aM) : Prop := sI S 12 0 9 = mS M 21 ∧ sI S 12 0 10 = mS M 43 ∧ sI S 12 0 11 = mS M 44 ∧ sI S 12 0 12 = mS M 45 ∧ sI S 12 0 13 = mS M 46 ∧ sI S 12 0 14 = mS M 47 ∧ sI S 12 0 15 = mS M 1 ∧ sI S 5 0 0 = mS M 52
def cVal (S : awS) (M : aM) : Prop := ∀ i, i < mN M 2 → ∀ t, t < 401 → sI S 17 i t = mA M 5 (401 * i + t) ∧ sL S 16 i t = mL M 4 (401 * i + t)
def cRef (S : awS) (M : aM) : Prop := (∀ i, i < mN M 30 → sR S 1 i 1 = some (nm 6 (mE M 31 i)) ∧ sR S 1 i 2 = some (nm 9 (mE M 32 i)) ∧ sR S 1 i 3 = some (nm 3 (mE M 42 i))) ∧
  (∀ g, g < mN M 48 → sR S 3 g 0 = some (nm 6 (mE M 31 (mE M 49 g))) ∧ sR S 3 g 1 = some (nm 9 (mE M 32 (mE M 49 g)))) ∧
  (∀ l, l < mN M 63 → sR S 4 l 0 = some (nm 3 (mE M 65 l)))
def cWat (S : awS) (M : aM) : Prop := ∀ w, w < 16 * mN M 6 → sR S 11 w 4 = if mA M 20 w < 0 then none else some (nm 1 (mE M 20 w))
def cFlg (S : awS) (M : aM) : Prop := ∀ i, i < mN M 30 → (mA M 34 i = 0 → sI S 1 i 6 = mA M 35 i ∧ sI S 1 i 7 = mA M 36 i ∧ sI S 1 i 8 = mA M 37 i ∧ (¬ mA M 39 i = 0 ↔ (0 < mA M 37 i ∧ sI S 1 i 10 = 0))) ∧ (¬ mA M 34 i = 0 → sI S 1 i 6 = 0 ∧ sI S 1 i 7 = 0 ∧ sI S 1 i 8 = 0)
def cTru (τ : Nat → Nat → Nat) (S : awS) (M : aM) : Prop := ∀ r s, r < mN M 6 → s < 16 → sI S 11 (16 * r + s) 0 = mTru M r s (τ r s)
def hBit (x : Int32) (h : Nat) : Prop := x.toBitVec.getLsbD h = true
def mHoldE (M : aM) (r h like : Nat) : Prop := ∃ k, k < mN M 21 ∧ mA M 22 k = nI r ∧ mA M 23 k = nI h ∧ mA M 24 k = nI like
def cHld (S : awS) (M : aM) : Prop := ∀ r like, r < mN M 6 → like < 3 → ∀ h, h < 32 → (hBit (sI S 19 r like) h ↔ mHoldE M r h like)
def leA (M : aM) (r p s t : Nat) : Int32 × Int32 × Bool × Nat := mIter (mLeF M r (nI p) s) (t + 1 - mE M 15 r) ((0 : Int32), (0 : Int32), false, 0)
def leSum (τ : Nat → Nat → Nat) (M : aM) (r p : Nat) : Nat → Nat
  | 0 => 0
  | n + 1 => leSum τ M r p n + (leA M r p n (τ r n)).2.2.2
def cLea (τ : Nat → Nat → Nat) (S : awS) (M : aM) : Prop := ∀ r p, r < mN M 6 → 1 ≤ p → p ≤ 10 → sI S 20 r p = nI (leSum τ M r p 16) ∧ ∀ s, s < 16 → (leA M r p s (τ r s)).1 = mA M 18 (16 * r + s) ∧ (leA M r p s (τ r s)).2.1 = mA M 19 (16 * r + s) ∧ sI S 22 (16 * r + s) p = if (leA M r p s (τ r s)).2.2.1 then 1 else 0
def cRow (S : awS) (M : aM) : Prop := ∀ l, l < mN M 63 → (∀ j, j < mE M 69 l → sI S 23 l j = mA M 70 (8 * l + j)) ∧ ∀ j, j < mE M 67 l → sI S 24 l j = mA M 68 (40 * l + j)
def cBdr (S : awS) (M : aM) : Prop := ∀ d, d < 8 → (0 ≤ mA M 79 d ∧ mA M 79 d ≤ 4) ∧ (sR S 2 d 1 = if mA M 79 d = 1 then some (nm 1 (mE M 81 d)) else none) ∧ (mA M 79 d = 1 → mE M 81 d < mN M 30) ∧ (3 ≤ mA M 79 d → sI S 2 d 2 = mA M 80 d ∧ ∀ j, j < mE M 80 d → sL S 25 d j = mL M 82 (60 * d + j))
/-- of the reference alone -/
def cInv (τ : Nat → Nat → Nat) (M : aM) : Prop :=
  (∀ r s t, ((mN M 6 ≤ r ∨ mN M 2 ≤ s) ∨ (r < mN M 6 ∧ s < mN M 2 ∧ τ r s < t)) → s < 16 → t < 401 → mA M 16 (401 * (16 * r + s) + t) = 0) ∧
  (∀ r s, (mN M 6 ≤ r ∨ mN M 2 ≤ s ∨ (0 ≤ mA M 14 r ∧ ¬ mA M 14 r = mA M 3 s)) → s < 16 → r < 16 → (∀ t, t < 401 → mA M 16 (401 * (16 * r + s) + t) = 0) ∧ mA M 18 (16 * r + s) = 0 ∧ mA M 19 (16 * r + s) = 0 ∧ mA M 17 (16 * r + s) = -1 ∧ mA M 20 (16 * r + s) < 0) ∧
  (∀ i, i < mN M 30 → mE M 31 i < mN M 6 ∧ mE M 32 i < mN M 2 ∧ mE M 42 i < mN M 48 ∧ 0 < mA M 33 i ∧ (mA M 34 i = 0 → mE M 20 (16 * mE M 31 i + mE M 32 i) = i ∧ 0 ≤ mA M 20 (16 * mE M 31 i + mE M 32 i)) ∧ 0 ≤ mA M 34 i) ∧
  (∀ w, w < 256 → 0 ≤ mA M 20 w → mE M 20 w < mN M 30 ∧ 16 * mE M 31 (mE M 20 w) + mE M 32 (mE M 20 w) = w ∧ mA M 34 (mE M 20 w) = 0) ∧
  (∀ g, g < mN M 48 → mE M 49 g < mN M 30 ∧ mA M 50 g ≤ nI (mN M 1 + 1)) ∧
  (∀ l, l < mN M 63 → mE M 65 l < mN M 48 ∧ (mA M 73 l < 0 ↔ mA M 74 l = 0) ∧ 0 ≤ mA M 74 l) ∧
  (∀ r, r < mN M 6 → 1 ≤ mA M 11 r ∧ 1 ≤ mA M 12 r ∧ mE M 15 r ≤ mN M 1 + 1 ∧ -1 ≤ mA M 14 r ∧ (mA M 7 r = 6 → nN (mL M 9 r).toInt32 < r ∧ mE M 10 r < r)) ∧
  (∀ k, k < mN M 21 → mE M 22 k < mN M 6 ∧ mE M 23 k < mN M 6 ∧ ∃ q, q < 3 ∧ mA M 24 k = nI q) ∧ (∀ k, k < mN M 25 → mA M 27 k < mS M 6 ∧ -1 ≤ mA M 26 k ∧ -1 ≤ mA M 27 k) ∧
  (∀ k, k < mN M 53 → mE M 54 k < mN M 52) ∧ (∀ k, k < mN M 58 → mE M 59 k < mN M 52 ∧ mE M 60 k < mN M 52) ∧
  (∀ i t, mN M 2 ≤ i → i < 16 → t < 401 → mA M 5 (401 * i + t) = 0 ∧ mL M 4 (401 * i + t) = 0)
def cR (τ : Nat → Nat → Nat) (S : awS) (M : aM) : Prop := mI M ∧ cTow S ∧ cLst S M ∧ cCnt S M ∧ cSrc S M ∧ cRul S M ∧ cAla S M ∧ cLet S M ∧ cBrd S ∧ cInt S M ∧ cLa S M ∧ cSca S M ∧ cVal S M ∧ cRef S M ∧ cWat S M ∧ cFlg S M ∧ cTru τ S M ∧ cHld S M ∧ cLea τ S M ∧ cRow S M ∧ cBdr S M ∧ cInv τ M
section CPROJ
variable {τ : Nat → Nat → Nat} {S : awS} {M : aM}
theorem cR.mI (h : cR τ S M) : mI M := h.1
theorem cR.tow (h : cR τ S M) : cTow S := h.2.1
theorem cR.lst (h : cR τ S M) : cLst S M := h.2.2.1
theorem cR.cnt (h : cR τ S M) : cCnt S M := h.2.2.2.1
theorem cR.src (h : cR τ S M) : cSrc S M := h.2.2.2.2.1
theorem cR.rul (h : cR τ S M) : cRul S M := h.2.2.2.2.2.1
theorem cR.ala (h : cR τ S M) : cAla S M := h.2.2.2.2.2.2.1
theorem cR.ltr (h : cR τ S M) : cLet S M := h.2.2.2.2.2.2.2.1
theorem cR.brd (h : cR τ S M) : cBrd S := h.2.2.2.2.2.2.2.2.1
theorem cR.int (h : cR τ S M) {f k m q : Nat} (hq : (f, k, m, q) ∈ cLk) {i : Nat} (hi : i < cB M q) : sI S f i k = mA M m i := h.2.2.2.2.2.2.2.2.2.1 _ hq i hi
theorem cR.la (h : cR τ S M) : cLa S M := h.2.2.2.2.2.2.2.2.2.2.1
theorem cR.sca (h : cR τ S M) : cSca S M := h.2.2.2.2.2.2.2.2.2.2.2.1
theorem cR.val (h : cR τ S M) : cVal S M := h.2.2.2.2.2.2.2.2.2.2.2.2.1
theorem cR.ref (h : cR τ S M) : cRef S M := h.2.2.2.2.2.2.2.2.2.2.2.2.2.1
theorem cR.wat (h : cR τ S M) : cWat S M := h.2.2.2.2.2.2.2.2.2.2.2.2.2.2.1
theorem cR.flg (h : cR τ S M) : cFlg S M := h.2.2.2.2.2.2.2.2.2.2.2.2.2.2.2.1
theorem cR.tru (h : cR τ S M) : cTru τ S M := h.2.2.2.2.2.2.2.2.2.2.2.2.2.2.2.2.1
theorem cR.hld (h : cR τ S M) : cHld S M := h.2.2.2.2.2.2.2.2.2.2.2.2.2.2.2.2.2.1
theorem cR.lea (h : cR τ S M) : cLea τ S M := h.2.2.2.2.2.2.2.2.2.2.2.2.2.2.2.2.2.2.1
theorem cR.row (h : cR τ S M) : cRow S M := h.2.2.2.2.2.2.2.2.2.2.2.2.2.2.2.2.2.2.2.1
theorem cR.bdr (h : cR τ S M) : cBdr S M := h.2.2.2.2.2.2.2.2.2.2.2.2.2.2.2.2.2.2.2.2.1
theorem cR.inv (h : cR τ S M) : cInv τ M := h.2.2.2.2.2.2.2.2.2.2.2.2.2.2.2.2.2.2.2.2.2

theorem cR.lq (h : cR τ S M) {q : Nat} (hq : q < 9 ∧ ¬ q = 6) : sC S (32 + q) = 1 := h.tow.2.2.2.2.2.2.2.2.2.2 q hq
theorem cR.nS (h : cR τ S M) : mN M 2 ≤ 16 := mS_b h.mI (by decide)
theorem cR.nR (h : cR τ S M) : mN M 6 ≤ 16 := mS_b h.mI (by decide)
theorem cR.nA (h : cR τ S M) : mN M 30 ≤ 300 := mS_b h.mI (by decide)
theorem cR.nG (h : cR τ S M) : mN M 48 ≤ 300 := mS_b h.mI (by decide)
theorem cR.nL (h : cR τ S M) : mN M 63 ≤ 200 := mS_b h.mI (by decide)
theorem cR.nC (h : cR τ S M) : mN M 1 ≤ 400 := mS_b h.mI (by decide)
theorem cR.nH (h : cR τ S M) : mN M 52 ≤ 8 := mS_b h.mI (by decide)
theorem cR.eC (h : cR τ S M) : sI S 12 0 15 = nI (mN M 1) := h.sca.2.2.2.2.2.2.1.trans (mS_nI h.mI (b := 400) (by decide))
theorem cR.eH (h : cR τ S M) : sI S 5 0 0 = nI (mN M 52) := h.sca.2.2.2.2.2.2.2.trans (mS_nI h.mI (b := 8) (by decide))
end CPROJ
