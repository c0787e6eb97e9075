/-- what lies in every set that holds r and is closed under E -/
def rch (E : Nat → Nat → Prop) (r b : Nat) : Prop := ∀ P : Nat → Prop, P r → (∀ a b, P a → E a b → P b) → P b
theorem rch_rev {E : Nat → Nat → Prop} {r b : Nat} (h : rch E r b) : rch (fun a b => E b a) b r := fun P hb hP => h (fun x => P x → P r) id (fun a b h1 h2 h3 => h1 (hP b a h3 h2)) hb
theorem rch_cg {E E' : Nat → Nat → Prop} {r b : Nat} (hE : ∀ a b, E a b ↔ E' a b) (h : rch E r b) : rch E' r b := fun P hr hP => h P hr (fun a b ha hab => hP a b ha ((hE a b).mp hab))
theorem reach_n {n r : Nat} {E : Nat → Nat → Prop} {X : Nat → Nat → Prop} (hr : r < n) (hE : ∀ a b, E a b → b < n) (h0 : ∀ a, X 0 a ↔ a = r) (h1 : ∀ k a, X k a → X (k + 1) a) (h2 : ∀ k a b, X k a → E a b → X (k + 1) b) (h3 : ∀ k (P : Nat → Prop), (∀ a b, P a → E a b → P b) → (∀ a, X k a → P a) → ∀ a, X (k + 1) a → P a) (b : Nat) : X n b ↔ rch E r b := by
  have c : ∀ k, (∀ a b, X k a → E a b → X k b) ∨ k + 1 ≤ mCntP (X k) n := by
    intro k
    induction k with
    | zero =>
      refine Or.inr ?_
      have q := mCntP_lt (p := fun _ => False) (q := X 0) (y := r) (n := n) (fun _ _ z => z.elim) hr ((h0 r).mpr rfl) id
      omega
    | succ k ih =>
      rcases ih with c | c
      · exact Or.inl fun a b ha hab => h2 k a b (h3 k (X k) c (fun _ z => z) a ha) hab
      · by_cases z : ∀ a b, X k a → E a b → X k b
        · exact Or.inl fun a b ha hab => h2 k a b (h3 k (X k) z (fun _ z => z) a ha) hab
        · refine Or.inr ?_
          obtain ⟨a, b, ha, hab, hb⟩ : ∃ a b, X k a ∧ E a b ∧ ¬ X k b := Classical.byContradiction fun w => z fun a b ha hab => Classical.byContradiction fun hb => w ⟨a, b, ha, hab, hb⟩
          have q := mCntP_lt (p := X k) (q := X (k + 1)) (y := b) (n := n) (fun x _ => h1 k x) (hE a b hab) (h2 k a b ha hab) hb
          omega
  have cl : ∀ a b, X n a → E a b → X n b := (c n).resolve_right (fun z => by
    have := mCntP_n (p := X n) (n := n)
    omega)
  constructor
  · intro hb P hr hP
    have s : ∀ k a, X k a → P a := by
      intro k
      induction k with
      | zero => intro a ha; rw [(h0 a).mp ha]; exact hr
      | succ k ih => exact h3 k P hP ih
    exact s n b hb
  · intro h
    refine h (X n) ?_ cl
    have s : ∀ k, X k r := by
      intro k
      induction k with
      | zero => exact (h0 r).mpr rfl
      | succ k ih => exact h1 k r ih
    exact s n
-- the rounds, program
theorem rcN_le {S : awS} {x : Int32} {a : Nat} (h : hBit x a) : ∀ i, hBit (rcN S x i) a
  | 0 => h
  | i + 1 => by
    show hBit (iC (hBit (rcN S x i) i) (rcN S x i ||| hAll S i 3) (rcN S x i)) a
    by_cases c : hBit (rcN S x i) i
    · rw [iC_t c, hBit_or]; exact Or.inl (rcN_le h i)
    · rw [iC_f c]; exact rcN_le h i
theorem rcN_st {S : awS} {x : Int32} {a b : Nat} (h : hBit x a) (hb : hBit (hAll S a 3) b) : ∀ i, a < i → hBit (rcN S x i) b
  | 0, z => absurd z (Nat.not_lt_zero a)
  | i + 1, z => by
    show hBit (iC (hBit (rcN S x i) i) (rcN S x i ||| hAll S i 3) (rcN S x i)) b
    by_cases e : a = i
    · subst e
      rw [iC_t (rcN_le h a), hBit_or]; exact Or.inr hb
    · have q := rcN_st h hb i (by omega)
      by_cases c : hBit (rcN S x i) i
      · rw [iC_t c, hBit_or]; exact Or.inl q
      · rw [iC_f c]; exact q
theorem rcN_so {S : awS} {x : Int32} {P : Nat → Prop} {n : Nat} (hP : ∀ a b, P a → (a < n ∧ hBit (hAll S a 3) b) → P b) (hx : ∀ a, hBit x a → P a) : ∀ i, i ≤ n → ∀ a, hBit (rcN S x i) a → P a
  | 0, _, a, h => hx a h
  | i + 1, hi, a, h => by
    have h : hBit (iC (hBit (rcN S x i) i) (rcN S x i ||| hAll S i 3) (rcN S x i)) a := h
    have ih := rcN_so hP hx i (by omega)
    by_cases c : hBit (rcN S x i) i
    · rw [iC_t c, hBit_or] at h
      exact h.elim (ih a) (fun z => hP i a (ih i c) ⟨by omega, z⟩)
    · rw [iC_f c] at h; exact ih a h
theorem rcO_rch {S : awS} {n r : Nat} (hr : r < n) (hn : n ≤ 16) (hE : ∀ a b, a < n → hBit (hAll S a 3) b → b < n) (b : Nat) : hBit (rcO S n ((1 : Int32) <<< (nI r &&& 31)) n) b ↔ rch (fun a b => a < n ∧ hBit (hAll S a 3) b) r b := by
  have hb : ∀ k a, hBit (rcO S n ((1 : Int32) <<< (nI r &&& 31)) k) a → a < n := by
    intro k
    induction k with
    | zero => intro a h; rw [(hBit_one (by omega)).mp h]; exact hr
    | succ k ih => exact rcN_so (n := n) (P := fun a => a < n) (fun a b ha z => hE a b ha z.2) ih n (Nat.le_refl n)
  exact reach_n (n := n) (r := r) (X := fun k a => hBit (rcO S n ((1 : Int32) <<< (nI r &&& 31)) k) a) hr (fun a b z => hE a b z.1 z.2) (fun a => hBit_one (by omega)) (fun k a h => rcN_le h n) (fun k a b h z => rcN_st h z.2 n z.1) (fun k P hP h => rcN_so hP h n (Nat.le_refl n)) b
-- the rounds, reference
def mHoldA (M : aM) (a b : Nat) : Prop := ∃ k, k < mN M 21 ∧ mE M 22 k = a ∧ mE M 23 k = b
theorem reachK_o (M : aM) (k c j : Nat) (hc : ¬ c = 75) : mA (mReachK M k) c j = mA M c j := by
  unfold mReachK
  rw [mA_pA, if_neg (fun z => hc z.1)]
theorem reachN_o (M : aM) (c j : Nat) (hc : ¬ c = 75) : ∀ n, mA (mIter (fun k M => mReachK M k) n M) c j = mA M c j
  | 0 => rfl
  | n + 1 => (reachK_o _ n c j hc).trans (reachN_o M c j hc n)
theorem reachK_75 (M : aM) (k a : Nat) : ¬ mA (mReachK M k) 75 a = 0 ↔ (¬ mA M 75 a = 0 ∨ (a = mE M 22 k ∧ ¬ mA M 75 (mE M 23 k) = 0)) := by
  unfold mReachK
  rw [mA_pA]
  by_cases e : a = mE M 22 k
  · rw [if_pos ⟨rfl, e⟩, e]
    by_cases c : ¬ mA M 75 (mE M 22 k) = 0 ∨ ¬ mA M 75 (mE M 23 k) = 0
    · rw [if_pos c]
      exact ⟨fun _ => c.elim Or.inl (fun z => Or.inr ⟨rfl, z⟩), fun _ => by decide⟩
    · rw [if_neg c]
      exact ⟨fun z => absurd rfl z, fun z => absurd (z.elim Or.inl (fun w => Or.inr w.2)) c⟩
  · rw [if_neg (fun z => e z.2)]
    exact ⟨Or.inl, fun z => z.elim id (fun w => absurd w.1 e)⟩
theorem reachN_le {M : aM} {a : Nat} (h : ¬ mA M 75 a = 0) : ∀ n, ¬ mA (mIter (fun k M => mReachK M k) n M) 75 a = 0
  | 0 => h
  | n + 1 => (reachK_75 (mIter (fun k M => mReachK M k) n M) n a).mpr (Or.inl (reachN_le h n))
theorem reachN_st {M : aM} {k : Nat} (h : ¬ mA M 75 (mE M 23 k) = 0) : ∀ n, k < n → ¬ mA (mIter (fun k M => mReachK M k) n M) 75 (mE M 22 k) = 0
  | 0, z => absurd z (Nat.not_lt_zero k)
  | n + 1, z => by
    refine (reachK_75 (mIter (fun k M => mReachK M k) n M) n _).mpr ?_
    by_cases e : k = n
    · subst e
      refine Or.inr ⟨?_, ?_⟩
      · unfold mE; rw [reachN_o M 22 k (by decide)]
      · have q := reachN_le h k
        unfold mE at q ⊢
        rw [reachN_o M 23 k (by decide)]
        exact q
    · exact Or.inl (reachN_st h n (by omega))
theorem reachN_so {M : aM} {P : Nat → Prop} {n : Nat} (hP : ∀ k, k < n → P (mE M 23 k) → P (mE M 22 k)) (hx : ∀ a, ¬ mA M 75 a = 0 → P a) : ∀ i, i ≤ n → ∀ a, ¬ mA (mIter (fun k M => mReachK M k) i M) 75 a = 0 → P a
  | 0, _, a, h => hx a h
  | i + 1, hi, a, h => by
    have ih := reachN_so hP hx i (by omega)
    rcases (reachK_75 (mIter (fun k M => mReachK M k) i M) i a).mp h with z | ⟨z1, z2⟩
    · exact ih a z
    · unfold mE at z1 z2
      rw [reachN_o M 22 i (by decide)] at z1
      rw [reachN_o M 23 i (by decide)] at z2
      rw [z1]
      exact hP i (by omega) (ih _ z2)

theorem reach0_75 (M : aM) (fr a : Nat) : ∀ n, mA (mIter (fun r M => pA M 75 r (if r = fr then 1 else 0)) n M) 75 a = if a < n then (if a = fr then 1 else 0) else mA M 75 a
  | 0 => by rw [if_neg (Nat.not_lt_zero a)]; rfl
  | n + 1 => by
    show mA (pA (mIter (fun r M => pA M 75 r (if r = fr then 1 else 0)) n M) 75 n (if n = fr then 1 else 0)) 75 a = _
    rw [mA_pA, reach0_75 M fr a n]
    by_cases e : a = n
    · subst e
      rw [if_pos ⟨rfl, rfl⟩, if_pos (Nat.lt_succ_self a)]
    · rw [if_neg (fun z => e z.2)]
      by_cases c : a < n
      · rw [if_pos c, if_pos (show a < n + 1 by omega)]
      · rw [if_neg c, if_neg (show ¬ a < n + 1 by omega)]
theorem reach0_o (M : aM) (fr c j : Nat) (hc : ¬ c = 75) : ∀ n, mA (mIter (fun r M => pA M 75 r (if r = fr then 1 else 0)) n M) c j = mA M c j
  | 0 => rfl
  | n + 1 => by
    show mA (pA (mIter (fun r M => pA M 75 r (if r = fr then 1 else 0)) n M) 75 n (if n = fr then 1 else 0)) c j = _
    rw [mA_pA, if_neg (fun z => hc z.1)]
    exact reach0_o M fr c j hc n
theorem reachO_o (M : aM) (c j : Nat) (hc : ¬ c = 75) : ∀ n, mA (mIter (fun _ M => mIter (fun k M => mReachK M k) (mN M 21) M) n M) c j = mA M c j
  | 0 => rfl
  | n + 1 => (reachN_o _ c j hc _).trans (reachO_o M c j hc n)
theorem holdsAll_o (M : aM) (fr c j : Nat) (hc : ¬ c = 75) : mA (mHoldsAll M fr) c j = mA M c j := (reachO_o _ c j hc 16).trans (reach0_o M fr c j hc 16)
theorem holdsAll_l (M : aM) (fr c j : Nat) : mL (mHoldsAll M fr) c j = mL M c j := by
  refine mIter_inv (fun N => mL N c j = mL M c j) (mIter_inv (fun N => mL N c j = mL M c j) rfl (fun _ a _ q => q)) (fun _ a _ q => mIter_inv (fun N => mL N c j = mL M c j) q (fun _ b _ q2 => q2))
set_option maxHeartbeats 400000 in
theorem mHoldsAll_rch {M : aM} (hI : mI M) {r : Nat} (hr : r < 16) (h : Nat) (hh : h < 16) (hrg : ∀ k, k < mN M 21 → mE M 22 k < 16 ∧ mE M 23 k < 16) : ¬ mA (mHoldsAll M r) 75 h = 0 ↔ rch (fun a b => mHoldA M b a) r h := by
  have eS : ∀ k, mN (mIter (fun _ M => mIter (fun k M => mReachK M k) (mN M 21) M) k (mReach0 M r)) 21 = mN M 21 := fun k => by
    exact congrArg Int32.toNatClampNeg (((mReachO_inv (mReach0_inv hI r 16).1 k).2 _).trans ((mReach0_inv hI r 16).2 _))
  have eA : ∀ k c j, ¬ c = 75 → mE (mIter (fun _ M => mIter (fun k M => mReachK M k) (mN M 21) M) k (mReach0 M r)) c j = mE M c j := fun k c j hc => by
    unfold mE
    rw [reachO_o _ c j hc k]
    exact congrArg Int32.toNatClampNeg (reach0_o M r c j hc 16)
  have q := reach_n (n := 16) (r := r) (E := fun a b => mHoldA M b a) (X := fun k a => a < 16 ∧ ¬ mA (mIter (fun _ M => mIter (fun k M => mReachK M k) (mN M 21) M) k (mReach0 M r)) 75 a = 0) hr
    (fun a b ⟨k, k1, k2, _⟩ => k2 ▸ (hrg k k1).1)
    (fun a => by
      show a < 16 ∧ ¬ mA (mIter (fun r' M => pA M 75 r' (if r' = r then 1 else 0)) 16 M) 75 a = 0 ↔ a = r
      rw [reach0_75]
      constructor
      · rintro ⟨z1, z2⟩
        rw [if_pos z1] at z2
        exact Classical.byContradiction fun e => z2 (if_neg e)
      · intro e
        subst e
        rw [if_pos hr, if_pos rfl]
        exact ⟨hr, by decide⟩)
    (fun k a z => ⟨z.1, reachN_le z.2 _⟩)
    (fun k a b z ⟨i, i1, i2, i3⟩ => by
      refine ⟨i2 ▸ (hrg i i1).1, ?_⟩
      have w := reachN_st (M := mIter (fun _ M => mIter (fun k M => mReachK M k) (mN M 21) M) k (mReach0 M r)) (k := i) (by rw [eA k 23 i (by decide), i3]; exact z.2) (mN (mIter (fun _ M => mIter (fun k M => mReachK M k) (mN M 21) M) k (mReach0 M r)) 21) (by rw [eS]; exact i1)
      rw [eA k 22 i (by decide), i2] at w
      exact w)
    (fun k P hP hX a z => by
      refine reachN_so (M := mIter (fun _ M => mIter (fun k M => mReachK M k) (mN M 21) M) k (mReach0 M r)) (P := fun a => a < 16 → P a) (n := mN M 21) (fun i hi w hb => ?_) (fun b w hb => hX b ⟨hb, w⟩) (mN (mIter (fun _ M => mIter (fun k M => mReachK M k) (mN M 21) M) k (mReach0 M r)) 21) (by rw [eS]; exact Nat.le_refl _) a z.2 z.1
      rw [eA k 22 i (by decide)]
      rw [eA k 23 i (by decide)] at w
      exact hP _ _ (w (hrg i hi).2) ⟨i, hi, rfl, rfl⟩)
    h
  exact ⟨fun z => q.mp ⟨hh, z⟩, fun z => (q.mpr z).2⟩
theorem hBit_32 {x : Int32} {h : Nat} (z : hBit x h) : h < 32 := BitVec.lt_of_getLsbD z
theorem cR.hE_ {τ : Nat → Nat → Nat} {S : awS} {M : aM} (R : cR τ S M) (a b : Nat) : (a < mN M 6 ∧ hBit (hAll S a 3) b) ↔ mHoldA M a b := by
  constructor
  · rintro ⟨ha, hb⟩
    obtain ⟨q, q1, q2⟩ := (hBit_all S a b 3).mp hb
    obtain ⟨k, k1, k2, k3, _⟩ := (R.hld a q ha q1 b (hBit_32 q2)).mp q2
    have e16 := R.nR
    have h32 := hBit_32 q2
    refine ⟨k, k1, ?_, ?_⟩
    · unfold mE; rw [k2]; exact nI_cl (by omega)
    · unfold mE; rw [k3]; exact nI_cl (by omega)
  · rintro ⟨k, k1, k2, k3⟩
    have e40 : mN M 21 ≤ 40 := mS_b R.mI (by decide)
    have e16 := R.nR
    obtain ⟨i1, i2, q, q1, q2⟩ := R.inv.2.2.2.2.2.2.2.1 k k1
    have a1 := (R.mI.A (k := 22) (n := 40) (b := 16) (by decide) (Nat.lt_of_lt_of_le k1 e40)).1
    have a2 := (R.mI.A (k := 23) (n := 40) (b := 16) (by decide) (Nat.lt_of_lt_of_le k1 e40)).1
    rw [k2] at a1 i1
    rw [k3] at a2 i2
    exact ⟨i1, (hBit_all S a b 3).mpr ⟨q, q1, (R.hld a q i1 q1 b (by omega)).mpr ⟨k, k1, a1, a2, q2⟩⟩⟩
theorem cR.hover {τ : Nat → Nat → Nat} {S : awS} {M : aM} (R : cR τ S M) {r h : Nat} (hr : r < mN M 6) (hh : h < mN M 6) : hBit (rcO S (mN M 6) ((1 : Int32) <<< (nI h &&& 31)) (mN M 6)) r ↔ ¬ mA (mHoldsAll M r) 75 h = 0 := by
  have e16 := R.nR
  have hg : ∀ a b, mHoldA M a b → b < mN M 6 := fun a b ⟨k, k1, _, k3⟩ => k3 ▸ (R.inv.2.2.2.2.2.2.2.1 k k1).2.1
  rw [rcO_rch hh e16 (fun a b ha hb => hg a b ((R.hE_ a b).mp ⟨ha, hb⟩)) r, mHoldsAll_rch R.mI (by omega) h (by omega) (fun k hk => ⟨Nat.lt_of_lt_of_le (R.inv.2.2.2.2.2.2.2.1 k hk).1 e16, Nat.lt_of_lt_of_le (R.inv.2.2.2.2.2.2.2.1 k hk).2.1 e16⟩)]
  constructor
  · exact fun z => rch_rev (rch_cg R.hE_ z)
  · exact fun z => rch_cg (fun a b => (R.hE_ a b).symm) (rch_rev z)

