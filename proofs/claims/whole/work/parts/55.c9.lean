-- who is awake: the class's row and the reference's
theorem sStand0_s (n : Nat) (S : awS) : sStand0 (n + 1) S = wI (sStand0 n S) 27 0 n (nI n) := by
  unfold sStand0
  exact mIter_s _ _ _
theorem stand0 (S : awS) (M : aM) : ∀ n h, h < n → sI (sStand0 n S) 27 0 h = nI h ∧ mA (mIter (fun h M => pA M 76 h (nI h)) n M) 76 h = nI h
  | 0, h, hh => absurd hh (Nat.not_lt_zero h)
  | n + 1, h, hh => by
    rw [sStand0_s, mIter_s, sI_wI, mA_pA]
    by_cases e : h = n
    · rw [if_pos ⟨rfl, rfl, e⟩, if_pos ⟨rfl, e⟩, e]; exact ⟨rfl, rfl⟩
    · rw [if_neg (fun z => e z.2.2), if_neg (fun z => e z.2)]
      exact stand0 S M n h (by omega)
theorem stand0_o (M : aM) (k j : Nat) (hk : ¬ k = 76) : ∀ n, mA (mIter (fun h M => pA M 76 h (nI h)) n M) k j = mA M k j
  | 0 => rfl
  | n + 1 => by
    rw [mIter_s, mA_pA, if_neg (fun z => hk z.1)]
    exact stand0_o M k j hk n
theorem swap_o (t : Nat) (M : aM) (k j : Nat) (hk : ¬ k = 76) : ∀ n, mA (mIter (fun k M => mSwapK M t k) n M) k j = mA M k j
  | 0 => rfl
  | n + 1 => by
    rw [mIter_s]
    have h1 := swap_o t M k j hk n
    generalize mIter (fun k M => mSwapK M t k) n M = N at h1 ⊢
    show mA (mSwapK N t n) k j = _
    unfold mSwapK
    split
    · rw [mA_pA, mA_pA, if_neg (fun z => hk z.1), if_neg (fun z => hk z.1)]; exact h1
    · exact h1
theorem swap_k (t n : Nat) (N : aM) (h : Nat) : mA (mSwapK N t n) 76 h = if mA N 61 n ≤ nI t ∧ nI t ≤ mA N 62 n then (if h = mE N 60 n then mA N 76 (mE N 59 n) else if h = mE N 59 n then mA N 76 (mE N 60 n) else mA N 76 h) else mA N 76 h := by
  unfold mSwapK
  by_cases c : mA N 61 n ≤ nI t ∧ nI t ≤ mA N 62 n
  · rw [if_pos c, if_pos c, mA_pA, mA_pA]
    by_cases e1 : h = mE N 60 n
    · rw [if_pos ⟨rfl, e1⟩, if_pos e1]
    · rw [if_neg (fun z => e1 z.2), if_neg e1]
      by_cases e2 : h = mE N 59 n
      · rw [if_pos ⟨rfl, e2⟩, if_pos e2]
      · rw [if_neg (fun z => e2 z.2), if_neg e2]
  · rw [if_neg c, if_neg c]
theorem sswap_k (M : aM) (t n : Nat) (A : awS) (h : Nat) : sI (sSwap M t n A) 27 0 h = if mA M 61 n ≤ nI t ∧ nI t ≤ mA M 62 n then (if h = mE M 60 n then sI A 27 0 (mE M 59 n) else if h = mE M 59 n then sI A 27 0 (mE M 60 n) else sI A 27 0 h) else sI A 27 0 h := by
  unfold sSwap sExch
  by_cases c : mA M 61 n ≤ nI t ∧ nI t ≤ mA M 62 n
  · rw [if_pos c, if_pos c, sI_wI, sI_wI]
    by_cases e1 : h = mE M 60 n
    · rw [if_pos ⟨rfl, rfl, e1⟩, if_pos e1]
    · rw [if_neg (fun z => e1 z.2.2), if_neg e1]
      by_cases e2 : h = mE M 59 n
      · rw [if_pos ⟨rfl, rfl, e2⟩, if_pos e2]
      · rw [if_neg (fun z => e2 z.2.2), if_neg e2]
  · rw [if_neg c, if_neg c]
theorem sStand1_s (M : aM) (t n : Nat) (S : awS) : sStand1 M t (n + 1) S = sSwap M t n (sStand1 M t n S) := by
  unfold sStand1
  exact mIter_s _ _ _
theorem stand1 {M : aM} (hO : hndOk M) (t : Nat) (A : awS) (B : aM) (hB : ∀ k j, ¬ k = 76 → mA B k j = mA M k j) (h0 : ∀ h, h < 8 → sI A 27 0 h = mA B 76 h) : ∀ n, n ≤ mN M 58 → ∀ h, h < 8 → sI (sStand1 M t n A) 27 0 h = mA (mIter (fun k M => mSwapK M t k) n B) 76 h
  | 0, _, h, hh => h0 h hh
  | n + 1, hn, h, hh => by
    have ih := stand1 hO t A B hB h0 n (by omega)
    rw [sStand1_s, mIter_s, sswap_k]
    have e : ∀ k j, ¬ k = 76 → mA (mIter (fun k M => mSwapK M t k) n B) k j = mA M k j := fun k j hk => (swap_o t B k j hk n).trans (hB k j hk)
    generalize mIter (fun k M => mSwapK M t k) n B = N at ih e ⊢
    show _ = mA (mSwapK N t n) 76 h
    rw [swap_k]
    unfold mE
    rw [e 61 n (by decide), e 62 n (by decide), e 59 n (by decide), e 60 n (by decide)]
    have hw := hO.2.2.2.2 n (by omega)
    have h1 : (mA M 59 n).toNatClampNeg < 8 := Nat.lt_of_lt_of_le hw.1.2 hO.1
    have h2 : (mA M 60 n).toNatClampNeg < 8 := Nat.lt_of_lt_of_le hw.2.2 hO.1
    rw [ih h hh, ih _ h1, ih _ h2]
theorem stand_eq {M : aM} (hO : hndOk M) (t : Nat) (S : awS) (h : Nat) (hh : h < 8) : sI (sStand M t S) 27 0 h = mA (mPlace M t) 76 h := by
  have h8 := fun h hh => stand0 S M 8 h hh
  have hb := fun k j hk => stand0_o M k j hk 8
  have key := stand1 hO t (sStand0 8 S) (mIter (fun h M => pA M 76 h (nI h)) 8 M) hb (fun h hh => (h8 h hh).1.trans (h8 h hh).2.symm) (mN M 58) (Nat.le_refl _) h hh
  exact key
theorem place_o (M : aM) (t k j : Nat) (hk : ¬ k = 76) : mA (mPlace M t) k j = mA M k j := by
  unfold mPlace
  exact (swap_o t _ k j hk _).trans (stand0_o M k j hk 8)
/-- hands that aren't there stand for themselves -/
theorem stand_far {M : aM} (hO : hndOk M) (t h : Nat) (hh : mN M 52 ≤ h) (h8 : h < 8) : mA (mPlace M t) 76 h = nI h := by
  have key : ∀ (B : aM), (∀ k j, ¬ k = 76 → mA B k j = mA M k j) → mA B 76 h = nI h → ∀ n, n ≤ mN M 58 → mA (mIter (fun k M => mSwapK M t k) n B) 76 h = nI h := by
    intro B hB h0 n
    induction n with
    | zero => intro _; exact h0
    | succ n ih =>
      intro hn
      have ih := ih (by omega)
      rw [mIter_s]
      have e : ∀ k j, ¬ k = 76 → mA (mIter (fun k M => mSwapK M t k) n B) k j = mA M k j := fun k j hk => (swap_o t B k j hk n).trans (hB k j hk)
      generalize mIter (fun k M => mSwapK M t k) n B = N at ih e ⊢
      show mA (mSwapK N t n) 76 h = _
      rw [swap_k]
      unfold mE
      rw [e 61 n (by decide), e 62 n (by decide), e 59 n (by decide), e 60 n (by decide)]
      have hw := hO.2.2.2.2 n (by omega)
      have n1 : ¬ h = (mA M 59 n).toNatClampNeg := fun z => by have : mE M 59 n < mN M 52 := hw.1.2; unfold mE at this; omega
      have n2 : ¬ h = (mA M 60 n).toNatClampNeg := fun z => by have : mE M 60 n < mN M 52 := hw.2.2; unfold mE at this; omega
      rw [if_neg n1, if_neg n2, ih]
      split <;> rfl
  unfold mPlace
  exact key _ (fun k j hk => stand0_o M k j hk 8) (stand0 (fun _ _ _ => 0, fun _ _ _ => 0, fun _ _ _ => none, fun _ => 0, fun _ _ => 0, fun _ => (0, fun _ => 0)) M 8 h h8).2 _ (Nat.le_refl _)
-- the least steps
theorem wakeH_o (M : aM) (k h : Nat) (A : awS) (h' : Nat) : sI (sWakeH M k h A) 27 0 h' = sI A 27 0 h' ∧ sI (sWakeH M k h A) 28 0 h' = if h' = h ∧ (sI A 27 0 h = mA M 54 k ∧ mA M 57 k < sI A 28 0 h) then mA M 57 k else sI A 28 0 h' := by
  unfold sWakeH
  by_cases c : sI A 27 0 h = mA M 54 k ∧ mA M 57 k < sI A 28 0 h
  · rw [if_pos c, sI_wI, sI_wI, if_neg (fun z => absurd z.1 (by decide))]
    refine ⟨rfl, ?_⟩
    by_cases e : h' = h
    · rw [if_pos ⟨rfl, rfl, e⟩, if_pos ⟨e, c⟩]
    · rw [if_neg (fun z => e z.2.2), if_neg (fun z => e z.1)]
  · rw [if_neg c, if_neg (fun z => c z.2)]
    exact ⟨rfl, rfl⟩
theorem wakeH_it (M : aM) (k : Nat) (A : awS) (h' : Nat) : ∀ n, sI (mIter (sWakeH M k) n A) 27 0 h' = sI A 27 0 h' ∧ sI (mIter (sWakeH M k) n A) 28 0 h' = if h' < n ∧ (sI A 27 0 h' = mA M 54 k ∧ mA M 57 k < sI A 28 0 h') then mA M 57 k else sI A 28 0 h'
  | 0 => ⟨rfl, (if_neg (fun z => absurd z.1 (Nat.not_lt_zero _))).symm⟩
  | n + 1 => by
    obtain ⟨i1, i2⟩ := wakeH_it M k A h' n
    rw [mIter_s]
    obtain ⟨o1, o2⟩ := wakeH_o M k n (mIter (sWakeH M k) n A) h'
    refine ⟨o1.trans i1, o2.trans ?_⟩
    by_cases e : h' = n
    · subst e
      have i3 := i2.trans (if_neg (fun z => absurd z.1 (Nat.lt_irrefl _)))
      rw [i1, i3]
      by_cases c : sI A 27 0 h' = mA M 54 k ∧ mA M 57 k < sI A 28 0 h'
      · rw [if_pos ⟨rfl, c⟩, if_pos ⟨Nat.lt_succ_self _, c⟩]
      · rw [if_neg (fun z => c z.2), if_neg (fun z => c z.2)]
    · rw [if_neg (fun z => e z.1), i2]
      by_cases c : h' < n ∧ (sI A 27 0 h' = mA M 54 k ∧ mA M 57 k < sI A 28 0 h')
      · rw [if_pos c, if_pos ⟨by omega, c.2⟩]
      · rw [if_neg c, if_neg (fun z => c ⟨by omega, z.2⟩)]
theorem wakeK_o (M : aM) (t k : Nat) (A : awS) (h : Nat) (hh : h < 8) : sI (sWakeK M t k A) 27 0 h = sI A 27 0 h ∧ sI (sWakeK M t k A) 28 0 h = if (t % 48 + 48 - mE M 55 k) % 48 < mE M 56 k ∧ (sI A 27 0 h = mA M 54 k ∧ mA M 57 k < sI A 28 0 h) then mA M 57 k else sI A 28 0 h := by
  unfold sWakeK
  by_cases c : (t % 48 + 48 - mE M 55 k) % 48 < mE M 56 k
  · rw [if_pos c]
    obtain ⟨i1, i2⟩ := wakeH_it M k A h 8
    refine ⟨i1, i2.trans ?_⟩
    by_cases d : sI A 27 0 h = mA M 54 k ∧ mA M 57 k < sI A 28 0 h
    · rw [if_pos ⟨hh, d⟩, if_pos ⟨c, d⟩]
    · rw [if_neg (fun z => d z.2), if_neg (fun z => d z.2)]
  · rw [if_neg c, if_neg (fun z => c z.1)]
    exact ⟨rfl, rfl⟩
theorem find_it {M P : aM} (t : Nat) (A : awS) (hP : ∀ k j, ¬ k = 76 → mA P k j = mA M k j) (h : Nat) (hh : h < 8) (h27 : sI A 27 0 h = mA P 76 h) (h28 : sI A 28 0 h = 10) : ∀ n, sI (mIter (sWakeK M t) n A) 27 0 h = mA P 76 h ∧ sI (mIter (sWakeK M t) n A) 28 0 h = mStep P h t n
  | 0 => ⟨h27, h28⟩
  | n + 1 => by
    obtain ⟨i1, i2⟩ := find_it t A hP h hh h27 h28 n
    rw [mIter_s]
    obtain ⟨o1, o2⟩ := wakeK_o M t n (mIter (sWakeK M t) n A) h hh
    refine ⟨o1.trans i1, o2.trans ?_⟩
    rw [i1, i2]
    show _ = iC (mInK P h t n ∧ mA P 57 n < mStep P h t n) (mA P 57 n) (mStep P h t n)
    have e : mInK P h t n ↔ (mA P 76 h = mA M 54 n ∧ (t % 48 + 48 - mE M 55 n) % 48 < mE M 56 n) := by
      unfold mInK mE
      rw [hP 54 n (by decide), hP 55 n (by decide), hP 56 n (by decide)]
      exact ⟨fun z => ⟨z.1.symm, z.2⟩, fun z => ⟨z.1.symm, z.2⟩⟩
    rw [hP 57 n (by decide)]
    by_cases c : mInK P h t n ∧ mA M 57 n < mStep P h t n
    · rw [iC_t c, if_pos ⟨(e.mp c.1).2, (e.mp c.1).1, c.2⟩]
    · rw [iC_f c, if_neg (fun z => c ⟨e.mpr ⟨z.2.1, z.1⟩, z.2.2⟩)]
theorem find_eq {M : aM} (hO : hndOk M) (t : Nat) (S : awS) (h : Nat) (hh : h < 8) : sI (sFind M t (sStand M t S)) 28 0 h = mStep (mPlace M t) h t (mN M 53) := by
  unfold sFind
  refine (find_it t _ (fun k j hk => place_o M t k j hk) h hh ?_ ?_ (mN M 53)).2
  · rw [sI_fillI, if_neg (fun z => absurd z.1 (by decide))]
    exact stand_eq hO t S h hh
  · rw [sI_fillI, if_pos ⟨rfl, rfl, hh⟩]
theorem step_far {M : aM} (hO : hndOk M) (t h : Nat) (hh : mN M 52 ≤ h) (h8 : h < 8) : ∀ n, n ≤ mN M 53 → mStep (mPlace M t) h t n = 10
  | 0, _ => rfl
  | n + 1, hn => by
    show iC (mInK (mPlace M t) h t n ∧ _) _ (mStep (mPlace M t) h t n) = 10
    rw [iC_f, step_far hO t h hh h8 n (by omega)]
    intro z
    have z1 : mA (mPlace M t) 54 n = mA (mPlace M t) 76 h := z.1.1
    rw [place_o M t _ _ (by decide), stand_far hO t h hh h8] at z1
    have hs := (hO.2.2.2.1 n (by omega)).1
    rw [hs.1] at z1
    have h8' := hO.1
    have := (nI_eq (by omega) (by omega)).mp z1
    omega
-- the row
def Rw (f i t : Nat) (P : aM) (a : awS × Nat) (N : aM) : Prop := a.2 = mN N 78 ∧ (∀ j, j < a.2 → sI a.1 f i j = mA N 77 j) ∧ ∀ h, h < 8 → sI a.1 28 0 h = mStep P h t (mN P 53)
theorem Rw.step {f i t : Nat} {P N : aM} {a : awS × Nat} {st hd : Nat} (hf : ¬ f = 28) (h : Rw f i t P a N) (w : wkI P N t st hd) (hh : hd < mN P 52) (h8 : mN P 52 ≤ 8) : Rw f i t P (sRowH f i st hd a) (mWakeH t st hd N) := by
  have e : mN N 53 = mN P 53 := by unfold mN; rw [w.2.1 _ (by decide)]
  have es : mStep N hd t (mN N 53) = mStep P hd t (mN P 53) := by rw [e]; exact mStep_congr w.2.2.1 hd t _
  obtain ⟨h1, h2, h3⟩ := h
  unfold sRowH mWakeH
  by_cases c : mStep N hd t (mN N 53) = nI st
  · have hlt := w.lt hh c
    rw [if_pos c, if_pos ⟨by rw [h3 hd (by omega), ← es]; exact c, by omega⟩]
    refine ⟨?_, fun j hj => ?_, fun h' hh' => ?_⟩
    · show a.2 + 1 = (mS N 78 + 1).toNatClampNeg
      rw [w.2.2.2.1, nI_1, nI_clamp (by omega), h1]
    · show sI (wI a.1 f i a.2 (nI hd)) f i j = mA (pA N 77 (mN N 78) (nI hd)) 77 j
      rw [sI_wI, mA_pA, ← h1]
      by_cases d : j = a.2
      · rw [if_pos ⟨rfl, rfl, d⟩, if_pos ⟨rfl, d⟩]
      · rw [if_neg (fun z => d z.2.2), if_neg (fun z => d z.2)]
        exact h2 j (Nat.lt_of_le_of_ne (Nat.le_of_lt_succ hj) d)
    · show sI (wI a.1 f i a.2 (nI hd)) 28 0 h' = _
      rw [sI_wI, if_neg (fun z => hf z.1.symm)]
      exact h3 h' hh'
  · rw [if_neg c, if_neg (fun z => c (by rw [es, ← h3 hd (by omega)]; exact z.1))]
    exact ⟨h1, h2, h3⟩
theorem Rw.stay {f i t : Nat} {M N : aM} {a : awS × Nat} {st hd : Nat} (hO : hndOk M) (h : Rw f i t (mPlace M t) a N) (eS : mN (mPlace M t) 53 = mN M 53) (hst : st < 10) (hh : mN M 52 ≤ hd) (h8 : hd < 8) : sRowH f i st hd a = a := by
  unfold sRowH
  rw [if_neg]
  intro z
  have z1 := z.1
  rw [h.2.2 hd h8, eS, step_far hO t hd hh h8 _ (Nat.le_refl _)] at z1
  have := (nI_eq (a := 10) (by decide) (by omega)).mp z1
  omega
theorem Rw.in1 {f i t : Nat} {P N : aM} {a : awS × Nat} {st : Nat} (hf : ¬ f = 28) (h : Rw f i t P a N) (w : wkI P N t st 0) (h8 : mN P 52 ≤ 8) : ∀ n, n ≤ mN P 52 → Rw f i t P (mIter (sRowH f i st) n a) (mIter (fun hd N => mWakeH t st hd N) n N)
  | 0, _ => h
  | n + 1, hn => by
    rw [mIter_s, mIter_s]
    exact (Rw.in1 hf h w h8 n (by omega)).step hf (w.inner h8 n (by omega)) (by omega) h8
theorem Rw.in2 {f i t : Nat} {M N : aM} {a : awS × Nat} {st : Nat} (hO : hndOk M) (h : Rw f i t (mPlace M t) (mIter (sRowH f i st) (mN M 52) a) N) (eS : mN (mPlace M t) 53 = mN M 53) (hst : st < 10) : ∀ n, mN M 52 + n ≤ 8 → mIter (sRowH f i st) (mN M 52 + n) a = mIter (sRowH f i st) (mN M 52) a
  | 0, _ => rfl
  | n + 1, hn => by
    have ih := Rw.in2 hO h eS hst n (by omega)
    have e := mIter_s (sRowH f i st) (mN M 52 + n) a
    rw [ih] at e
    exact e.trans (h.stay hO eS hst (by omega) (by omega))
theorem Rw.inn {f i t : Nat} {M N : aM} {a : awS × Nat} {st : Nat} (hf : ¬ f = 28) (hO : hndOk M) (h : Rw f i t (mPlace M t) a N) (w : wkI (mPlace M t) N t st 0) (eS : mN (mPlace M t) 53 = mN M 53) (eH : mN (mPlace M t) 52 = mN M 52) (hst : st < 10) : Rw f i t (mPlace M t) (sRowI f i st a) (mIter (fun hd N => mWakeH t st hd N) (mN M 52) N) := by
  have h1 := Rw.in1 hf h w (by rw [eH]; exact hO.1) (mN M 52) (by omega)
  have h8 := hO.1
  have h2 := Rw.in2 hO h1 eS hst (8 - mN M 52) (by omega)
  rw [show mN M 52 + (8 - mN M 52) = 8 by omega] at h2
  rw [sRowI_e, h2]
  exact h1
theorem Rw.out {f i t : Nat} {M N : aM} {a : awS × Nat} (hf : ¬ f = 28) (hO : hndOk M) (h : Rw f i t (mPlace M t) a N) (w : wkI (mPlace M t) N t 0 0) (eS : mN (mPlace M t) 53 = mN M 53) (eH : mN (mPlace M t) 52 = mN M 52) : ∀ n, n ≤ 10 → Rw f i t (mPlace M t) (sRowO f i n a) (mIter (fun st M => mIter (fun h M => mWakeH t st h M) (mN M 52) M) n N)
  | 0, _ => h
  | n + 1, hn => by
    have h1 := Rw.out hf hO h w eS eH n (by omega)
    have w1 := wkI.outer w (by rw [eH]; exact hO.1) n (by omega)
    rw [sRowO_s, mIter_s]
    generalize mIter (fun st M => mIter (fun h M => mWakeH t st h M) (mN M 52) M) n N = B at h1 w1 ⊢
    show Rw f i t (mPlace M t) _ (mIter (fun h M => mWakeH t n h M) (mN B 52) B)
    have e : mN B 52 = mN M 52 := by unfold mN; rw [w1.2.1 52 (by decide)]; exact eH
    rw [e]
    exact h1.inn hf hO w1 eS eH (by omega)
theorem fillRow_eq {S : awS} {M : aM} {t f i : Nat} (hf : ¬ f = 28) (hI : mI M) (hO : hndOk M) : (sRow f i (sFind M t (sStand M t S))).2 = mN (mWake M t) 78 ∧ ∀ j, j < (sRow f i (sFind M t (sStand M t S))).2 → sI (sRow f i (sFind M t (sStand M t S))).1 f i j = mA (mWake M t) 77 j := by
  have hp := mPlace_inv hI t
  have eS : mN (mPlace M t) 53 = mN M 53 := by unfold mN; rw [hp.2]
  have eH : mN (mPlace M t) 52 = mN M 52 := by unfold mN; rw [hp.2]
  have h0 : Rw f i t (mPlace M t) (sFind M t (sStand M t S), 0) (pS (mPlace M t) 78 0) := by
    refine ⟨rfl, fun j hj => absurd hj (Nat.not_lt_zero j), fun h hh => ?_⟩
    rw [eS]
    exact find_eq hO t S h hh
  have h1 := h0.out hf hO (wkI.start hI t) eS eH 10 (Nat.le_refl 10)
  rw [sRow_e]
  exact ⟨h1.1, h1.2.1⟩
