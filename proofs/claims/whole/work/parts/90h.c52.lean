def uG (g : Nat → Int64) (j : Nat) (v : Int64) : Nat → Int64 := fun i => if i = j then v else g i
def insF (v : Int64) : Nat → (Nat → Int64) → (Nat → Int64)
  | 0, g => uG g 0 v
  | p + 1, g => if v < g p then insF v p (uG g (p + 1) (g p)) else uG g (p + 1) v
theorem uG_o {g : Nat → Int64} {j i : Nat} {v : Int64} (h : ¬ i = j) : uG g j v i = g i := if_neg h
theorem uG_e {g : Nat → Int64} {j : Nat} {v : Int64} : uG g j v j = v := if_pos rfl
theorem insF_o (v : Int64) : ∀ (p : Nat) (g : Nat → Int64) (j : Nat), p < j → insF v p g j = g j
  | 0, g, j, h => uG_o (by omega)
  | p + 1, g, j, h => by
    show (if v < g p then insF v p (uG g (p + 1) (g p)) else uG g (p + 1) v) j = g j
    by_cases c : v < g p
    · rw [if_pos c, insF_o v p _ j (by omega), uG_o (by omega)]
    · rw [if_neg c, uG_o (by omega)]
theorem mCntP_cg {p q : Nat → Prop} : ∀ {n : Nat}, (∀ j, j < n → (p j ↔ q j)) → mCntP p n = mCntP q n := fun {n} h => Nat.le_antisymm (mCntP_le (fun j hj z => (h j hj).mp z)) (mCntP_le (fun j hj z => (h j hj).mpr z))
theorem mCntP_0 {p : Nat → Prop} : ∀ {n : Nat}, mCntP p n = 0 → ∀ j, j < n → ¬ p j
  | 0, _, j, hj, _ => absurd hj (Nat.not_lt_zero j)
  | n + 1, h, j, hj, hp => by
    have h : mCntP p n + iC (p n) 1 0 = 0 := h
    by_cases e : j = n
    · subst e
      rw [iC_t hp] at h
      omega
    · exact mCntP_0 (n := n) (by omega) j (by omega) hp
theorem mCntP_up {p : Nat → Prop} {m : Nat} : ∀ {n : Nat}, (∀ j, m ≤ j → j < n → ¬ p j) → mCntP p n ≤ m
  | 0, _ => Nat.zero_le m
  | n + 1, h => by
    show mCntP p n + iC (p n) 1 0 ≤ m
    by_cases c : m ≤ n
    · rw [iC_f (h n c (Nat.lt_succ_self n))]
      exact mCntP_up (n := n) (fun j h1 h2 => h j h1 (by omega))
    · have h1 : mCntP p n ≤ n := mCntP_n
      have h2 := iC_le (p n)
      omega
theorem mCntP_lo {p : Nat → Prop} {k : Nat} : ∀ {n : Nat}, (∀ j, j < k → p j) → k ≤ n → k ≤ mCntP p n
  | 0, _, h => h
  | n + 1, hp, h => by
    show k ≤ mCntP p n + iC (p n) 1 0
    by_cases e : k ≤ n
    · have := mCntP_lo (n := n) hp e
      omega
    · have e : k = n + 1 := by omega
      subst e
      rw [iC_t (hp n (Nat.lt_succ_self n))]
      have h1 : n ≤ mCntP p n := mCntP_lo (k := n) (n := n) (fun j hj => hp j (by omega)) (Nat.le_refl n)
      omega
theorem insF_cnt (v : Int64) (P : Int64 → Prop) : ∀ (c : Nat) (g : Nat → Int64), mCntP (fun j => P (insF v c g j)) (c + 1) = mCntP (fun j => P (g j)) c + iC (P v) 1 0
  | 0, g => by
    show 0 + iC (P (insF v 0 g 0)) 1 0 = 0 + iC (P v) 1 0
    rw [show insF v 0 g 0 = v from uG_e]
  | p + 1, g => by
    by_cases c : v < g p
    · have e : insF v (p + 1) g = insF v p (uG g (p + 1) (g p)) := if_pos c
      rw [e]
      show mCntP (fun j => P (insF v p (uG g (p + 1) (g p)) j)) (p + 1) + iC (P (insF v p (uG g (p + 1) (g p)) (p + 1))) 1 0 = mCntP (fun j => P (g j)) p + iC (P (g p)) 1 0 + iC (P v) 1 0
      rw [insF_cnt v P p, insF_o v p _ (p + 1) (by omega), uG_e, mCntP_cg (p := fun j => P (uG g (p + 1) (g p) j)) (q := fun j => P (g j)) (n := p) (fun j hj => by rw [uG_o (by omega)])]
      omega
    · have e : insF v (p + 1) g = uG g (p + 1) v := if_neg c
      rw [e]
      show mCntP (fun j => P (uG g (p + 1) v j)) (p + 1) + iC (P (uG g (p + 1) v (p + 1))) 1 0 = mCntP (fun j => P (g j)) (p + 1) + iC (P v) 1 0
      rw [uG_e, mCntP_cg (p := fun j => P (uG g (p + 1) v j)) (q := fun j => P (g j)) (n := p + 1) (fun j hj => by rw [uG_o (by omega)])]
def srtd (g : Nat → Int64) (c : Nat) : Prop := ∀ a b, a ≤ b → b < c → g a ≤ g b
theorem insF_srt (v : Int64) : ∀ (c : Nat) (g : Nat → Int64), srtd g c → srtd (insF v c g) (c + 1)
  | 0, g, _ => fun a b h1 h2 => by
    have e1 : b = 0 := by omega
    have e2 : a = 0 := by omega
    rw [e1, e2]
    exact Int64.le_refl _
  | p + 1, g, hs => by
    intro a b h1 h2
    by_cases c : v < g p
    · have e : insF v (p + 1) g = insF v p (uG g (p + 1) (g p)) := if_pos c
      rw [e]
      have ih := insF_srt v p (uG g (p + 1) (g p)) (fun a b h1 h2 => by rw [uG_o (by omega), uG_o (by omega)]; exact hs a b h1 (by omega))
      by_cases eb : b = p + 1
      · subst eb
        rw [insF_o v p _ (p + 1) (by omega), uG_e]
        by_cases ea : a = p + 1
        · subst ea
          rw [insF_o v p _ (p + 1) (by omega), uG_e]
          exact Int64.le_refl _
        · have q := insF_cnt v (fun y => ¬ y ≤ g p) p (uG g (p + 1) (g p))
          rw [iC_f (fun z => z (Int64.le_of_lt c)), mCntP_cg (p := fun j => ¬ uG g (p + 1) (g p) j ≤ g p) (q := fun _ => False) (n := p) (fun j hj => ⟨fun z => z (by rw [uG_o (by omega)]; exact hs j p (by omega) (by omega)), False.elim⟩)] at q
          have q0 : mCntP (fun _ => False) p = 0 := Nat.le_antisymm (mCntP_up (m := 0) (fun _ _ _ z => z)) (Nat.zero_le _)
          rw [q0] at q
          exact Classical.not_not.mp (mCntP_0 q a (by omega))
      · exact ih a b h1 (by omega)
    · have e : insF v (p + 1) g = uG g (p + 1) v := if_neg c
      rw [e]
      by_cases eb : b = p + 1
      · subst eb
        rw [uG_e]
        by_cases ea : a = p + 1
        · subst ea
          rw [uG_e]
          exact Int64.le_refl _
        · rw [uG_o ea]
          exact Int64.le_trans (hs a p (by omega) (by omega)) (Int64.not_lt.mp c)
      · rw [uG_o eb, uG_o (by omega)]
        exact hs a b h1 (by omega)
-- counting the ticks of a window
noncomputable def kCnt (M : aM) (s : Nat) (p : Nat → Prop) : Nat → Nat → Nat
  | _, 0 => 0
  | 0, _ + 1 => 0
  | t + 1, n + 1 => kCnt M s p t n + iC (mHas M s (t + 1) ∧ p (t + 1)) 1 0
theorem kCnt_0 (M : aM) (s : Nat) (p : Nat → Prop) (t : Nat) : kCnt M s p t 0 = 0 := by cases t <;> rfl
theorem kCnt_z (M : aM) (s : Nat) (p : Nat → Prop) (n : Nat) : kCnt M s p 0 n = 0 := by cases n <;> rfl
theorem iC_cg {p q : Prop} (h : p ↔ q) : (iC p 1 0 : Nat) = iC q 1 0 := by rw [propext h]
theorem kCnt_cg {M : aM} {s : Nat} {p q : Nat → Prop} : ∀ (t n : Nat), (∀ i, t - n < i → i ≤ t → mHas M s i → (p i ↔ q i)) → kCnt M s p t n = kCnt M s q t n
  | t, 0, _ => by rw [kCnt_0, kCnt_0]
  | 0, n + 1, _ => rfl
  | t + 1, n + 1, h => by
    show kCnt M s p t n + iC _ 1 0 = kCnt M s q t n + iC _ 1 0
    rw [kCnt_cg t n (fun i h1 h2 h3 => h i (by omega) (by omega) h3), iC_cg (p := mHas M s (t + 1) ∧ p (t + 1)) (q := mHas M s (t + 1) ∧ q (t + 1)) ⟨fun z => ⟨z.1, (h (t + 1) (by omega) (Nat.le_refl _) z.1).mp z.2⟩, fun z => ⟨z.1, (h (t + 1) (by omega) (Nat.le_refl _) z.1).mpr z.2⟩⟩]
theorem kCnt_le {M : aM} {s : Nat} {p q : Nat → Prop} : ∀ (t n : Nat), (∀ i, t - n < i → i ≤ t → mHas M s i → p i → q i) → kCnt M s p t n ≤ kCnt M s q t n
  | t, 0, _ => by rw [kCnt_0, kCnt_0]; exact Nat.le_refl 0
  | 0, n + 1, _ => Nat.le_refl 0
  | t + 1, n + 1, h => by
    show kCnt M s p t n + iC _ 1 0 ≤ kCnt M s q t n + iC _ 1 0
    have q1 := kCnt_le (p := p) (q := q) t n (fun i h1 h2 h3 => h i (by omega) (by omega) h3)
    by_cases c : mHas M s (t + 1) ∧ p (t + 1)
    · rw [iC_t c, iC_t (⟨c.1, h (t + 1) (by omega) (Nat.le_refl _) c.1 c.2⟩ : mHas M s (t + 1) ∧ q (t + 1))]
      omega
    · rw [iC_f c]
      omega
theorem kCnt_lt {M : aM} {s : Nat} {p q : Nat → Prop} {k : Nat} : ∀ (t n : Nat), (∀ i, t - n < i → i ≤ t → mHas M s i → p i → q i) → t - n < k → k ≤ t → mHas M s k → q k → ¬ p k → kCnt M s p t n + 1 ≤ kCnt M s q t n
  | t, 0, _, h1, h2, _, _, _ => by omega
  | 0, n + 1, _, h1, h2, _, _, _ => by omega
  | t + 1, n + 1, h, h1, h2, hk, hq, hp => by
    show kCnt M s p t n + iC _ 1 0 + 1 ≤ kCnt M s q t n + iC _ 1 0
    by_cases e : k = t + 1
    · subst e
      rw [iC_f (fun z => hp z.2), iC_t (⟨hk, hq⟩ : mHas M s (t + 1) ∧ q (t + 1))]
      have := kCnt_le (p := p) (q := q) t n (fun i h1 h2 h3 => h i (by omega) (by omega) h3)
      omega
    · have q1 := kCnt_lt (p := p) (q := q) (k := k) t n (fun i h1 h2 h3 => h i (by omega) (by omega) h3) (by omega) (by omega) hk hq hp
      by_cases c : mHas M s (t + 1) ∧ p (t + 1)
      · rw [iC_t c, iC_t (⟨c.1, h (t + 1) (by omega) (Nat.le_refl _) c.1 c.2⟩ : mHas M s (t + 1) ∧ q (t + 1))]
        omega
      · rw [iC_f c]
        omega
/-- q says more than p at k alone -/
theorem kCnt_pt {M : aM} {s : Nat} {p q : Nat → Prop} {k : Nat} (h0 : ∀ i, ¬ i = k → (q i ↔ p i)) : ∀ (t n : Nat), kCnt M s q t n ≤ kCnt M s p t n + 1 ∧ (kCnt M s p t n < kCnt M s q t n → t - n < k ∧ k ≤ t ∧ mHas M s k ∧ q k) ∧ (¬ k ≤ t → kCnt M s q t n = kCnt M s p t n)
  | t, 0 => by rw [kCnt_0, kCnt_0]; exact ⟨by omega, fun z => absurd z (Nat.lt_irrefl 0), fun _ => rfl⟩
  | 0, n + 1 => ⟨Nat.zero_le _, fun z => absurd z (Nat.lt_irrefl 0), fun _ => rfl⟩
  | t + 1, n + 1 => by
    obtain ⟨i1, i2, i3⟩ := kCnt_pt h0 t n
    show kCnt M s q t n + iC _ 1 0 ≤ kCnt M s p t n + iC _ 1 0 + 1 ∧ (kCnt M s p t n + iC _ 1 0 < kCnt M s q t n + iC _ 1 0 → _) ∧ (_ → kCnt M s q t n + iC _ 1 0 = kCnt M s p t n + iC _ 1 0)
    by_cases e : t + 1 = k
    · have i4 := i3 (by omega)
      have a1 := iC_le (mHas M s (t + 1) ∧ q (t + 1))
      rw [i4]
      refine ⟨by omega, fun z => ?_, fun z => absurd (by omega) z⟩
      refine ⟨by omega, by omega, ?_⟩
      subst e
      exact Classical.byContradiction fun w => by
        rw [iC_f w] at z
        omega
    · have e2 : (iC (mHas M s (t + 1) ∧ q (t + 1)) 1 0 : Nat) = iC (mHas M s (t + 1) ∧ p (t + 1)) 1 0 := iC_cg ⟨fun z => ⟨z.1, (h0 _ e).mp z.2⟩, fun z => ⟨z.1, (h0 _ e).mpr z.2⟩⟩
      rw [e2]
      refine ⟨by omega, fun z => ?_, fun z => by rw [i3 (by omega)]⟩
      obtain ⟨w1, w2, w3⟩ := i2 (by omega)
      exact ⟨by omega, by omega, w3⟩
theorem kCnt_up (M : aM) (s : Nat) (p : Nat → Prop) {t w m : Nat} (hm : m < w) : kCnt M s p (t - m) (w - m) = kCnt M s p (t - (m + 1)) (w - (m + 1)) + iC (mHas M s (t - m) ∧ p (t - m)) 1 0 := by
  obtain ⟨j, hj⟩ : ∃ j, w - m = j + 1 := ⟨w - m - 1, by omega⟩
  rw [hj, show w - (m + 1) = j by omega]
  by_cases c : m < t
  · obtain ⟨k, hk⟩ : ∃ k, t - m = k + 1 := ⟨t - m - 1, by omega⟩
    rw [hk, show t - (m + 1) = k by omega]
    rfl
  · rw [show t - m = 0 by omega, show t - (m + 1) = 0 by omega, kCnt_z, kCnt_z, iC_f (fun z => absurd z.1.1 (Nat.lt_irrefl 0))]
theorem mCnt_k (M : aM) (s : Nat) (th : Int64) : ∀ (t n : Nat), mCnt M s False th t n = kCnt M s (fun _ => True) t n
  | t, 0 => by rw [mCnt_0, kCnt_0]
  | 0, n + 1 => rfl
  | t + 1, n + 1 => by
    show mCnt M s False th t n + iC _ 1 0 = kCnt M s (fun _ => True) t n + iC _ 1 0
    rw [mCnt_k M s th t n, iC_cg (p := mHas M s (t + 1) ∧ (False → th < mVal M s (t + 1))) (q := mHas M s (t + 1) ∧ True) ⟨fun z => ⟨z.1, trivial⟩, fun z => ⟨z.1, fun w => w.elim⟩⟩]
def ahP (M : aM) (s k i : Nat) : Prop := mVal M s i < mVal M s k ∨ (mVal M s i = mVal M s k ∧ i < k)
theorem mAhead_k (M : aM) (s k : Nat) : ∀ (t n : Nat), mAhead M s k t n = kCnt M s (ahP M s k) t n
  | t, 0 => by rw [mAhead_0, kCnt_0]
  | 0, n + 1 => rfl
  | t + 1, n + 1 => by
    show mAhead M s k t n + iC _ 1 0 = kCnt M s (ahP M s k) t n + iC _ 1 0
    rw [mAhead_k M s k t n]
    rfl
theorem midGo {M : aM} {s T w c : Nat} {x : Int64} : ∀ (m k : Nat) (a : Int64), (∀ j, 0 < j → j ≤ k → k - m < j → mHas M s j → mAhead M s j T w = c → mVal M s j = x) → (a = x ∨ ∃ j, 0 < j ∧ j ≤ k ∧ k - m < j ∧ mHas M s j ∧ mAhead M s j T w = c) → mMidGo M s T w c k m a = x
  | 0, k, a, _, h2 => by
    rw [mMidGo_0]
    exact h2.elim id (fun ⟨j, _, j2, j3, _⟩ => by omega)
  | m + 1, 0, a, _, h2 => h2.elim id (fun ⟨j, j1, j2, _⟩ => by omega)
  | m + 1, k + 1, a, h1, h2 => by
    show mMidGo M s T w c k m (iC (mHas M s (k + 1) ∧ mAhead M s (k + 1) T w = c) (mVal M s (k + 1)) a) = x
    refine midGo m k _ (fun j j1 j2 j3 => h1 j j1 (by omega) (by omega)) ?_
    by_cases q : mHas M s (k + 1) ∧ mAhead M s (k + 1) T w = c
    · rw [iC_t q]
      exact Or.inl (h1 (k + 1) (by omega) (Nat.le_refl _) (by omega) q.1 q.2)
    · rw [iC_f q]
      refine h2.elim Or.inl (fun ⟨j, j1, j2, j3, j4, j5⟩ => Or.inr ⟨j, j1, ?_, ?_, j4, j5⟩)
      · by_cases e : j = k + 1
        · subst e; exact absurd ⟨j4, j5⟩ q
        · omega
      · omega
set_option maxHeartbeats 1000000 in
theorem mid_srt {M : aM} {s T w c : Nat} {g : Nat → Int64} (hs : srtd g c) (hc : ∀ P : Int64 → Prop, mCntP (fun j => P (g j)) c = kCnt M s (fun i => P (mVal M s i)) T w) {m : Nat} (hm : m < c) : mMidGo M s T w m T w 0 = g m := by
  have a1 : kCnt M s (fun i => mVal M s i < g m) T w ≤ m := by
    rw [← hc (fun y => y < g m)]
    exact mCntP_up (fun j h1 h2 => Int64.not_lt.mpr (hs m j h1 h2))
  have a2 : m + 1 ≤ kCnt M s (fun i => mVal M s i ≤ g m) T w := by
    rw [← hc (fun y => y ≤ g m)]
    exact mCntP_lo (fun j hj => hs j m (by omega) hm) (by omega)
  refine midGo w T 0 (fun j j1 j2 j3 j4 j5 => ?_) (Or.inr ?_)
  · rw [mAhead_k] at j5
    refine Classical.byContradiction fun ne => ?_
    rcases Int64.lt_or_lt_of_ne ne with c1 | c1
    · have b1 : kCnt M s (ahP M s j) T w + 1 ≤ kCnt M s (fun i => mVal M s i < g m) T w := kCnt_lt T w (fun i _ _ _ z => z.elim (fun q => Int64.lt_trans q c1) (fun q => by rw [q.1]; exact c1)) j3 j2 j4 c1 (fun z => z.elim (fun q => Int64.lt_irrefl q) (fun q => Nat.lt_irrefl _ q.2))
      omega
    · have b1 : kCnt M s (fun i => mVal M s i ≤ g m) T w ≤ kCnt M s (ahP M s j) T w := kCnt_le T w (fun i _ _ _ z => Or.inl (Int64.lt_of_le_of_lt z c1))
      omega
  · have F0 : kCnt M s (fun i => mVal M s i < g m ∨ (mVal M s i = g m ∧ i < 0)) T w ≤ m := by
      rw [kCnt_cg (q := fun i => mVal M s i < g m) T w (fun i _ _ _ => ⟨fun z => z.elim id (fun q => absurd q.2 (Nat.not_lt_zero i)), Or.inl⟩)]
      exact a1
    have F1 : m < kCnt M s (fun i => mVal M s i < g m ∨ (mVal M s i = g m ∧ i < T + 1)) T w := by
      rw [kCnt_cg (q := fun i => mVal M s i ≤ g m) T w (fun i _ h2 _ => ⟨fun z => z.elim Int64.le_of_lt (fun q => by rw [q.1]; exact Int64.le_refl _), fun z => by
        by_cases e : mVal M s i = g m
        · exact Or.inr ⟨e, by omega⟩
        · exact Or.inl (Int64.lt_of_le_of_ne z e)⟩)]
      omega
    have st : ∀ K, m < kCnt M s (fun i => mVal M s i < g m ∨ (mVal M s i = g m ∧ i < K)) T w → ∃ k, k < K ∧ kCnt M s (fun i => mVal M s i < g m ∨ (mVal M s i = g m ∧ i < k)) T w ≤ m ∧ m < kCnt M s (fun i => mVal M s i < g m ∨ (mVal M s i = g m ∧ i < k + 1)) T w := by
      intro K
      induction K with
      | zero => intro z; omega
      | succ K ih =>
        intro z
        by_cases c1 : m < kCnt M s (fun i => mVal M s i < g m ∨ (mVal M s i = g m ∧ i < K)) T w
        · obtain ⟨k, k1, k2⟩ := ih c1
          exact ⟨k, by omega, k2⟩
        · exact ⟨K, Nat.lt_succ_self K, by omega, z⟩
    obtain ⟨k, _, k2, k3⟩ := st (T + 1) F1
    have pt := kCnt_pt (M := M) (s := s) (k := k) (p := fun i => mVal M s i < g m ∨ (mVal M s i = g m ∧ i < k)) (q := fun i => mVal M s i < g m ∨ (mVal M s i = g m ∧ i < k + 1)) (fun i hi => ⟨fun z => z.elim Or.inl (fun q => Or.inr ⟨q.1, by omega⟩), fun z => z.elim Or.inl (fun q => Or.inr ⟨q.1, by omega⟩)⟩) T w
    obtain ⟨p1, p2, p3, p4⟩ := pt.2.1 (by omega)
    have ek : mVal M s k = g m := by
      rcases p4 with q | q
      · exfalso
        have e2 : kCnt M s (fun i => mVal M s i < g m ∨ (mVal M s i = g m ∧ i < k + 1)) T w = kCnt M s (fun i => mVal M s i < g m ∨ (mVal M s i = g m ∧ i < k)) T w := kCnt_cg T w (fun i _ _ _ => by
          by_cases e : i = k
          · subst e; exact ⟨fun _ => Or.inl q, fun _ => Or.inl q⟩
          · exact ⟨fun z => z.elim Or.inl (fun r => Or.inr ⟨r.1, by omega⟩), fun z => z.elim Or.inl (fun r => Or.inr ⟨r.1, by omega⟩)⟩)
        omega
      · exact q.1
    refine ⟨k, p3.1, p2, p1, p3, ?_⟩
    rw [mAhead_k, show ahP M s k = (fun i => mVal M s i < g m ∨ (mVal M s i = g m ∧ i < k)) from by funext i; unfold ahP; rw [ek]]
    omega

