def bgS (S : awS) (a r s g w : Nat) (t : Int32) (q : Bool) : awS :=
  (fun f i j => if f = 1 ∧ i = a then (if j = 0 then nI a else if j = 4 then t else 0) else if f = 3 ∧ i = g ∧ q = true then 0 else S.1 f i j,
   fun f i j => if f = 1 ∧ i = a then 0 else if f = 3 ∧ i = g ∧ q = true then 0 else S.2.1 f i j,
   fun f i j => if f = 1 ∧ i = a then (if j = 1 then some (nm 6 r) else if j = 2 then some (nm 9 s) else if j = 3 then some (nm 3 g) else none) else if f = 3 ∧ i = g ∧ q = true then (if j = 0 then some (nm 6 r) else if j = 1 then some (nm 9 s) else none) else if f = 11 ∧ j = 4 ∧ i = w then some (nm 1 a) else S.2.2.1 f i j,
   fun f => if f = 1 then a + 1 else if f = 3 ∧ q = true then g + 1 else S.2.2.2.1 f,
   fun f i => if f = 1 ∧ i = a then 0 else if f = 3 ∧ i = g ∧ q = true then 0 else S.2.2.2.2.1 f i,
   fun k => if k = 3 then (a + 1, elU (nm 1) a (nm 1 a)) else if k = 4 ∧ q = true then (g + 1, elU (nm 3) g (nm 3 g)) else S.2.2.2.2.2 k)
def bgM (M : aM) (a r s g w : Nat) (t : Int32) (q : Bool) : aM :=
  (fun k => if k = 30 then nI (a + 1) else if k = 48 ∧ q = true then nI (g + 1) else M.1 k,
   fun k j => if k = 31 ∧ j = a then nI r else if k = 32 ∧ j = a then nI s else if k = 33 ∧ j = a then t else if (34 ≤ k ∧ k ≤ 41) ∧ j = a then 0 else if k = 42 ∧ j = a then nI g else if k = 20 ∧ j = w then nI a else if k = 49 ∧ j = g ∧ q = true then nI a else if k = 50 ∧ j = g ∧ q = true then 0 else if k = 51 ∧ j = g ∧ q = true then 0 else M.2.1 k j,
   M.2.2)
theorem bgM_f {M : aM} {a r s g t : Nat} (ha : mN M 30 = a) : mBeginA M r s t g = bgM M a r s g (16 * r + s) (nI t) false := by
  unfold mBeginA bgM
  simp only []
  rw [ha]
  refine Prod.ext ?_ (Prod.ext ?_ rfl)
  · funext k
    unfold pS pA
    dsimp only
    by_cases e : k = 30
    · rw [if_pos e, if_pos e]
    · rw [if_neg e, if_neg e, if_neg (fun z => absurd z.2 (by decide))]
  · funext k j
    unfold pS pA
    dsimp only
    by_cases e : j = a
    · subst e
      by_cases c : 31 ≤ k ∧ k ≤ 42
      · rcases (by omega : k = 31 ∨ k = 32 ∨ k = 33 ∨ k = 34 ∨ k = 35 ∨ k = 36 ∨ k = 37 ∨ k = 38 ∨ k = 39 ∨ k = 40 ∨ k = 41 ∨ k = 42) with rfl | rfl | rfl | rfl | rfl | rfl | rfl | rfl | rfl | rfl | rfl | rfl <;> simp
      · have c1 : ¬ k = 31 ∧ ¬ k = 32 ∧ ¬ k = 33 ∧ ¬ k = 34 ∧ ¬ k = 35 ∧ ¬ k = 36 ∧ ¬ k = 37 ∧ ¬ k = 38 ∧ ¬ k = 39 ∧ ¬ k = 40 ∧ ¬ k = 41 ∧ ¬ k = 42 ∧ ¬ (34 ≤ k ∧ k ≤ 41) := by omega
        simp [c1] <;> grind
    · simp [e] <;> grind
theorem bgM_t {M : aM} {a r s g t : Nat} (ha : mN M 30 = a) (eA : mS M 30 = nI a) (eG : mS M 48 = nI g) : mBeginA (pS (pA (pA (pA M 49 g (mS M 30)) 50 g 0) 51 g 0) 48 (mS M 48 + 1)) r s t g = bgM M a r s g (16 * r + s) (nI t) true := by
  unfold mBeginA bgM
  simp only []
  rw [show mN (pS (pA (pA (pA M 49 g (mS M 30)) 50 g 0) 51 g 0) 48 (mS M 48 + 1)) 30 = a from ha, eA, eG, nI_1]
  refine Prod.ext ?_ (Prod.ext ?_ rfl)
  · funext k
    unfold pS pA
    dsimp only
    grind
  · funext k j
    unfold pS pA
    dsimp only
    by_cases e : j = a
    · subst e
      by_cases c : 31 ≤ k ∧ k ≤ 42
      · rcases (by omega : k = 31 ∨ k = 32 ∨ k = 33 ∨ k = 34 ∨ k = 35 ∨ k = 36 ∨ k = 37 ∨ k = 38 ∨ k = 39 ∨ k = 40 ∨ k = 41 ∨ k = 42) with rfl | rfl | rfl | rfl | rfl | rfl | rfl | rfl | rfl | rfl | rfl | rfl <;> simp
      · have c1 : ¬ k = 31 ∧ ¬ k = 32 ∧ ¬ k = 33 ∧ ¬ k = 34 ∧ ¬ k = 35 ∧ ¬ k = 36 ∧ ¬ k = 37 ∧ ¬ k = 38 ∧ ¬ k = 39 ∧ ¬ k = 40 ∧ ¬ k = 41 ∧ ¬ k = 42 ∧ ¬ (34 ≤ k ∧ k ≤ 41) := by omega
        simp [c1] <;> grind
    · simp [e] <;> grind
section BG
variable {S : awS} {M : aM} {a r s g w : Nat} {t : Int32} {q : Bool}
theorem bg_1 (j : Nat) : sI (bgS S a r s g w t q) 1 a j = (if j = 0 then nI a else if j = 4 then t else 0) := by simp [bgS, sI]
theorem bg_1o {i : Nat} (hi : ¬ i = a) (j : Nat) : sI (bgS S a r s g w t q) 1 i j = sI S 1 i j ∧ sR (bgS S a r s g w t q) 1 i j = sR S 1 i j := by simp [bgS, sI, sR, hi]
theorem bg_1r : sR (bgS S a r s g w t q) 1 a 1 = some (nm 6 r) ∧ sR (bgS S a r s g w t q) 1 a 2 = some (nm 9 s) ∧ sR (bgS S a r s g w t q) 1 a 3 = some (nm 3 g) := by simp [bgS, sR]
theorem bg_3o {i : Nat} (hi : q = true → ¬ i = g) (j : Nat) : sI (bgS S a r s g w t q) 3 i j = sI S 3 i j ∧ sR (bgS S a r s g w t q) 3 i j = sR S 3 i j := by
  have e : ¬ (i = g ∧ q = true) := fun z => hi z.2 z.1
  simp [bgS, sI, sR, e]
theorem bg_3 (hq : q = true) (j : Nat) : sI (bgS S a r s g w t q) 3 g j = 0 ∧ sR (bgS S a r s g w t q) 3 g 0 = some (nm 6 r) ∧ sR (bgS S a r s g w t q) 3 g 1 = some (nm 9 s) := by simp [bgS, sI, sR, hq]
theorem bg_oI {f : Nat} (hf : ¬ f = 1 ∧ ¬ f = 3) (i j : Nat) : sI (bgS S a r s g w t q) f i j = sI S f i j := by simp [bgS, sI, hf]
theorem bg_11 (i : Nat) : sR (bgS S a r s g w t q) 11 i 4 = if i = w then some (nm 1 a) else sR S 11 i 4 := by simp [bgS, sR]
theorem bg_11o {j : Nat} (hj : ¬ j = 4) (i : Nat) : sR (bgS S a r s g w t q) 11 i j = sR S 11 i j := by simp [bgS, sR, hj]
theorem bg_C1 : sC (bgS S a r s g w t q) 1 = a + 1 := by simp [bgS, sC]
theorem bg_C3 : sC (bgS S a r s g w t q) 3 = if q = true then g + 1 else sC S 3 := by simp [bgS, sC]
theorem bg_C {f : Nat} (hf : ¬ f = 1 ∧ ¬ f = 3) : sC (bgS S a r s g w t q) f = sC S f := by simp [bgS, sC, hf]
theorem bm_a {j : Nat} (hj : ¬ j = a) {k : Nat} (hk : 31 ≤ k ∧ k ≤ 42) : mA (bgM M a r s g w t q) k j = mA M k j := by
  have e1 : ¬ k = 20 := by omega
  have e2 : ¬ k = 49 := by omega
  have e3 : ¬ k = 50 := by omega
  have e4 : ¬ k = 51 := by omega
  simp [bgM, mA, hj, e1, e2, e3, e4]
theorem bm_n : mA (bgM M a r s g w t q) 31 a = nI r ∧ mA (bgM M a r s g w t q) 32 a = nI s ∧ mA (bgM M a r s g w t q) 33 a = t ∧ (∀ k, 34 ≤ k → k ≤ 41 → mA (bgM M a r s g w t q) k a = 0) ∧ mA (bgM M a r s g w t q) 42 a = nI g := by
  refine ⟨?_, ?_, ?_, fun k h1 h2 => ?_, ?_⟩
  · simp [bgM, mA]
  · simp [bgM, mA]
  · simp [bgM, mA]
  · have e1 : ¬ k = 31 := by omega
    have e2 : ¬ k = 32 := by omega
    have e3 : ¬ k = 33 := by omega
    simp [bgM, mA, e1, e2, e3, h1, h2]
  · simp [bgM, mA]
theorem bm_l (j : Nat) : mA (bgM M a r s g w t q) 20 j = if j = w then nI a else mA M 20 j := by simp [bgM, mA]
theorem bm_go {j : Nat} (hj : q = true → ¬ j = g) {k : Nat} (hk : 49 ≤ k ∧ k ≤ 51) : mA (bgM M a r s g w t q) k j = mA M k j := by
  have e1 : ¬ k = 20 := by omega
  have e2 : ¬ k = 31 := by omega
  have e3 : ¬ k = 32 := by omega
  have e4 : ¬ k = 33 := by omega
  have e5 : ¬ k ≤ 41 := by omega
  have e6 : ¬ k = 42 := by omega
  have e : ¬ (j = g ∧ q = true) := fun z => hj z.2 z.1
  simp [bgM, mA, e, e1, e2, e3, e4, e5, e6]
theorem bm_g (hq : q = true) : mA (bgM M a r s g w t q) 49 g = nI a ∧ mA (bgM M a r s g w t q) 50 g = 0 ∧ mA (bgM M a r s g w t q) 51 g = 0 := by
  simp [bgM, mA, hq]
theorem bm_o {k : Nat} (hk : ¬ (31 ≤ k ∧ k ≤ 42) ∧ ¬ k = 20 ∧ ¬ (49 ≤ k ∧ k ≤ 51)) (j : Nat) : mA (bgM M a r s g w t q) k j = mA M k j := by
  have e1 : ¬ k = 20 := by omega
  have e2 : ¬ k = 31 := by omega
  have e3 : ¬ k = 32 := by omega
  have e4 : ¬ k = 33 := by omega
  have e5 : ¬ (34 ≤ k ∧ k ≤ 41) := by omega
  have e6 : ¬ k = 42 := by omega
  have e7 : ¬ k = 49 := by omega
  have e8 : ¬ k = 50 := by omega
  have e9 : ¬ k = 51 := by omega
  simp [bgM, mA, e1, e2, e3, e4, e5, e6, e7, e8, e9]
theorem bm_S30 : mN (bgM M a r s g w t q) 30 = nN (nI (a + 1)) := by simp [bgM, mN, mS, nN]
theorem bm_S48 : mN (bgM M a r s g w t q) 48 = if q = true then nN (nI (g + 1)) else mN M 48 := by
  cases q <;> simp [bgM, mN, mS, nN]
end BG
theorem cLk_b : ∀ q ∈ cLk, q.1 = 1 ∨ q.1 = 3 ∨ ((¬ q.1 = 1 ∧ ¬ q.1 = 3) ∧ (¬ (31 ≤ q.2.2.1 ∧ q.2.2.1 ≤ 42) ∧ ¬ q.2.2.1 = 20 ∧ ¬ (49 ≤ q.2.2.1 ∧ q.2.2.1 ≤ 51)) ∧ ¬ q.2.2.2 = 30 ∧ ¬ q.2.2.2 = 48) := by decide
theorem cLk_1 : ∀ q ∈ cLk, q.1 = 1 → q.2.2.2 = 30 ∧ (¬ q.2.1 = 0) ∧ (31 ≤ q.2.2.1 ∧ q.2.2.1 ≤ 42) ∧ ((q.2.1 = 4 ∧ q.2.2.1 = 33) ∨ (¬ q.2.1 = 4 ∧ 34 ≤ q.2.2.1 ∧ q.2.2.1 ≤ 41)) := by decide
theorem cLk_3 : ∀ q ∈ cLk, q.1 = 3 → q.2.2.2 = 48 ∧ (49 ≤ q.2.2.1 ∧ q.2.2.1 ≤ 51) ∧ (q.2.2.1 = 50 ∨ q.2.2.1 = 51) := by decide

set_option maxHeartbeats 1000000 in
theorem cR.beg_x {τ : Nat → Nat → Nat} {S : awS} {M : aM} {a r s g w t : Nat} {q : Bool} (R : cR τ S M) (hr : r < mN M 6) (hs : s < mN M 2) (hw : w = 16 * r + s) (ha : mN M 30 = a) (ha3 : a < 300) (hg : (q = false ∧ g < mN M 48) ∨ (q = true ∧ g = mN M 48)) (ht : 0 < t ∧ t ≤ 400) : cIntX (bgS S a r s g w (nI t) q) (bgM M a r s g w (nI t) q) := by
  have hs16 : s < 16 := Nat.lt_of_lt_of_le hs R.nS
  have hr16 : r < 16 := Nat.lt_of_lt_of_le hr R.nR
  have hga := R.mI.ga
  have hN : mN (bgM M a r s g w (nI t) q) 30 = a + 1 := bm_S30.trans (nI_cl (by omega))
  have hG : mN (bgM M a r s g w (nI t) q) 48 = if q = true then g + 1 else mN M 48 := by
    rw [bm_S48]
    by_cases c : q = true
    · rw [if_pos c, if_pos c]; exact nI_cl (by rcases hg with z | z <;> omega)
    · rw [if_neg c, if_neg c]
  have hG2 : ∀ i, i < mN (bgM M a r s g w (nI t) q) 48 → (q = true ∧ i = g) ∨ (i < mN M 48 ∧ (q = true → ¬ i = g)) := fun i hi => by
    rw [hG] at hi
    rcases hg with ⟨z1, z2⟩ | ⟨z1, z2⟩
    · rw [if_neg (by rw [z1]; decide)] at hi
      exact Or.inr ⟨hi, fun y => by rw [z1] at y; exact absurd y (by decide)⟩
    · rw [if_pos z1] at hi
      by_cases e : i = g
      · exact Or.inl ⟨z1, e⟩
      · exact Or.inr ⟨by omega, fun _ => e⟩
  have hGl : mN M 48 ≤ mN (bgM M a r s g w (nI t) q) 48 := by
    rw [hG]
    rcases hg with ⟨z1, z2⟩ | ⟨z1, z2⟩
    · rw [if_neg (by rw [z1]; decide)]; exact Nat.le_refl _
    · rw [if_pos z1]; omega
  have hgN : g < mN (bgM M a r s g w (nI t) q) 48 := by
    rw [hG]
    rcases hg with ⟨z1, z2⟩ | ⟨z1, z2⟩
    · rw [if_neg (by rw [z1]; decide)]; exact z2
    · rw [if_pos z1]; omega
  have e31 : mE (bgM M a r s g w (nI t) q) 31 a = r := by unfold mE; rw [bm_n.1]; exact nI_cl (by omega)
  have e32 : mE (bgM M a r s g w (nI t) q) 32 a = s := by unfold mE; rw [bm_n.2.1]; exact nI_cl (by omega)
  have e42 : mE (bgM M a r s g w (nI t) q) 42 a = g := by unfold mE; rw [bm_n.2.2.2.2]; exact nI_cl (by rcases hg with z | z <;> omega)
  have o31 : ∀ i, i < a → mE (bgM M a r s g w (nI t) q) 31 i = mE M 31 i := fun i hi => by unfold mE; rw [bm_a (by omega) (by omega)]
  have o32 : ∀ i, i < a → mE (bgM M a r s g w (nI t) q) 32 i = mE M 32 i := fun i hi => by unfold mE; rw [bm_a (by omega) (by omega)]
  have o42 : ∀ i, i < a → mE (bgM M a r s g w (nI t) q) 42 i = mE M 42 i := fun i hi => by unfold mE; rw [bm_a (by omega) (by omega)]
  refine cInt_x.mp (fun c hc i hi => ?_)
  rcases cLk_b c hc with k | k | k
  · obtain ⟨k1, k2, k3, k4⟩ := cLk_1 c hc k
    have hi : i < cB (bgM M a r s g w (nI t) q) c.2.2.2 := hi
    rw [k1] at hi
    have hi : i < mN (bgM M a r s g w (nI t) q) 30 := hi
    rw [hN] at hi
    rw [k]
    by_cases e : i = a
    · rw [e, bg_1, if_neg k2]
      rcases k4 with ⟨y1, y2⟩ | ⟨y1, y2, y3⟩
      · rw [if_pos y1, y2]; exact bm_n.2.2.1.symm
      · rw [if_neg y1]; exact (bm_n.2.2.2.1 _ y2 y3).symm
    · rw [(bg_1o e c.2.1).1, bm_a e k3]
      have q0 := R.2.2.2.2.2.2.2.2.2.1 c hc i (by rw [k1]; show i < mN M 30; omega)
      rw [k] at q0
      exact q0
  · obtain ⟨k1, k2, k3⟩ := cLk_3 c hc k
    have hi : i < cB (bgM M a r s g w (nI t) q) c.2.2.2 := hi
    rw [k1] at hi
    rw [k]
    rcases hG2 i hi with ⟨y1, y2⟩ | ⟨y1, y2⟩
    · rw [y2, (bg_3 y1 c.2.1).1]
      rcases k3 with z | z
      · rw [z]; exact (bm_g y1).2.1.symm
      · rw [z]; exact (bm_g y1).2.2.symm
    · rw [(bg_3o y2 c.2.1).1, bm_go y2 k2]
      have q0 := R.2.2.2.2.2.2.2.2.2.1 c hc i (by rw [k1]; exact y1)
      rw [k] at q0
      exact q0
  · rw [bg_oI k.1, bm_o k.2.1]
    refine R.2.2.2.2.2.2.2.2.2.1 c hc i ?_
    have e : cB (bgM M a r s g w (nI t) q) c.2.2.2 = cB M c.2.2.2 := by
      unfold cB
      by_cases z : c.2.2.2 = 100
      · rw [if_pos z, if_pos z]; rfl
      · rw [if_neg z, if_neg z]
        by_cases z2 : c.2.2.2 = 101
        · rw [if_pos z2, if_pos z2]
        · rw [if_neg z2, if_neg z2]
          simp [bgM, mN, mS, k.2.2]
    rw [← e]
    exact hi
set_option maxHeartbeats 1000000 in
theorem cR.beg_ref {τ : Nat → Nat → Nat} {S : awS} {M : aM} {a r s g w t : Nat} {q : Bool} (R : cR τ S M) (hr : r < mN M 6) (hs : s < mN M 2) (hw : w = 16 * r + s) (ha : mN M 30 = a) (ha3 : a < 300) (hg : (q = false ∧ g < mN M 48) ∨ (q = true ∧ g = mN M 48)) (ht : 0 < t ∧ t ≤ 400) : cRef (bgS S a r s g w (nI t) q) (bgM M a r s g w (nI t) q) := by
  have hs16 : s < 16 := Nat.lt_of_lt_of_le hs R.nS
  have hr16 : r < 16 := Nat.lt_of_lt_of_le hr R.nR
  have hga := R.mI.ga
  have hN : mN (bgM M a r s g w (nI t) q) 30 = a + 1 := bm_S30.trans (nI_cl (by omega))
  have hG : mN (bgM M a r s g w (nI t) q) 48 = if q = true then g + 1 else mN M 48 := by
    rw [bm_S48]
    by_cases c : q = true
    · rw [if_pos c, if_pos c]; exact nI_cl (by rcases hg with z | z <;> omega)
    · rw [if_neg c, if_neg c]
  have hG2 : ∀ i, i < mN (bgM M a r s g w (nI t) q) 48 → (q = true ∧ i = g) ∨ (i < mN M 48 ∧ (q = true → ¬ i = g)) := fun i hi => by
    rw [hG] at hi
    rcases hg with ⟨z1, z2⟩ | ⟨z1, z2⟩
    · rw [if_neg (by rw [z1]; decide)] at hi
      exact Or.inr ⟨hi, fun y => by rw [z1] at y; exact absurd y (by decide)⟩
    · rw [if_pos z1] at hi
      by_cases e : i = g
      · exact Or.inl ⟨z1, e⟩
      · exact Or.inr ⟨by omega, fun _ => e⟩
  have hGl : mN M 48 ≤ mN (bgM M a r s g w (nI t) q) 48 := by
    rw [hG]
    rcases hg with ⟨z1, z2⟩ | ⟨z1, z2⟩
    · rw [if_neg (by rw [z1]; decide)]; exact Nat.le_refl _
    · rw [if_pos z1]; omega
  have hgN : g < mN (bgM M a r s g w (nI t) q) 48 := by
    rw [hG]
    rcases hg with ⟨z1, z2⟩ | ⟨z1, z2⟩
    · rw [if_neg (by rw [z1]; decide)]; exact z2
    · rw [if_pos z1]; omega
  have e31 : mE (bgM M a r s g w (nI t) q) 31 a = r := by unfold mE; rw [bm_n.1]; exact nI_cl (by omega)
  have e32 : mE (bgM M a r s g w (nI t) q) 32 a = s := by unfold mE; rw [bm_n.2.1]; exact nI_cl (by omega)
  have e42 : mE (bgM M a r s g w (nI t) q) 42 a = g := by unfold mE; rw [bm_n.2.2.2.2]; exact nI_cl (by rcases hg with z | z <;> omega)
  have o31 : ∀ i, i < a → mE (bgM M a r s g w (nI t) q) 31 i = mE M 31 i := fun i hi => by unfold mE; rw [bm_a (by omega) (by omega)]
  have o32 : ∀ i, i < a → mE (bgM M a r s g w (nI t) q) 32 i = mE M 32 i := fun i hi => by unfold mE; rw [bm_a (by omega) (by omega)]
  have o42 : ∀ i, i < a → mE (bgM M a r s g w (nI t) q) 42 i = mE M 42 i := fun i hi => by unfold mE; rw [bm_a (by omega) (by omega)]
  refine ⟨fun i hi => ?_, fun i hi => ?_, fun l hl => ?_⟩
  · rw [hN] at hi
    by_cases e : i = a
    · subst e
      rw [e31, e32, e42]
      exact bg_1r
    · rw [o31 i (by omega), o32 i (by omega), o42 i (by omega), (bg_1o e 1).2, (bg_1o e 2).2, (bg_1o e 3).2]
      exact R.ref.1 i (by omega)
  · rcases hG2 i hi with ⟨y1, y2⟩ | ⟨y1, y2⟩
    · rw [y2, show mE (bgM M a r s g w (nI t) q) 49 g = a from by unfold mE; rw [(bm_g y1).1]; exact nI_cl (by omega), e31, e32]
      exact (bg_3 y1 0).2
    · have hx := (R.inv.2.2.2.2.1 i y1).1
      rw [(bg_3o y2 0).2, (bg_3o y2 1).2, show mE (bgM M a r s g w (nI t) q) 49 i = mE M 49 i from by unfold mE; rw [bm_go y2 (by omega)], o31 _ (by omega), o32 _ (by omega)]
      exact R.ref.2.1 i y1
  · exact R.ref.2.2 l hl
theorem cR.beg_wat {τ : Nat → Nat → Nat} {S : awS} {M : aM} {a r s g w t : Nat} {q : Bool} (R : cR τ S M) (hr : r < mN M 6) (hs : s < mN M 2) (hw : w = 16 * r + s) (ha : mN M 30 = a) (ha3 : a < 300) (hg : (q = false ∧ g < mN M 48) ∨ (q = true ∧ g = mN M 48)) (ht : 0 < t ∧ t ≤ 400) : cWat (bgS S a r s g w (nI t) q) (bgM M a r s g w (nI t) q) := by
  have hs16 : s < 16 := Nat.lt_of_lt_of_le hs R.nS
  have hr16 : r < 16 := Nat.lt_of_lt_of_le hr R.nR
  have hga := R.mI.ga
  have hN : mN (bgM M a r s g w (nI t) q) 30 = a + 1 := bm_S30.trans (nI_cl (by omega))
  have hG : mN (bgM M a r s g w (nI t) q) 48 = if q = true then g + 1 else mN M 48 := by
    rw [bm_S48]
    by_cases c : q = true
    · rw [if_pos c, if_pos c]; exact nI_cl (by rcases hg with z | z <;> omega)
    · rw [if_neg c, if_neg c]
  have hG2 : ∀ i, i < mN (bgM M a r s g w (nI t) q) 48 → (q = true ∧ i = g) ∨ (i < mN M 48 ∧ (q = true → ¬ i = g)) := fun i hi => by
    rw [hG] at hi
    rcases hg with ⟨z1, z2⟩ | ⟨z1, z2⟩
    · rw [if_neg (by rw [z1]; decide)] at hi
      exact Or.inr ⟨hi, fun y => by rw [z1] at y; exact absurd y (by decide)⟩
    · rw [if_pos z1] at hi
      by_cases e : i = g
      · exact Or.inl ⟨z1, e⟩
      · exact Or.inr ⟨by omega, fun _ => e⟩
  have hGl : mN M 48 ≤ mN (bgM M a r s g w (nI t) q) 48 := by
    rw [hG]
    rcases hg with ⟨z1, z2⟩ | ⟨z1, z2⟩
    · rw [if_neg (by rw [z1]; decide)]; exact Nat.le_refl _
    · rw [if_pos z1]; omega
  have hgN : g < mN (bgM M a r s g w (nI t) q) 48 := by
    rw [hG]
    rcases hg with ⟨z1, z2⟩ | ⟨z1, z2⟩
    · rw [if_neg (by rw [z1]; decide)]; exact z2
    · rw [if_pos z1]; omega
  have e31 : mE (bgM M a r s g w (nI t) q) 31 a = r := by unfold mE; rw [bm_n.1]; exact nI_cl (by omega)
  have e32 : mE (bgM M a r s g w (nI t) q) 32 a = s := by unfold mE; rw [bm_n.2.1]; exact nI_cl (by omega)
  have e42 : mE (bgM M a r s g w (nI t) q) 42 a = g := by unfold mE; rw [bm_n.2.2.2.2]; exact nI_cl (by rcases hg with z | z <;> omega)
  have o31 : ∀ i, i < a → mE (bgM M a r s g w (nI t) q) 31 i = mE M 31 i := fun i hi => by unfold mE; rw [bm_a (by omega) (by omega)]
  have o32 : ∀ i, i < a → mE (bgM M a r s g w (nI t) q) 32 i = mE M 32 i := fun i hi => by unfold mE; rw [bm_a (by omega) (by omega)]
  have o42 : ∀ i, i < a → mE (bgM M a r s g w (nI t) q) 42 i = mE M 42 i := fun i hi => by unfold mE; rw [bm_a (by omega) (by omega)]
  intro w' hw'
  rw [bg_11]
  by_cases e : w' = w
  · rw [if_pos e, if_neg (show ¬ mA (bgM M a r s g w (nI t) q) 20 w' < 0 by rw [bm_l, if_pos e]; exact Int32.not_lt.mpr (nI_nn (by omega)))]
    have e2 : mE (bgM M a r s g w (nI t) q) 20 w' = a := by unfold mE; rw [bm_l, if_pos e]; exact nI_cl (by omega)
    rw [e2]
  · have e2 : mA (bgM M a r s g w (nI t) q) 20 w' = mA M 20 w' := by rw [bm_l, if_neg e]
    have e3 : mE (bgM M a r s g w (nI t) q) 20 w' = mE M 20 w' := by unfold mE; rw [e2]
    rw [if_neg e, e2, e3]
    exact R.wat w' hw'
theorem cR.beg_flg {τ : Nat → Nat → Nat} {S : awS} {M : aM} {a r s g w t : Nat} {q : Bool} (R : cR τ S M) (hr : r < mN M 6) (hs : s < mN M 2) (hw : w = 16 * r + s) (ha : mN M 30 = a) (ha3 : a < 300) (hg : (q = false ∧ g < mN M 48) ∨ (q = true ∧ g = mN M 48)) (ht : 0 < t ∧ t ≤ 400) : cFlg (bgS S a r s g w (nI t) q) (bgM M a r s g w (nI t) q) := by
  have hs16 : s < 16 := Nat.lt_of_lt_of_le hs R.nS
  have hr16 : r < 16 := Nat.lt_of_lt_of_le hr R.nR
  have hga := R.mI.ga
  have hN : mN (bgM M a r s g w (nI t) q) 30 = a + 1 := bm_S30.trans (nI_cl (by omega))
  have hG : mN (bgM M a r s g w (nI t) q) 48 = if q = true then g + 1 else mN M 48 := by
    rw [bm_S48]
    by_cases c : q = true
    · rw [if_pos c, if_pos c]; exact nI_cl (by rcases hg with z | z <;> omega)
    · rw [if_neg c, if_neg c]
  have hG2 : ∀ i, i < mN (bgM M a r s g w (nI t) q) 48 → (q = true ∧ i = g) ∨ (i < mN M 48 ∧ (q = true → ¬ i = g)) := fun i hi => by
    rw [hG] at hi
    rcases hg with ⟨z1, z2⟩ | ⟨z1, z2⟩
    · rw [if_neg (by rw [z1]; decide)] at hi
      exact Or.inr ⟨hi, fun y => by rw [z1] at y; exact absurd y (by decide)⟩
    · rw [if_pos z1] at hi
      by_cases e : i = g
      · exact Or.inl ⟨z1, e⟩
      · exact Or.inr ⟨by omega, fun _ => e⟩
  have hGl : mN M 48 ≤ mN (bgM M a r s g w (nI t) q) 48 := by
    rw [hG]
    rcases hg with ⟨z1, z2⟩ | ⟨z1, z2⟩
    · rw [if_neg (by rw [z1]; decide)]; exact Nat.le_refl _
    · rw [if_pos z1]; omega
  have hgN : g < mN (bgM M a r s g w (nI t) q) 48 := by
    rw [hG]
    rcases hg with ⟨z1, z2⟩ | ⟨z1, z2⟩
    · rw [if_neg (by rw [z1]; decide)]; exact z2
    · rw [if_pos z1]; omega
  have e31 : mE (bgM M a r s g w (nI t) q) 31 a = r := by unfold mE; rw [bm_n.1]; exact nI_cl (by omega)
  have e32 : mE (bgM M a r s g w (nI t) q) 32 a = s := by unfold mE; rw [bm_n.2.1]; exact nI_cl (by omega)
  have e42 : mE (bgM M a r s g w (nI t) q) 42 a = g := by unfold mE; rw [bm_n.2.2.2.2]; exact nI_cl (by rcases hg with z | z <;> omega)
  have o31 : ∀ i, i < a → mE (bgM M a r s g w (nI t) q) 31 i = mE M 31 i := fun i hi => by unfold mE; rw [bm_a (by omega) (by omega)]
  have o32 : ∀ i, i < a → mE (bgM M a r s g w (nI t) q) 32 i = mE M 32 i := fun i hi => by unfold mE; rw [bm_a (by omega) (by omega)]
  have o42 : ∀ i, i < a → mE (bgM M a r s g w (nI t) q) 42 i = mE M 42 i := fun i hi => by unfold mE; rw [bm_a (by omega) (by omega)]
  intro i hi
  rw [hN] at hi
  by_cases e : i = a
  · subst e
    have z := fun k h1 h2 => (bm_n (M := M) (a := i) (r := r) (s := s) (g := g) (w := w) (t := nI t) (q := q)).2.2.2.1 k h1 h2
    rw [z 34 (by decide) (by decide), z 35 (by decide) (by decide), z 36 (by decide) (by decide), z 37 (by decide) (by decide), z 39 (by decide) (by decide), bg_1, bg_1, bg_1, bg_1]
    exact ⟨fun _ => ⟨rfl, rfl, rfl, ⟨fun y => absurd rfl y, fun y => absurd y.1 (by decide)⟩⟩, fun y => absurd rfl y⟩
  · have q0 := R.flg i (by omega)
    rw [bm_a e (by decide), bm_a e (by decide), bm_a e (by decide), bm_a e (by decide), bm_a e (by decide), (bg_1o e 6).1, (bg_1o e 7).1, (bg_1o e 8).1, (bg_1o e 10).1]
    exact q0
set_option maxHeartbeats 1000000 in
theorem cR.beg_inv {τ : Nat → Nat → Nat} {S : awS} {M : aM} {a r s g w t : Nat} {q : Bool} (R : cR τ S M) (hr : r < mN M 6) (hs : s < mN M 2) (hw : w = 16 * r + s) (ha : mN M 30 = a) (ha3 : a < 300) (hg : (q = false ∧ g < mN M 48) ∨ (q = true ∧ g = mN M 48)) (ht : 0 < t ∧ t ≤ 400) (hl : mA M 20 w < 0) (hsite : ¬ (0 ≤ mA M 14 r ∧ ¬ mA M 14 r = mA M 3 s)) : cInv τ (bgM M a r s g w (nI t) q) := by
  have hs16 : s < 16 := Nat.lt_of_lt_of_le hs R.nS
  have hr16 : r < 16 := Nat.lt_of_lt_of_le hr R.nR
  have hga := R.mI.ga
  have hN : mN (bgM M a r s g w (nI t) q) 30 = a + 1 := bm_S30.trans (nI_cl (by omega))
  have hG : mN (bgM M a r s g w (nI t) q) 48 = if q = true then g + 1 else mN M 48 := by
    rw [bm_S48]
    by_cases c : q = true
    · rw [if_pos c, if_pos c]; exact nI_cl (by rcases hg with z | z <;> omega)
    · rw [if_neg c, if_neg c]
  have hG2 : ∀ i, i < mN (bgM M a r s g w (nI t) q) 48 → (q = true ∧ i = g) ∨ (i < mN M 48 ∧ (q = true → ¬ i = g)) := fun i hi => by
    rw [hG] at hi
    rcases hg with ⟨z1, z2⟩ | ⟨z1, z2⟩
    · rw [if_neg (by rw [z1]; decide)] at hi
      exact Or.inr ⟨hi, fun y => by rw [z1] at y; exact absurd y (by decide)⟩
    · rw [if_pos z1] at hi
      by_cases e : i = g
      · exact Or.inl ⟨z1, e⟩
      · exact Or.inr ⟨by omega, fun _ => e⟩
  have hGl : mN M 48 ≤ mN (bgM M a r s g w (nI t) q) 48 := by
    rw [hG]
    rcases hg with ⟨z1, z2⟩ | ⟨z1, z2⟩
    · rw [if_neg (by rw [z1]; decide)]; exact Nat.le_refl _
    · rw [if_pos z1]; omega
  have hgN : g < mN (bgM M a r s g w (nI t) q) 48 := by
    rw [hG]
    rcases hg with ⟨z1, z2⟩ | ⟨z1, z2⟩
    · rw [if_neg (by rw [z1]; decide)]; exact z2
    · rw [if_pos z1]; omega
  have e31 : mE (bgM M a r s g w (nI t) q) 31 a = r := by unfold mE; rw [bm_n.1]; exact nI_cl (by omega)
  have e32 : mE (bgM M a r s g w (nI t) q) 32 a = s := by unfold mE; rw [bm_n.2.1]; exact nI_cl (by omega)
  have e42 : mE (bgM M a r s g w (nI t) q) 42 a = g := by unfold mE; rw [bm_n.2.2.2.2]; exact nI_cl (by rcases hg with z | z <;> omega)
  have o31 : ∀ i, i < a → mE (bgM M a r s g w (nI t) q) 31 i = mE M 31 i := fun i hi => by unfold mE; rw [bm_a (by omega) (by omega)]
  have o32 : ∀ i, i < a → mE (bgM M a r s g w (nI t) q) 32 i = mE M 32 i := fun i hi => by unfold mE; rw [bm_a (by omega) (by omega)]
  have o42 : ∀ i, i < a → mE (bgM M a r s g w (nI t) q) 42 i = mE M 42 i := fun i hi => by unfold mE; rw [bm_a (by omega) (by omega)]
  refine ⟨R.inv.1, ?_, ?_, ?_, ?_, ?_, R.inv.2.2.2.2.2.2.1, R.inv.2.2.2.2.2.2.2.1, R.inv.2.2.2.2.2.2.2.2.1, R.inv.2.2.2.2.2.2.2.2.2.1, R.inv.2.2.2.2.2.2.2.2.2.2.1, R.inv.2.2.2.2.2.2.2.2.2.2.2⟩
  · intro r' s' hc hs' hr'
    have q0 := R.inv.2.1 r' s' hc hs' hr'
    refine ⟨q0.1, q0.2.1, q0.2.2.1, q0.2.2.2.1, ?_⟩
    have ne : ¬ 16 * r' + s' = w := fun y => by
      have e1 : r' = r := by omega
      have e2 : s' = s := by omega
      have hc2 : mN M 6 ≤ r' ∨ mN M 2 ≤ s' ∨ (0 ≤ mA M 14 r' ∧ ¬ mA M 14 r' = mA M 3 s') := hc
      rw [e1, e2] at hc2
      exact hc2.elim (fun z => by omega) (fun z => z.elim (fun z => by omega) hsite)
    show mA (bgM M a r s g w (nI t) q) 20 (16 * r' + s') < 0
    rw [bm_l, if_neg ne]
    exact q0.2.2.2.2
  · intro i hi
    rw [hN] at hi
    by_cases e : i = a
    · subst e
      have z := (bm_n (M := M) (a := i) (r := r) (s := s) (g := g) (w := w) (t := nI t) (q := q)).2.2.2.1 34 (by decide) (by decide)
      rw [e31, e32, e42, z, bm_n.2.2.1]
      refine ⟨hr, hs, hgN, nI_lt (a := 0) ht.1 (by omega), fun _ => ?_, Int32.le_refl _⟩
      have e2 : mA (bgM M i r s g w (nI t) q) 20 (16 * r + s) = nI i := by rw [bm_l, if_pos hw.symm]
      refine ⟨by unfold mE; rw [e2]; exact nI_cl (by omega), by rw [e2]; exact nI_nn (by omega)⟩
    · obtain ⟨q1, q2, q3, q4, q5, q6⟩ := R.inv.2.2.1 i (by omega)
      rw [o31 i (by omega), o32 i (by omega), o42 i (by omega), bm_a e (by decide), bm_a e (by decide)]
      refine ⟨q1, q2, Nat.lt_of_lt_of_le q3 hGl, q4, fun z => ?_, q6⟩
      have q5 := q5 z
      have ne : ¬ 16 * mE M 31 i + mE M 32 i = w := fun y => by
        rw [y] at q5
        exact absurd hl (Int32.not_lt.mpr q5.2)
      have e2 : mA (bgM M a r s g w (nI t) q) 20 (16 * mE M 31 i + mE M 32 i) = mA M 20 (16 * mE M 31 i + mE M 32 i) := by rw [bm_l, if_neg ne]
      unfold mE at e2 q5 ⊢
      rw [e2]
      exact q5
  · intro w' hw' h0
    have h0 : 0 ≤ mA (bgM M a r s g w (nI t) q) 20 w' := h0
    by_cases e : w' = w
    · have e2 : mE (bgM M a r s g w (nI t) q) 20 w' = a := by unfold mE; rw [bm_l, if_pos e]; exact nI_cl (by omega)
      rw [e2, e31, e32, hN]
      exact ⟨Nat.lt_succ_self a, by omega, bm_n.2.2.2.1 _ (by decide) (by decide)⟩
    · rw [bm_l, if_neg e] at h0
      obtain ⟨q1, q2, q3⟩ := R.inv.2.2.2.1 w' hw' h0
      have e2 : mE (bgM M a r s g w (nI t) q) 20 w' = mE M 20 w' := by unfold mE; rw [bm_l, if_neg e]
      rw [e2, o31 _ (by omega), o32 _ (by omega), bm_a (by omega) (by decide), hN]
      exact ⟨by omega, q2, q3⟩
  · intro i hi
    rcases hG2 i hi with ⟨y1, y2⟩ | ⟨y1, y2⟩
    · rw [y2, show mE (bgM M a r s g w (nI t) q) 49 g = a from by unfold mE; rw [(bm_g y1).1]; exact nI_cl (by omega), hN, (bm_g y1).2.1]
      exact ⟨Nat.lt_succ_self a, nI_nn (by have : mN M 1 ≤ 400 := R.nC; show mN M 1 + 1 < _; omega)⟩
    · obtain ⟨q1, q2⟩ := R.inv.2.2.2.2.1 i y1
      rw [show mE (bgM M a r s g w (nI t) q) 49 i = mE M 49 i from by unfold mE; rw [bm_go y2 (by omega)], hN, bm_go y2 (by omega)]
      exact ⟨by omega, q2⟩
  · intro l hl2
    obtain ⟨q1, q2⟩ := R.inv.2.2.2.2.2.1 l hl2
    exact ⟨Nat.lt_of_lt_of_le q1 hGl, q2⟩
set_option maxHeartbeats 1000000 in
theorem cR.beg {τ : Nat → Nat → Nat} {S : awS} {M : aM} {a r s g w t : Nat} {q : Bool} (R : cR τ S M) (hr : r < mN M 6) (hs : s < mN M 2) (hw : w = 16 * r + s) (ha : mN M 30 = a) (ha3 : a < 300) (hg : (q = false ∧ g < mN M 48) ∨ (q = true ∧ g = mN M 48)) (ht : 0 < t ∧ t ≤ 400) (hl : mA M 20 w < 0) (hsite : ¬ (0 ≤ mA M 14 r ∧ ¬ mA M 14 r = mA M 3 s)) (hI : mIx 0 (bgM M a r s g w (nI t) q)) : cR τ (bgS S a r s g w (nI t) q) (bgM M a r s g w (nI t) q) := by
  have hs16 : s < 16 := Nat.lt_of_lt_of_le hs R.nS
  have hr16 : r < 16 := Nat.lt_of_lt_of_le hr R.nR
  have hga := R.mI.ga
  have hN : mN (bgM M a r s g w (nI t) q) 30 = a + 1 := bm_S30.trans (nI_cl (by omega))
  have hG : mN (bgM M a r s g w (nI t) q) 48 = if q = true then g + 1 else mN M 48 := by
    rw [bm_S48]
    by_cases c : q = true
    · rw [if_pos c, if_pos c]; exact nI_cl (by rcases hg with z | z <;> omega)
    · rw [if_neg c, if_neg c]
  have hG2 : ∀ i, i < mN (bgM M a r s g w (nI t) q) 48 → (q = true ∧ i = g) ∨ (i < mN M 48 ∧ (q = true → ¬ i = g)) := fun i hi => by
    rw [hG] at hi
    rcases hg with ⟨z1, z2⟩ | ⟨z1, z2⟩
    · rw [if_neg (by rw [z1]; decide)] at hi
      exact Or.inr ⟨hi, fun y => by rw [z1] at y; exact absurd y (by decide)⟩
    · rw [if_pos z1] at hi
      by_cases e : i = g
      · exact Or.inl ⟨z1, e⟩
      · exact Or.inr ⟨by omega, fun _ => e⟩
  have hGl : mN M 48 ≤ mN (bgM M a r s g w (nI t) q) 48 := by
    rw [hG]
    rcases hg with ⟨z1, z2⟩ | ⟨z1, z2⟩
    · rw [if_neg (by rw [z1]; decide)]; exact Nat.le_refl _
    · rw [if_pos z1]; omega
  have hgN : g < mN (bgM M a r s g w (nI t) q) 48 := by
    rw [hG]
    rcases hg with ⟨z1, z2⟩ | ⟨z1, z2⟩
    · rw [if_neg (by rw [z1]; decide)]; exact z2
    · rw [if_pos z1]; omega
  have e31 : mE (bgM M a r s g w (nI t) q) 31 a = r := by unfold mE; rw [bm_n.1]; exact nI_cl (by omega)
  have e32 : mE (bgM M a r s g w (nI t) q) 32 a = s := by unfold mE; rw [bm_n.2.1]; exact nI_cl (by omega)
  have e42 : mE (bgM M a r s g w (nI t) q) 42 a = g := by unfold mE; rw [bm_n.2.2.2.2]; exact nI_cl (by rcases hg with z | z <;> omega)
  have o31 : ∀ i, i < a → mE (bgM M a r s g w (nI t) q) 31 i = mE M 31 i := fun i hi => by unfold mE; rw [bm_a (by omega) (by omega)]
  have o32 : ∀ i, i < a → mE (bgM M a r s g w (nI t) q) 32 i = mE M 32 i := fun i hi => by unfold mE; rw [bm_a (by omega) (by omega)]
  have o42 : ∀ i, i < a → mE (bgM M a r s g w (nI t) q) 42 i = mE M 42 i := fun i hi => by unfold mE; rw [bm_a (by omega) (by omega)]
  have hc3 : sC S 3 = mN M 48 := R.cx.2.2.2.2.2.2.2.2.2.2.2.2.1.trans (Nat.one_mul _)
  refine cR.mk' (hI) (R.tow.cg (fun _ => rfl) (fun _ => rfl) rfl rfl rfl (fun q hq => bg_C ⟨by omega, by omega⟩)) (⟨R.lst.1, R.lst.2.1, R.lst.2.2.1, ?_, ?_, R.lst.2.2.2.2.2⟩) (⟨R.cx.1, R.cx.2.1, R.cx.2.2.1, R.cx.2.2.2.1, R.cx.2.2.2.2.1, R.cx.2.2.2.2.2.1, R.cx.2.2.2.2.2.2.1, R.cx.2.2.2.2.2.2.2.1, R.cx.2.2.2.2.2.2.2.2.1, R.cx.2.2.2.2.2.2.2.2.2.1, R.cx.2.2.2.2.2.2.2.2.2.2.1, ?_, ?_, R.cx.2.2.2.2.2.2.2.2.2.2.2.2.2.1, R.cx.2.2.2.2.2.2.2.2.2.2.2.2.2.2.1, R.cx.2.2.2.2.2.2.2.2.2.2.2.2.2.2.2⟩) R.cnt.2.1 R.cnt.2.2 R.src (?_) (?_) R.ltr R.brd (R.beg_x hr hs hw ha ha3 hg ht) R.la R.sca R.val (R.beg_ref hr hs hw ha ha3 hg ht) (R.beg_wat hr hs hw ha ha3 hg ht) (R.beg_flg hr hs hw ha ha3 hg ht) R.tru R.hld R.lea R.row (?_) (R.beg_inv hr hs hw ha ha3 hg ht hl hsite)
  · show ((a + 1, elU (nm 1) a (nm 1 a)) : Nat × (Nat → Nat)) = _
    rw [hN, elU_nm]
  · show (if 4 = 4 ∧ q = true then ((g + 1, elU (nm 3) g (nm 3 g)) : Nat × (Nat → Nat)) else sK S 4) = _
    rw [hG, R.lst.2.2.2.2.1, elU_nm]
    by_cases c : q = true
    · rw [if_pos ⟨rfl, c⟩, if_pos c]
    · rw [if_neg (fun z => c z.2), if_neg c]
  · rw [bg_C1, hN]; omega
  · rw [bg_C3, hG]
    by_cases c : q = true
    · rw [if_pos c, if_pos c]; omega
    · rw [if_neg c, if_neg c, hc3]; omega
  · intro i hi
    obtain ⟨q1, q2, q3, q4, q5, q6, q7, q8, q9, q10⟩ := R.rul i hi
    refine ⟨q1, q2, q3, q4, q5, q6, q7, q8, q9, fun s' hs' => ?_⟩
    obtain ⟨w1, w2, w3⟩ := q10 s' hs'
    exact ⟨w1, (bg_11o (by decide) _).trans w2, w3⟩
  · intro i hi
    rw [hN] at hi
    by_cases e : i = a
    · rw [e, bg_1, if_pos rfl]
    · rw [(bg_1o e 0).1]; exact R.ala i (by omega)
  · intro d hd
    obtain ⟨q1, q2, q3, q4⟩ := R.bdr d hd
    exact ⟨q1, q2, fun z => by rw [hN]; exact Nat.lt_succ_of_lt (ha ▸ q3 z), q4⟩
theorem cFm.bg {S : awS} {a r s g w : Nat} {t : Int32} {q : Bool} : cFm S (bgS S a r s g w t q) := fun f hf => by
  unfold fmOk at hf
  have e : ¬ f = 1 ∧ ¬ f = 3 ∧ ¬ f = 11 := by omega
  simp [bgS, sI, sL, sR, sN, sC, e]

