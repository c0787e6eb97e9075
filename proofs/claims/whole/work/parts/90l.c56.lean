def tU (τ : Nat → Nat → Nat) (r s t : Nat) : Nat → Nat → Nat := fun r' s' => if r' = r ∧ s' = s then t else τ r' s'
def noX (S : awS) (r w : Nat) (v : Int32) : awS := imA (noN S w v) r w 10
def noM (M : aM) (x t : Nat) (v : Int32) : aM := (M.1, fun k j => if k = 16 ∧ j = 401 * x + t then v + 1 else if k = 17 ∧ j = x then nvK v (mA M 17 x) else if k = 18 ∧ j = x then nvT v (mA M 18 x) else if k = 19 ∧ j = x then nvF v (mA M 19 x) else M.2.1 k j, M.2.2)
theorem noM_e {M : aM} {x t : Nat} {v : Int32} (hv : v = -1 ∨ v = 0 ∨ v = 1) : mNote M x t v = noM M x t v := by
  unfold mNote noM
  rcases hv with e | e | e
  · subst e
    rw [if_neg (by decide), if_neg (by decide), if_pos (by decide)]
    refine Prod.ext rfl (Prod.ext ?_ rfl)
    funext k j
    rw [show nvK (-1) (mA M 17 x) = mA M 17 x from if_pos (by decide), show nvT (-1) (mA M 18 x) = mA M 18 x from rfl, show nvF (-1) (mA M 19 x) = mA M 19 x from rfl]
    unfold pA mA
    dsimp only
    grind
  · subst e
    rw [if_neg (by decide), if_pos rfl, if_neg (by decide)]
    refine Prod.ext rfl (Prod.ext ?_ rfl)
    funext k j
    rw [show nvK 0 (mA M 17 x) = 0 from if_neg (by decide), show nvT 0 (mA M 18 x) = 0 from rfl, show nvF 0 (mA M 19 x) = mA M 19 x + 1 from rfl]
    unfold pA mA
    dsimp only
    grind
  · subst e
    rw [if_pos rfl, if_neg (by decide)]
    refine Prod.ext rfl (Prod.ext ?_ rfl)
    funext k j
    rw [show nvK 1 (mA M 17 x) = 1 from if_neg (by decide), show nvT 1 (mA M 18 x) = mA M 18 x + 1 from rfl, show nvF 1 (mA M 19 x) = 0 from rfl]
    unfold pA mA
    dsimp only
    grind
section NX
variable {S : awS} {r w : Nat} {v : Int32}
theorem nx_11o {i : Nat} (hi : ¬ i = w) (j : Nat) : sI (noX S r w v) 11 i j = sI S 11 i j := by
  simp [noX, imA, noN, sI, hi]
theorem nx_11 : sI (noX S r w v) 11 w 0 = v ∧ sI (noX S r w v) 11 w 1 = nvK v (sI S 11 w 1) ∧ sI (noX S r w v) 11 w 2 = nvT v (sI S 11 w 2) ∧ sI (noX S r w v) 11 w 3 = nvF v (sI S 11 w 3) := by
  simp [noX, imA, noN, sI]
theorem nx_22o {i : Nat} (hi : ¬ i = w) (j : Nat) : sI (noX S r w v) 22 i j = sI S 22 i j := by
  simp [noX, imA, noN, sI, hi]
theorem nx_20o {i : Nat} (hi : ¬ i = r) (j : Nat) : sI (noX S r w v) 20 i j = sI S 20 i j := by
  simp [noX, imA, noN, sI, hi]
theorem nx_22 {j : Nat} (h1 : 1 ≤ j) (h2 : j ≤ 10) : sI (noX S r w v) 22 w j = if sI S 22 w j = 0 ∧ nI j ≤ nvT v (sI S 11 w 2) then 1 else if ¬ sI S 22 w j = 0 ∧ sI S 6 r 5 ≤ nvF v (sI S 11 w 3) then 0 else sI S 22 w j := by
  have e : (1 ≤ j ∧ j ≤ 10) := ⟨h1, h2⟩
  simp [noX, imA, imC, imD, noN, sI, e]
  rfl
theorem nx_20 {j : Nat} (h1 : 1 ≤ j) (h2 : j ≤ 10) : sI (noX S r w v) 20 r j = if sI S 22 w j = 0 ∧ nI j ≤ nvT v (sI S 11 w 2) then sI S 20 r j + 1 else sI S 20 r j := by
  have e : (1 ≤ j ∧ j ≤ 10) := ⟨h1, h2⟩
  simp [noX, imA, imC, noN, sI, e]
  rfl
theorem nx_oI {f : Nat} (hf : ¬ f = 11 ∧ ¬ f = 20 ∧ ¬ f = 22) (i j : Nat) : sI (noX S r w v) f i j = sI S f i j := by
  simp [noX, imA, noN, sI, hf]
end NX
section NM
variable {M : aM} {x t : Nat} {v : Int32}
theorem nm_o {k : Nat} (hk : ¬ k = 16 ∧ ¬ k = 17 ∧ ¬ k = 18 ∧ ¬ k = 19) (j : Nat) : mA (noM M x t v) k j = mA M k j := by
  simp [noM, mA, hk]
theorem nm_x : mA (noM M x t v) 17 x = nvK v (mA M 17 x) ∧ mA (noM M x t v) 18 x = nvT v (mA M 18 x) ∧ mA (noM M x t v) 19 x = nvF v (mA M 19 x) := by
  simp [noM, mA]
theorem nm_xo {j : Nat} (hj : ¬ j = x) : mA (noM M x t v) 17 j = mA M 17 j ∧ mA (noM M x t v) 18 j = mA M 18 j ∧ mA (noM M x t v) 19 j = mA M 19 j := by
  simp [noM, mA, hj]
theorem nm_t (j : Nat) : mA (noM M x t v) 16 j = if j = 401 * x + t then v + 1 else mA M 16 j := by
  simp [noM, mA]
theorem nm_tru {r s : Nat} (hx : x = 16 * r + s) : mTru (noM M x t v) r s t = v := by
  unfold mTru
  rw [nm_t, hx, if_pos rfl]
  exact Int32.add_sub_cancel v 1
theorem nm_truo {r s u : Nat} (hu : u ≤ 400) (ht : t ≤ 400) (h : ¬ (16 * r + s = x ∧ u = t)) : mTru (noM M x t v) r s u = mTru M r s u := by
  unfold mTru
  rw [nm_t, if_neg (by omega)]
end NM
theorem mIter_cg {α : Type} {f g : Nat → α → α} {a : α} : ∀ n, (∀ k, k < n → ∀ x, f k x = g k x) → mIter f n a = mIter g n a
  | 0, _ => rfl
  | n + 1, h => by
    show f n (mIter f n a) = g n (mIter g n a)
    rw [mIter_cg n (fun k hk => h k (by omega)), h n (Nat.lt_succ_self n)]
theorem leA_cgb {M M' : aM} {r p s t : Nat} (h1 : mA M' 12 r = mA M 12 r) (h2 : mA M' 15 r = mA M 15 r) (h3 : ∀ u, u ≤ t → mTru M' r s u = mTru M r s u) : leA M' r p s t = leA M r p s t := by
  have e : mE M' 15 r = mE M 15 r := by unfold mE; rw [h2]
  unfold leA
  rw [e]
  refine mIter_cg _ (fun k hk x => ?_)
  unfold mLeF
  rw [h1, e, h3 _ (by omega)]
theorem leA_s {M : aM} {r p s t : Nat} (hC : mE M 15 r ≤ t + 1) : leA M r p s (t + 1) = mLeastT (nI p) (mA M 12 r) (mTru M r s (t + 1)) (leA M r p s t) := by
  unfold leA
  rw [show t + 1 + 1 - mE M 15 r = (t + 1 - mE M 15 r) + 1 by omega]
  show mLeF M r (nI p) s (t + 1 - mE M 15 r) _ = _
  unfold mLeF
  rw [show mE M 15 r + (t + 1 - mE M 15 r) = t + 1 by omega]
theorem leastT_v (p e v : Int32) (a : Int32 × Int32 × Bool × Nat) : (mLeastT p e v a).1 = nvT v a.1 ∧ (mLeastT p e v a).2.1 = nvF v a.2.1 ∧ (mLeastT p e v a).2.2.1 = (if a.2.2.1 = false ∧ p ≤ nvT v a.1 then true else if a.2.2.1 = true ∧ e ≤ nvF v a.2.1 then false else a.2.2.1) ∧ (mLeastT p e v a).2.2.2 = a.2.2.2 + (if a.2.2.1 = false ∧ p ≤ nvT v a.1 then 1 else 0) := by
  unfold mLeastT
  show (if a.2.2.1 = false ∧ p ≤ nvT v a.1 then (nvT v a.1, nvF v a.2.1, true, a.2.2.2 + 1) else if a.2.2.1 = true ∧ e ≤ nvF v a.2.1 then (nvT v a.1, nvF v a.2.1, false, a.2.2.2) else (nvT v a.1, nvF v a.2.1, a.2.2.1, a.2.2.2)).1 = nvT v a.1 ∧ (if a.2.2.1 = false ∧ p ≤ nvT v a.1 then (nvT v a.1, nvF v a.2.1, true, a.2.2.2 + 1) else if a.2.2.1 = true ∧ e ≤ nvF v a.2.1 then (nvT v a.1, nvF v a.2.1, false, a.2.2.2) else (nvT v a.1, nvF v a.2.1, a.2.2.1, a.2.2.2)).2.1 = nvF v a.2.1 ∧ (if a.2.2.1 = false ∧ p ≤ nvT v a.1 then (nvT v a.1, nvF v a.2.1, true, a.2.2.2 + 1) else if a.2.2.1 = true ∧ e ≤ nvF v a.2.1 then (nvT v a.1, nvF v a.2.1, false, a.2.2.2) else (nvT v a.1, nvF v a.2.1, a.2.2.1, a.2.2.2)).2.2.1 = _ ∧ (if a.2.2.1 = false ∧ p ≤ nvT v a.1 then (nvT v a.1, nvF v a.2.1, true, a.2.2.2 + 1) else if a.2.2.1 = true ∧ e ≤ nvF v a.2.1 then (nvT v a.1, nvF v a.2.1, false, a.2.2.2) else (nvT v a.1, nvF v a.2.1, a.2.2.1, a.2.2.2)).2.2.2 = _
  by_cases c1 : a.2.2.1 = false ∧ p ≤ nvT v a.1
  · simp [c1]
  · rw [if_neg c1, if_neg c1, if_neg c1]
    by_cases c2 : a.2.2.1 = true ∧ e ≤ nvF v a.2.1
    · simp [c2]
    · rw [if_neg c2, if_neg c2]
      exact ⟨rfl, rfl, rfl, rfl⟩
theorem leSum_pt {M M' : aM} {τ τ' : Nat → Nat → Nat} {r p s d : Nat} : ∀ {n : Nat}, (∀ s', ¬ s' = s → s' < n → leA M' r p s' (τ' r s') = leA M r p s' (τ r s')) → (leA M' r p s (τ' r s)).2.2.2 = (leA M r p s (τ r s)).2.2.2 + d → s < n → leSum τ' M' r p n = leSum τ M r p n + d
  | 0, _, _, h => absurd h (Nat.not_lt_zero s)
  | n + 1, h1, h2, h => by
    show leSum τ' M' r p n + _ = leSum τ M r p n + _ + d
    by_cases e : s = n
    · subst e
      rw [leSum_cg (M := M) (M' := M') (τ := τ) (τ' := τ') (n := s) (fun s' hs' => h1 s' (by omega) (by omega)), h2]
      omega
    · rw [leSum_pt (n := n) (fun s' a b => h1 s' a (by omega)) h2 (by omega), h1 n (fun z => e z.symm) (Nat.lt_succ_self n)]
      omega

theorem cLk_n : ∀ q ∈ cLk, q.1 = 11 ∨ ((¬ q.1 = 11 ∧ ¬ q.1 = 20 ∧ ¬ q.1 = 22) ∧ ¬ q.2.2.1 = 16 ∧ ¬ q.2.2.1 = 17 ∧ ¬ q.2.2.1 = 18 ∧ ¬ q.2.2.1 = 19) := by decide
theorem cR.note_x {τ : Nat → Nat → Nat} {S : awS} {M : aM} {r s t : Nat} {v : Int32} (R : cR τ S M) (hr : r < mN M 6) (hs : s < mN M 2) (hτ : τ r s = t) (ht : t + 1 ≤ 400) (hC : mN M 1 = t) : cIntX (noX S r (16 * r + s) v) (noM M (16 * r + s) (t + 1) v) := by
  have hs16 : s < 16 := Nat.lt_of_lt_of_le hs R.nS
  have hr16 : r < 16 := Nat.lt_of_lt_of_le hr R.nR
  refine cInt_x.mp (fun q hq i hi => ?_)
  rcases cLk_n q hq with c | c
  · have hi : i < 16 * mN M 6 := by
      rcases cLk_11 q hq c with rfl | rfl | rfl
      · exact hi
      · exact hi
      · exact hi
    rcases cLk_11 q hq c with rfl | rfl | rfl
    · show sI (noX S r (16 * r + s) v) 11 i 1 = mA (noM M (16 * r + s) (t + 1) v) 17 i
      have q0 := R.int (f := 11) (k := 1) (m := 17) (q := 100) (by decide) (i := i) hi
      by_cases e : i = (16 * r + s)
      · subst e; rw [nx_11.2.1, nm_x.1, q0]
      · rw [nx_11o e, (nm_xo e).1, q0]
    · show sI (noX S r (16 * r + s) v) 11 i 2 = mA (noM M (16 * r + s) (t + 1) v) 18 i
      have q0 := R.int (f := 11) (k := 2) (m := 18) (q := 100) (by decide) (i := i) hi
      by_cases e : i = (16 * r + s)
      · subst e; rw [nx_11.2.2.1, nm_x.2.1, q0]
      · rw [nx_11o e, (nm_xo e).2.1, q0]
    · show sI (noX S r (16 * r + s) v) 11 i 3 = mA (noM M (16 * r + s) (t + 1) v) 19 i
      have q0 := R.int (f := 11) (k := 3) (m := 19) (q := 100) (by decide) (i := i) hi
      by_cases e : i = (16 * r + s)
      · subst e; rw [nx_11.2.2.2, nm_x.2.2, q0]
      · rw [nx_11o e, (nm_xo e).2.2, q0]
  · rw [nx_oI c.1, nm_o c.2]
    exact R.2.2.2.2.2.2.2.2.2.1 q hq i hi
theorem cR.note_tru {τ : Nat → Nat → Nat} {S : awS} {M : aM} {r s t : Nat} {v : Int32} (R : cR τ S M) (hr : r < mN M 6) (hs : s < mN M 2) (hτ : τ r s = t) (ht : t + 1 ≤ 400) (hC : mN M 1 = t) (hb : ∀ r s, τ r s ≤ 400) : cTru (tU τ r s (t + 1)) (noX S r (16 * r + s) v) (noM M (16 * r + s) (t + 1) v) := by
  have hs16 : s < 16 := Nat.lt_of_lt_of_le hs R.nS
  have hr16 : r < 16 := Nat.lt_of_lt_of_le hr R.nR
  intro r' s' hr' hs'
  have hr' : r' < mN M 6 := hr'
  unfold tU
  by_cases e : r' = r ∧ s' = s
  · obtain ⟨rfl, rfl⟩ := e
    rw [if_pos ⟨rfl, rfl⟩, nx_11.1, nm_tru rfl]
  · have ne : ¬ 16 * r' + s' = (16 * r + s) := by omega
    rw [if_neg e, nx_11o ne, nm_truo (hb _ _) ht (fun z => ne z.1)]
    exact R.tru r' s' hr' hs'
set_option maxHeartbeats 1000000 in
theorem cR.note_lea {τ : Nat → Nat → Nat} {S : awS} {M : aM} {r s t : Nat} {v : Int32} (R : cR τ S M) (hr : r < mN M 6) (hs : s < mN M 2) (hτ : τ r s = t) (ht : t + 1 ≤ 400) (hC : mN M 1 = t) (hb : ∀ r s, τ r s ≤ 400) : cLea (tU τ r s (t + 1)) (noX S r (16 * r + s) v) (noM M (16 * r + s) (t + 1) v) := by
  have hs16 : s < 16 := Nat.lt_of_lt_of_le hs R.nS
  have hr16 : r < 16 := Nat.lt_of_lt_of_le hr R.nR
  intro r' p hr' hp1 hp2
  have hr' : r' < mN M 6 := hr'
  obtain ⟨q1, q2⟩ := R.lea r' p hr' hp1 hp2
  have hE : ∀ r', mA (noM M (16 * r + s) (t + 1) v) 12 r' = mA M 12 r' := fun r' => nm_o ⟨by decide, by decide, by decide, by decide⟩ r'
  have hCm : ∀ r', mA (noM M (16 * r + s) (t + 1) v) 15 r' = mA M 15 r' := fun r' => nm_o ⟨by decide, by decide, by decide, by decide⟩ r'
  have old : ∀ s', s' < 16 → ¬ 16 * r' + s' = (16 * r + s) → leA (noM M (16 * r + s) (t + 1) v) r' p s' (tU τ r s (t + 1) r' s') = leA M r' p s' (τ r' s') := fun s' hs' ne => by
    have e : ¬ (r' = r ∧ s' = s) := by omega
    rw [show tU τ r s (t + 1) r' s' = τ r' s' from if_neg e]
    exact leA_cgb (hE r') (hCm r') (fun u hu => nm_truo (Nat.le_trans hu (hb r' s')) ht (fun z => ne z.1))
  by_cases e : r' = r
  · subst e
    have a1 : leA M r' p s (τ r' s) = leA M r' p s t := by rw [hτ]
    have a2 : leA (noM M (16 * r' + s) (t + 1) v) r' p s (tU τ r' s (t + 1) r' s) = mLeastT (nI p) (mA M 12 r') v (leA M r' p s (τ r' s)) := by
      rw [show tU τ r' s (t + 1) r' s = t + 1 from if_pos ⟨rfl, rfl⟩, leA_s (by unfold mE; rw [hCm]; have := (R.inv.2.2.2.2.2.2.1 r' hr').2.2.1; unfold mE at this; omega), nm_tru rfl, hE, a1]
      exact congrArg _ (leA_cgb (hE r') (hCm r') (fun u hu => nm_truo (by omega) ht (fun z => by omega)))
    have lv := leastT_v (nI p) (mA M 12 r') v (leA M r' p s (τ r' s))
    obtain ⟨b1, b2, b3⟩ := q2 s hs16
    have hw := R.wat3 hr' hs16
    have x2 : sI S 11 (16 * r' + s) 2 = mA M 18 (16 * r' + s) := R.int (f := 11) (k := 2) (m := 18) (q := 100) (by decide) hw
    have x3 : sI S 11 (16 * r' + s) 3 = mA M 19 (16 * r' + s) := R.int (f := 11) (k := 3) (m := 19) (q := 100) (by decide) hw
    have x5 : sI S 6 r' 5 = mA M 12 r' := R.int (f := 6) (k := 5) (m := 12) (q := 6) (by decide) hr'
    have z0 : sI S 22 (16 * r' + s) p = 0 ↔ (leA M r' p s (τ r' s)).2.2.1 = false := by
      rw [b3]
      cases (leA M r' p s (τ r' s)).2.2.1 <;> simp
    refine ⟨?_, fun s' hs' => ?_⟩
    · rw [leSum_pt (M := M) (τ := τ) (s := s) (d := if (leA M r' p s (τ r' s)).2.2.1 = false ∧ nI p ≤ nvT v (leA M r' p s (τ r' s)).1 then 1 else 0) (fun s' ns hs' => old s' hs' (by omega)) (by rw [a2, lv.2.2.2]) hs16, nx_20 hp1 hp2, x2, ← b1, q1]
      by_cases c : (leA M r' p s (τ r' s)).2.2.1 = false ∧ nI p ≤ nvT v (leA M r' p s (τ r' s)).1
      · rw [if_pos c, if_pos ⟨z0.mpr c.1, c.2⟩, nI_1]
      · rw [if_neg c, if_neg (fun w => c ⟨z0.mp w.1, w.2⟩), Nat.add_zero]
    · by_cases es : s' = s
      · subst es
        rw [a2, lv.1, lv.2.1, lv.2.2.1, nm_x.2.1, nm_x.2.2, b1, b2, nx_22 hp1 hp2, x2, x3, x5]
        refine ⟨rfl, rfl, ?_⟩
        by_cases c : (leA M r' p s' (τ r' s')).2.2.1 = false ∧ nI p ≤ nvT v (mA M 18 (16 * r' + s'))
        · rw [if_pos c, if_pos ⟨z0.mpr c.1, c.2⟩]
          rfl
        · rw [if_neg c, if_neg (fun w => c ⟨z0.mp w.1, w.2⟩)]
          by_cases c2 : (leA M r' p s' (τ r' s')).2.2.1 = true ∧ mA M 12 r' ≤ nvF v (mA M 19 (16 * r' + s'))
          · rw [if_pos c2, if_pos ⟨fun w => by rw [z0.mp w] at c2; exact absurd c2.1 (by decide), c2.2⟩]
            rfl
          · rw [if_neg c2, if_neg (fun w => c2 ⟨Classical.byContradiction fun y => w.1 (z0.mpr (Bool.eq_false_iff.mpr y)), w.2⟩)]
            exact b3
      · have ne : ¬ 16 * r' + s' = 16 * r' + s := by omega
        rw [old s' hs' ne, (nm_xo ne).2.1, (nm_xo ne).2.2, nx_22o ne]
        exact q2 s' hs'
  · have ne : ∀ s', s' < 16 → ¬ 16 * r' + s' = (16 * r + s) := fun s' hs' => by omega
    refine ⟨?_, fun s' hs' => ?_⟩
    · rw [nx_20o e, leSum_cg (M := M) (τ := τ) (fun s' hs' => old s' hs' (ne s' hs'))]
      exact q1
    · rw [old s' hs' (ne s' hs'), (nm_xo (ne s' hs')).2.1, (nm_xo (ne s' hs')).2.2, nx_22o (ne s' hs')]
      exact q2 s' hs'
theorem cR.note_inv {τ : Nat → Nat → Nat} {S : awS} {M : aM} {r s t : Nat} {v : Int32} (R : cR τ S M) (hr : r < mN M 6) (hs : s < mN M 2) (hτ : τ r s = t) (ht : t + 1 ≤ 400) (hC : mN M 1 = t) (hm : (0 ≤ mA M 14 r ∧ ¬ mA M 14 r = mA M 3 s) → v = -1) : cInv (tU τ r s (t + 1)) (noM M (16 * r + s) (t + 1) v) := by
  have hs16 : s < 16 := Nat.lt_of_lt_of_le hs R.nS
  have hr16 : r < 16 := Nat.lt_of_lt_of_le hr R.nR
  refine ⟨?_, ?_, R.inv.2.2.1, R.inv.2.2.2.1, R.inv.2.2.2.2.1, R.inv.2.2.2.2.2.1, R.inv.2.2.2.2.2.2.1, R.inv.2.2.2.2.2.2.2.1, R.inv.2.2.2.2.2.2.2.2.1, R.inv.2.2.2.2.2.2.2.2.2.1, R.inv.2.2.2.2.2.2.2.2.2.2.1, R.inv.2.2.2.2.2.2.2.2.2.2.2⟩
  · intro r' s' t' hc hs' ht'
    have hc : (mN M 6 ≤ r' ∨ mN M 2 ≤ s') ∨ (r' < mN M 6 ∧ s' < mN M 2 ∧ tU τ r s (t + 1) r' s' < t') := hc
    rw [nm_t]
    by_cases e : r' = r ∧ s' = s
    · obtain ⟨rfl, rfl⟩ := e
      rw [show tU τ r' s' (t + 1) r' s' = t + 1 from if_pos ⟨rfl, rfl⟩] at hc
      rw [if_neg (by omega)]
      exact R.inv.1 r' s' t' (by omega) hs' ht'
    · rw [show tU τ r s (t + 1) r' s' = τ r' s' from if_neg e] at hc
      rw [if_neg (by omega)]
      exact R.inv.1 r' s' t' hc hs' ht'
  · intro r' s' hc hs' hr'
    have hc2 : mN M 6 ≤ r' ∨ mN M 2 ≤ s' ∨ (0 ≤ mA M 14 r' ∧ ¬ mA M 14 r' = mA M 3 s') := hc
    clear hc
    have q := R.inv.2.1 r' s' hc2 hs' hr'
    show (∀ t', t' < 401 → mA (noM M (16 * r + s) (t + 1) v) 16 (401 * (16 * r' + s') + t') = 0) ∧ mA (noM M (16 * r + s) (t + 1) v) 18 (16 * r' + s') = 0 ∧ mA (noM M (16 * r + s) (t + 1) v) 19 (16 * r' + s') = 0 ∧ mA (noM M (16 * r + s) (t + 1) v) 17 (16 * r' + s') = -1 ∧ mA M 20 (16 * r' + s') < 0
    by_cases e : r' = r ∧ s' = s
    · obtain ⟨rfl, rfl⟩ := e
      have hv : v = -1 := hm (hc2.elim (fun z => absurd z (by omega)) (fun z => z.elim (fun w => absurd w (by omega)) id))
      subst hv
      refine ⟨fun t' ht' => ?_, ?_, ?_, ?_, q.2.2.2.2⟩
      · rw [nm_t]
        by_cases et : t' = t + 1
        · rw [if_pos (by omega)]; decide
        · rw [if_neg (by omega)]; exact q.1 t' ht'
      · rw [nm_x.2.1]; exact q.2.1
      · rw [nm_x.2.2]; exact q.2.2.1
      · rw [nm_x.1]; exact q.2.2.2.1
    · have ne : ¬ 16 * r' + s' = (16 * r + s) := by omega
      refine ⟨fun t' ht' => ?_, ?_, ?_, ?_, q.2.2.2.2⟩
      · rw [nm_t, if_neg (by omega)]; exact q.1 t' ht'
      · rw [(nm_xo ne).2.1]; exact q.2.1
      · rw [(nm_xo ne).2.2]; exact q.2.2.1
      · rw [(nm_xo ne).1]; exact q.2.2.2.1
theorem cR.note {τ : Nat → Nat → Nat} {S : awS} {M : aM} {r s t : Nat} {v : Int32} (R : cR τ S M) (hr : r < mN M 6) (hs : s < mN M 2) (hτ : τ r s = t) (ht : t + 1 ≤ 400) (hC : mN M 1 = t) (hb : ∀ r s, τ r s ≤ 400) (hv : v = -1 ∨ v = 0 ∨ v = 1) (hm : (0 ≤ mA M 14 r ∧ ¬ mA M 14 r = mA M 3 s) → v = -1) : cR (tU τ r s (t + 1)) (noX S r (16 * r + s) v) (mNote M (16 * r + s) (t + 1) v) := by
  have hI := R.mI.note (16 * r + s) (t + 1) v
  rw [noM_e hv] at hI ⊢
  exact cR.mk' (hI) R.tow R.lst R.cx R.cnt.2.1 R.cnt.2.2 R.src R.rul R.ala R.ltr R.brd (R.note_x hr hs hτ ht hC) R.la R.sca R.val R.ref R.wat R.flg (R.note_tru hr hs hτ ht hC hb) R.hld (R.note_lea hr hs hτ ht hC hb) R.row R.bdr (R.note_inv hr hs hτ ht hC hm)
theorem cFm.nx {S : awS} {r w : Nat} {v : Int32} : cFm S (noX S r w v) := fun f hf => by
  unfold fmOk at hf
  exact ⟨fun i k => nx_oI ⟨by omega, by omega, by omega⟩ i k, fun _ _ => rfl, fun _ _ => rfl, fun _ => rfl, rfl⟩

