def rS2 (S : awS) (n : Nat) (num what : Int32) (a : Int64) (b_ how site : Int32) : awS := wK (ruS n 16 (ruB (wNew S 6 0) n num what a b_ how site)) 1 (n + 1, elU (nm 6) n (nm 6 n))
section RUCOL
variable {S : awS} {n : Nat} {num what : Int32} {a : Int64} {b_ how site : Int32}
set_option maxHeartbeats 1000000 in
theorem ru_o6 (h6 : sC S 6 = n) {i : Nat} (hi : ¬ i = n) (k : Nat) : sI (rS2 S n num what a b_ how site) 6 i k = sI S 6 i k ∧ sL (rS2 S n num what a b_ how site) 6 i k = sL S 6 i k ∧ sR (rS2 S n num what a b_ how site) 6 i k = sR S 6 i k := by
  unfold sC at h6
  simp [rS2, ruS, ruB, sI, sL, sR, sN, sC, wK, wI, wL, wR, wNew, u3, h6, hi]
set_option maxHeartbeats 1000000 in
theorem ru_n6 : (sI (rS2 S n num what a b_ how site) 6 n 0 = num ∧ sI (rS2 S n num what a b_ how site) 6 n 1 = what - what / 100 * 100 ∧ sI (rS2 S n num what a b_ how site) 6 n 3 = b_ ∧ sI (rS2 S n num what a b_ how site) 6 n 4 = how - how / 100 * 100 ∧ sI (rS2 S n num what a b_ how site) 6 n 5 = how / 100 - how / 100 / 100 * 100 ∧ sI (rS2 S n num what a b_ how site) 6 n 6 = how / 10000 ∧ sI (rS2 S n num what a b_ how site) 6 n 7 = what / 100 ∧ sI (rS2 S n num what a b_ how site) 6 n 8 = site) ∧ sL (rS2 S n num what a b_ how site) 6 n 2 = a ∧ sR (rS2 S n num what a b_ how site) 6 n 9 = some (nm 18 n) ∧ sR (rS2 S n num what a b_ how site) 6 n 10 = some (nm 19 n) ∧ sR (rS2 S n num what a b_ how site) 6 n 11 = some (nm 20 n) ∧ sR (rS2 S n num what a b_ how site) 6 n 12 = some (nm 21 n) := by
  simp [rS2, ruS, ruB, sI, sL, sR, sN, sC, wK, wI, wL, wR, wNew, u3]
set_option maxHeartbeats 1000000 in
theorem ru_or (h18 : sC S 18 = n) (h19 : sC S 19 = n) (h20 : sC S 20 = n) (h21 : sC S 21 = n) {i : Nat} (hi : ¬ i = n) (k : Nat) : sI (rS2 S n num what a b_ how site) 19 i k = sI S 19 i k ∧ sI (rS2 S n num what a b_ how site) 20 i k = sI S 20 i k ∧ sR (rS2 S n num what a b_ how site) 18 i k = sR S 18 i k ∧ sN (rS2 S n num what a b_ how site) 18 i = sN S 18 i ∧ sN (rS2 S n num what a b_ how site) 19 i = sN S 19 i ∧ sN (rS2 S n num what a b_ how site) 20 i = sN S 20 i ∧ sN (rS2 S n num what a b_ how site) 21 i = sN S 21 i := by
  unfold sC at h18 h19 h20 h21
  simp [rS2, ruS, ruB, sI, sL, sR, sN, sC, wK, wI, wL, wR, wNew, u3, h18, h19, h20, h21, hi]
set_option maxHeartbeats 1000000 in
theorem ru_nr (h18 : sC S 18 = n) (h19 : sC S 19 = n) (h20 : sC S 20 = n) (h21 : sC S 21 = n) (k : Nat) : sI (rS2 S n num what a b_ how site) 19 n k = 0 ∧ sI (rS2 S n num what a b_ how site) 20 n k = 0 ∧ (k < 16 → sR (rS2 S n num what a b_ how site) 18 n k = some (nm 11 (16 * n + k))) ∧ sN (rS2 S n num what a b_ how site) 18 n = 16 ∧ sN (rS2 S n num what a b_ how site) 19 n = 3 ∧ sN (rS2 S n num what a b_ how site) 20 n = 11 ∧ sN (rS2 S n num what a b_ how site) 21 n = 20 := by
  unfold sC at h18 h19 h20 h21
  simp [rS2, ruS, ruB, sI, sL, sR, sN, sC, wK, wI, wL, wR, wNew, u3, h18, h19, h20, h21]
set_option maxHeartbeats 1000000 in
theorem ru_ow {w : Nat} (hw : w < 16 * n) (k : Nat) : sI (rS2 S n num what a b_ how site) 11 w k = sI S 11 w k ∧ sI (rS2 S n num what a b_ how site) 22 w k = sI S 22 w k ∧ sR (rS2 S n num what a b_ how site) 11 w k = sR S 11 w k ∧ sN (rS2 S n num what a b_ how site) 22 w = sN S 22 w := by
  have e : ¬ (16 * n ≤ w) := by omega
  simp [rS2, ruS, ruB, sI, sL, sR, sN, sC, wK, wI, wL, wR, wNew, u3, e]
set_option maxHeartbeats 1000000 in
theorem ru_nw {s : Nat} (hs : s < 16) : sI (rS2 S n num what a b_ how site) 11 (16 * n + s) 0 = -1 ∧ sI (rS2 S n num what a b_ how site) 11 (16 * n + s) 1 = -1 ∧ sI (rS2 S n num what a b_ how site) 11 (16 * n + s) 2 = 0 ∧ sI (rS2 S n num what a b_ how site) 11 (16 * n + s) 3 = 0 ∧ sR (rS2 S n num what a b_ how site) 11 (16 * n + s) 4 = none ∧ sR (rS2 S n num what a b_ how site) 11 (16 * n + s) 5 = some (nm 22 (16 * n + s)) ∧ sN (rS2 S n num what a b_ how site) 22 (16 * n + s) = 11 ∧ ∀ p, sI (rS2 S n num what a b_ how site) 22 (16 * n + s) p = 0 := by
  have e : 16 * n ≤ 16 * n + s ∧ 16 * n + s < 16 * n + 16 := by omega
  simp [rS2, ruS, ruB, sI, sL, sR, sN, sC, wK, wI, wL, wR, wNew, u3, hs]
set_option maxHeartbeats 1000000 in
theorem ru_c (h6 : sC S 6 = n) (h18 : sC S 18 = n) (h19 : sC S 19 = n) (h20 : sC S 20 = n) (h21 : sC S 21 = n) : sC (rS2 S n num what a b_ how site) 6 = n + 1 ∧ sC (rS2 S n num what a b_ how site) 18 = n + 1 ∧ sC (rS2 S n num what a b_ how site) 19 = n + 1 ∧ sC (rS2 S n num what a b_ how site) 20 = n + 1 ∧ sC (rS2 S n num what a b_ how site) 21 = n + 1 ∧ sC (rS2 S n num what a b_ how site) 11 = 16 * n + 16 ∧ sC (rS2 S n num what a b_ how site) 22 = 16 * n + 16 := by
  unfold sC at h6 h18 h19 h20 h21
  simp [rS2, ruS, ruB, sI, sL, sR, sN, sC, wK, wI, wL, wR, wNew, u3, h6, h18, h19, h20, h21]
set_option maxHeartbeats 1000000 in
theorem ru_co {f : Nat} (hf : 22 < f) : sC (rS2 S n num what a b_ how site) f = sC S f := by
  have e : ¬ f = 6 ∧ ¬ f = 11 ∧ ¬ f = 18 ∧ ¬ f = 19 ∧ ¬ f = 20 ∧ ¬ f = 21 ∧ ¬ f = 22 := by omega
  simp [rS2, ruS, ruB, sI, sL, sR, sN, sC, wK, wI, wL, wR, wNew, u3, e]
end RUCOL
theorem leA_cg {M M' : aM} {r p s t : Nat} (h1 : mA M' 12 r = mA M 12 r) (h2 : mA M' 15 r = mA M 15 r) (h3 : ∀ t, mTru M' r s t = mTru M r s t) : leA M' r p s t = leA M r p s t := by
  have e : mLeF M' r (nI p) s = mLeF M r (nI p) s := by
    funext j x
    unfold mLeF mE
    rw [h1, h2, h3]
  unfold leA mE
  rw [e, h2]
theorem leSum_cg {M M' : aM} {τ τ' : Nat → Nat → Nat} {r p : Nat} : ∀ {n : Nat}, (∀ s, s < n → leA M' r p s (τ' r s) = leA M r p s (τ r s)) → leSum τ' M' r p n = leSum τ M r p n
  | 0, _ => rfl
  | n + 1, h => by
    show leSum τ' M' r p n + _ = leSum τ M r p n + _
    rw [leSum_cg (n := n) (fun s hs => h s (by omega)), h n (by omega)]
theorem leA_0 {M : aM} {r p s t : Nat} (h : t + 1 ≤ mE M 15 r) : leA M r p s t = ((0 : Int32), (0 : Int32), false, 0) := by
  unfold leA
  rw [show t + 1 - mE M 15 r = 0 by omega]
  rfl
theorem leSum_0 {M : aM} {τ : Nat → Nat → Nat} {r p : Nat} : ∀ {n : Nat}, (∀ s, s < n → (leA M r p s (τ r s)).2.2.2 = 0) → leSum τ M r p n = 0
  | 0, _ => rfl
  | n + 1, h => by
    show leSum τ M r p n + _ = 0
    rw [leSum_0 (n := n) (fun s hs => h s (by omega)), h n (by omega)]

