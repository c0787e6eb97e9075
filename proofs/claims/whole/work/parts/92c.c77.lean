-- where the law starts: the first store, and that it is related
theorem hiZ.N {B : awS} (h : hiZ B) {f n : Nat} (hf : f < 128) : hiZ (wNew B f n) := by
  obtain ⟨h1, h2, h3, h4, h5⟩ := h
  unfold hiZ wNew
  dsimp only
  refine ⟨fun j => ?_, fun g hg => ?_, fun g j hg => ?_, fun g j hg => ?_, fun g j hg => ?_⟩
  · split
    · rfl
    · exact h1 j
  · rw [if_neg (by omega)]; exact h2 g hg
  · rw [if_neg (by omega)]; exact h3 g j hg
  · rw [if_neg (by omega)]; exact h4 g j hg
  · rw [if_neg (by omega)]; exact h5 g j hg
theorem hiZ.I {B : awS} (h : hiZ B) {f i k : Nat} {v : Int32} (hf : f < 13) : hiZ (wI B f i k v) := by
  obtain ⟨h1, h2, h3, h4, h5⟩ := h
  unfold hiZ wI u3
  dsimp only
  refine ⟨fun j => ?_, h2, fun g j hg => ?_, h4, h5⟩
  · rw [if_neg (by omega)]; exact h1 j
  · rw [if_neg (by omega)]; exact h3 g j hg
theorem hiZ.R {B : awS} (h : hiZ B) {f i k : Nat} {v : Option Nat} (hf : f < 128) : hiZ (wR B f i k v) := by
  obtain ⟨h1, h2, h3, h4, h5⟩ := h
  unfold hiZ wR u3
  dsimp only
  refine ⟨h1, h2, h3, h4, fun g j hg => ?_⟩
  rw [if_neg (by omega)]; exact h5 g j hg
theorem hiZ.K {B : awS} (h : hiZ B) {q : Nat} {v : Nat × (Nat → Nat)} : hiZ (wK B q v) := h
theorem hiZ_00 : hiZ aS00 := ⟨fun _ => rfl, fun f hf => by
  show (if f = 125 ∨ f = 126 ∨ f = 127 then 1 else 0) = 0
  rw [if_neg (by omega)], fun _ _ _ => rfl, fun _ _ _ => rfl, fun _ _ _ => rfl⟩

theorem hiZ_z : hiZ aSz := hiZ_00.N (by decide)
theorem hiZ_2 : hiZ aT2 := ((((((((((((hiZ_z).N (by decide)).K).K).R (by decide)).N (by decide)).K).K).R (by decide)).N (by decide)).K).K).R (by decide)
theorem hiZ_5 : hiZ aT5 := ((((((((((((hiZ_2).N (by decide)).K).K).R (by decide)).N (by decide)).K).K).R (by decide)).N (by decide)).K).K).R (by decide)
theorem hiZ_6 : hiZ aT6 := ((hiZ_5).N (by decide)).R (by decide)
theorem hiZ_7 : hiZ aT7 := (((((((((((((((hiZ_6).N (by decide)).I (by decide)).N (by decide)).K).K).R (by decide)).N (by decide)).K).K).R (by decide)).N (by decide)).R (by decide)).N (by decide)).R (by decide)).R (by decide)
theorem hiZ_8 : hiZ aT8 := (((((((((hiZ_7).N (by decide)).R (by decide)).I (by decide)).I (by decide)).I (by decide)).I (by decide)).I (by decide)).I (by decide)).I (by decide)
theorem hiZ_b : ∀ k, hiZ (bdS k)
  | 0 => hiZ_8
  | k + 1 => (((((((hiZ_b k).N (by decide)).I (by decide)).R (by decide)).I (by decide)).N (by decide)).R (by decide)).R (by decide)
theorem hiZ_m : hiZ (wNew (bdS 8) 13 0) := (hiZ_b 8).N (by decide)

def aSm : awS := putM (mdS 84 (wNew (bdS 8) 13 0)) (iM 256)
def aS1 : awS := wNew aSm 29 1
theorem aS1_ok : mOk aS1 := fun k hk => by
  obtain ⟨h1, h2⟩ := md_ok (wNew (bdS 8) 13 0) k hk
  refine ⟨?_, ?_⟩
  · exact h1
  · show (if 128 + k = 29 ∧ 0 = sC aSm 29 then 1 else sN aSm (128 + k) 0) = mLen k
    rw [if_neg (by omega)]
    exact h2
theorem aS1_par : parM aS1 = iM 256 := by
  refine Eq.trans ?_ (parM_put (mdS 84 (wNew (bdS 8) 13 0)) (iM 256))
  show parM aS1 = parM aSm
  unfold parM aS1 wNew
  refine Prod.ext rfl (Prod.ext ?_ ?_)
  · funext k j
    dsimp only
    rw [if_neg (by omega)]
  · funext k j
    dsimp only
    rw [if_neg (by omega)]
theorem iM_n {k : Nat} (h : mIni k = 0) : mN (iM 256) k = 0 := by
  show (mIni k).toNatClampNeg = 0
  rw [h]; rfl
theorem iM_a {k j : Nat} (h : ¬ k = 17 ∧ ¬ k = 20) : mA (iM 256) k j = 0 := by
  show (if (k = 17 ∨ k = 20) ∧ j < 256 then (-1 : Int32) else 0) = 0
  rw [if_neg (by omega)]
theorem iM_b {k j : Nat} (h : k = 17 ∨ k = 20) (hj : j < 256) : mA (iM 256) k j = -1 := if_pos ⟨h, hj⟩
theorem iM_I : mI (iM 256) := by
  have z : ∀ q ∈ mIs, mIni q.1 = 0 := by decide
  have za : ∀ q ∈ mIa, (¬ q.1 = 17 ∧ ¬ q.1 = 20) ∧ 0 < q.2.2 := by decide
  refine ⟨fun q hq => ?_, fun q hq j _ => ?_, ?_, fun j => ?_, fun r hr => ?_, fun d hd => ?_⟩
  · have e := z q hq
    show mIni q.1 = nI (mIni q.1).toNatClampNeg ∧ (mIni q.1).toNatClampNeg ≤ q.2
    rw [e]
    exact ⟨rfl, Nat.zero_le _⟩
  · obtain ⟨e, p⟩ := za q hq
    show mA (iM 256) q.1 j = nI (mA (iM 256) q.1 j).toNatClampNeg ∧ (mA (iM 256) q.1 j).toNatClampNeg < q.2.2
    rw [iM_a e]
    exact ⟨rfl, p⟩
  · rw [iM_n rfl]; exact Nat.zero_le _
  · show rgM (if (20 = 17 ∨ 20 = 20) ∧ j < 256 then (-1 : Int32) else 0) 300
    split
    · exact Or.inl (by decide)
    · exact Or.inr ⟨rfl, by decide⟩
  · refine ⟨fun z => ?_, fun z => ?_⟩
    · rw [iM_a (by decide)] at z
      exact absurd z (by decide)
    · exact absurd (iM_a (by decide)) z
  · intro z
    rw [iM_a (by decide)] at z
    exact absurd z (by decide)
theorem iM_rest : cRest (iM 256) := fun i hi => by
  rw [iM_n rfl] at hi
  exact absurd hi (Nat.not_lt_zero _)
theorem no0 {P : Prop} {k i : Nat} (h : mIni k = 0) (hi : i < mN (iM 256) k) : P := by
  rw [iM_n h] at hi
  exact absurd hi (Nat.not_lt_zero _)
theorem iM_inv : cInv (fun _ _ => 0) (iM 256) := by
  refine ⟨fun r s t _ _ _ => iM_a (by decide), fun r s _ hs hr => ⟨fun t _ => iM_a (by decide), iM_a (by decide), iM_a (by decide), iM_b (Or.inl rfl) (by omega), ?_⟩, fun i hi => no0 (k := 30) rfl hi, fun w hw z => ?_, fun g hg => no0 (k := 48) rfl hg, fun l hl => no0 (k := 63) rfl hl, fun r hr => no0 (k := 6) rfl hr, fun k hk => no0 (k := 21) rfl hk, fun k hk => no0 (k := 25) rfl hk, fun k hk => no0 (k := 53) rfl hk, fun k hk => no0 (k := 58) rfl hk, fun i t _ _ _ => ⟨iM_a (by decide), rfl⟩⟩
  · rw [iM_b (Or.inr rfl) (by omega)]; decide
  · rw [iM_b (Or.inr rfl) hw] at z
    exact absurd z (by decide)
theorem aS1_lqd : ∀ q, q < 9 → ¬ q = 6 → sC aS1 (32 + q) = 1 := by decide +kernel
theorem aS1_tow : cTow aS1 := ⟨by decide +kernel, by decide +kernel, by decide +kernel, by decide +kernel, by decide +kernel, by decide +kernel, by decide +kernel, by decide +kernel, by decide +kernel, by decide +kernel, fun q hq => aS1_lqd q hq.1 hq.2⟩
theorem aS1_bds : ∀ j, j < 8 → sR aS1 30 0 j = some (nm 2 j) := by decide +kernel
theorem aS1_lst : cLst aS1 (iM 256) := by
  unfold cLst
  rw [iM_n (k := 2) rfl, iM_n (k := 6) rfl, iM_n (k := 25) rfl, iM_n (k := 30) rfl, iM_n (k := 48) rfl, iM_n (k := 63) rfl, iM_n (k := 53) rfl, iM_n (k := 58) rfl]
  exact ⟨rfl, rfl, rfl, rfl, rfl, rfl, ⟨rfl, rfl, aS1_bds⟩, rfl, rfl⟩
theorem aS1_cnt : cCnt aS1 (iM 256) := ⟨by decide +kernel, ⟨by decide +kernel, by decide +kernel⟩, ⟨by decide +kernel, by decide +kernel⟩⟩
theorem aS1_brd : ∀ d, d < 8 → sR aS1 2 d 3 = some (nm 25 d) ∧ sN aS1 25 d = 60 := by decide +kernel
theorem aS1_int : ∀ q ∈ cLk, ∀ i, i < cB (iM 256) q.2.2.2 → sI aS1 q.1 i q.2.1 = mA (iM 256) q.2.2.1 i := by decide +kernel
theorem aS1_sca : cSca aS1 (iM 256) := ⟨by decide +kernel, by decide +kernel, by decide +kernel, by decide +kernel, by decide +kernel, by decide +kernel, by decide +kernel, by decide +kernel⟩
theorem aS1_nul : ∀ d, d < 8 → sR aS1 2 d 1 = none := by decide +kernel
theorem aS1_R : cRR aS1 (iM 256) := by
  refine ⟨?_, iM_rest⟩
  rw [iM_n (k := 1) rfl]
  refine ⟨iM_I, aS1_tow, aS1_lst, aS1_cnt, fun i hi => no0 (k := 2) rfl hi, fun i hi => no0 (k := 6) rfl hi, fun i hi => no0 (k := 30) rfl hi, fun i hi => no0 (k := 63) rfl hi, aS1_brd, aS1_int, fun i hi => no0 (k := 6) rfl hi, aS1_sca, fun i hi => no0 (k := 2) rfl hi, ⟨fun i hi => no0 (k := 30) rfl hi, fun i hi => no0 (k := 48) rfl hi, fun i hi => no0 (k := 63) rfl hi⟩, fun w hw => by
      rw [iM_n (k := 6) rfl] at hw
      exact absurd hw (Nat.not_lt_zero _), fun i hi => no0 (k := 30) rfl hi, fun i _ hi => no0 (k := 6) rfl hi, fun i _ hi => no0 (k := 6) rfl hi, fun i _ hi => no0 (k := 6) rfl hi, fun i hi => no0 (k := 63) rfl hi, fun d hd => ?_, iM_inv⟩
  have e : mA (iM 256) 79 d = 0 := iM_a (by decide)
  rw [e]
  exact ⟨by decide, by rw [if_neg (by decide)]; exact aS1_nul d hd, fun z => absurd z (by decide), fun z => absurd z (by decide)⟩

