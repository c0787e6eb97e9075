-- the store in the heap: reading, writing, making
theorem oWs (c : Nat) (hc : c < 14) : ∀ w ∈ u_ws (oCl c).1 (oCl c).2.1 (oCl c).2.2, w ∈ awBig := by
  match c, hc with
  | 0, _ => exact ws_Jx4a65c
  | 1, _ => exact ws_X0
  | 2, _ => exact ws_X1
  | 3, _ => exact ws_X2
  | 4, _ => exact ws_X3
  | 5, _ => exact ws_X4
  | 6, _ => exact ws_X5
  | 7, _ => exact ws_X6
  | 8, _ => exact ws_X7
  | 9, _ => exact ws_X8
  | 10, _ => exact ws_X9
  | 11, _ => exact ws_X10
  | 12, _ => exact ws_X11
  | 13, _ => exact ws_X12
  | n + 14, h => omega
theorem oCl_at (c : Nat) (hc : c < 14) : vwCl[c]? = some ((oCl c).1, (oCl c).2.1, (oCl c).2.2) := by
  match c, hc with
  | 0, _ => rfl
  | 1, _ => rfl
  | 2, _ => rfl
  | 3, _ => rfl
  | 4, _ => rfl
  | 5, _ => rfl
  | 6, _ => rfl
  | 7, _ => rfl
  | 8, _ => rfl
  | 9, _ => rfl
  | 10, _ => rfl
  | 11, _ => rfl
  | 12, _ => rfl
  | 13, _ => rfl
  | n + 14, h => omega
theorem oTy_ok (c : Nat) (hc : c < 14) : ∀ k, k < (oCl c).2.2 → parseFieldDescriptor ((oCl c).2.1 k).2.2.1 = some (oTy c k) := by
  match c, hc with
  | 0, _ => exact tyJx4a65c_ok
  | 1, _ => exact tyX0_ok
  | 2, _ => exact tyX1_ok
  | 3, _ => exact tyX2_ok
  | 4, _ => exact tyX3_ok
  | 5, _ => exact tyX4_ok
  | 6, _ => exact tyX5_ok
  | 7, _ => exact tyX6_ok
  | 8, _ => exact tyX7_ok
  | 9, _ => exact tyX8_ok
  | 10, _ => exact tyX9_ok
  | 11, _ => exact tyX10_ok
  | 12, _ => exact tyX11_ok
  | 13, _ => exact tyX12_ok
  | n + 14, h => omega
theorem oNm (c : Nat) (hc : c < 14) : ∀ a, a < (oCl c).2.2 → ∀ b, b < (oCl c).2.2 → a ≠ b → ((oCl c).2.1 a).2.1 ≠ ((oCl c).2.1 b).2.1 := by
  match c, hc with
  | 0, _ => exact nmJx4a65c
  | 1, _ => exact nmX0
  | 2, _ => exact nmX1
  | 3, _ => exact nmX2
  | 4, _ => exact nmX3
  | 5, _ => exact nmX4
  | 6, _ => exact nmX5
  | 7, _ => exact nmX6
  | 8, _ => exact nmX7
  | 9, _ => exact nmX8
  | 10, _ => exact nmX9
  | 11, _ => exact nmX10
  | 12, _ => exact nmX11
  | 13, _ => exact nmX12
  | n + 14, h => omega
theorem vpV_fs {ad : Nat → Nat} {S : awS} {f i c j : Nat} (h : j < (oCl c).2.2) : vp_V (fs ad S f i c) j = fv ad S f i c j := by
  unfold vp_V fs
  simp [h]
/-- two stores that say the same of one object -/
def awSame (S S' : awS) (f i : Nat) : Prop := (∀ k, sI S' f i k = sI S f i k) ∧ (∀ k, sL S' f i k = sL S f i k) ∧ (∀ k, sR S' f i k = sR S f i k) ∧ sN S' f i = sN S f i
theorem awCell_same {DA : Nat → ClassId} {ad : Nat → Nat} {S S' : awS} {f i : Nat} (h : awSame S S' f i) : awCell DA ad S' f i = awCell DA ad S f i := by
  obtain ⟨h1, h2, h3, h4⟩ := h
  have e : ∀ c, fs ad S' f i c = fs ad S f i c := fun c => by
    unfold fs
    refine List.map_congr_left fun k _ => ?_
    unfold fv
    rw [h1, h2, h3]
  unfold awCell
  rw [e, h4]
  simp only [h1, h2, h3]
theorem awHid.same {S S0 : awS} (h : awHid S S0) {f : Nat} (hf : nb true f = true) (i : Nat) : awSame S S0 f i := by
  have hf' : ¬ (32 ≤ f ∧ f < 64) := by simp [nb] at hf; omega
  obtain ⟨a, b, c, d⟩ := h.1 f hf'
  exact ⟨a i, b i, c i, d i⟩
theorem awHid.lv {S S0 : awS} (h : awHid S S0) {n : Nat} (hn : lvN S n) : lvN S0 n := by
  unfold lvN at hn ⊢
  by_cases hf : 48 ≤ n % 256 ∧ n % 256 < 64
  · rw [h.2.2.1 _ hf.1 hf.2] at hn; omega
  · rw [h.2.1 _ hf]; exact hn
theorem awHid.lv' {S S0 : awS} (h : awHid S S0) {n : Nat} (hf : ¬ (48 ≤ n % 256 ∧ n % 256 < 64)) (hn : lvN S0 n) : lvN S n := by
  unfold lvN at hn ⊢
  rw [← h.2.1 _ hf]; exact hn
/-- the cell of a living object -/
theorem awR_at {b : Bool} {E : awE} {S : awS} {ad : Nat → Nat} {H : Heap} (h : awR b E S ad H) {f i : Nat} (hf : f < 125 ∨ 127 < f) (hf2 : f < 256) (hb : nb b f = true) (hl : lvN S (nm f i)) : awE_lo E ≤ ad (nm f i) ∧ va_at (awE_D E) vwCl (ad (nm f i), awCell (awE_A E) ad S f i) H := by
  have key : ∀ S0, awR0 E S0 ad H → lvN S0 (nm f i) → awE_lo E ≤ ad (nm f i) ∧ va_at (awE_D E) vwCl (ad (nm f i), awCell (awE_A E) ad S0 f i) H := fun S0 h0 l0 => by
    have k := h0.2.2.1 (nm f i) l0 (by rw [nm_f hf2]; omega)
    rw [nm_f hf2, nm_i hf2] at k
    exact k
  cases b with
  | false => exact key S h hl
  | true =>
    obtain ⟨S0, hh, hr⟩ := h
    have k := key S0 hr (hh.lv hl)
    rw [awCell_same (hh.same hb i)] at k
    exact k
/-- references in a living object are alive -/
theorem awR_cl {b : Bool} {E : awE} {S : awS} {ad : Nat → Nat} {H : Heap} (h : awR b E S ad H) {f i k r : Nat} (hf2 : f < 256) (hb : nb b f = true) (hl : lvN S (nm f i)) (hr : sR S f i k = some r) : lvN S r := by
  cases b with
  | false => exact h.2.2.2.2.1 f i k r ((lvN_nm hf2).mp hl) hr
  | true =>
    obtain ⟨S0, hh, h0⟩ := h
    exact hh.2.2.2.2 f i k r (by simp [nb] at hb; omega) ((lvN_nm hf2).mp hl) hr
/-- one object changed, in the store and in the heap -/
theorem awR0_set {E : awE} {S S' : awS} {ad : Nat → Nat} {H H1 : Heap} {f i : Nat} (h : awR0 E S ad H) (hf : f < 125 ∨ 127 < f) (hf2 : f < 256) (hl : lvN S (nm f i)) (hs : ∀ f' i', ¬ (f' = f ∧ i' = i) → awSame S S' f' i') (hC : ∀ f, sC S' f = sC S f) (hcl : ∀ k r, sR S' f i k = some r → lvN S r)
    (he : va_at (awE_D E) vwCl (ad (nm f i), awCell (awE_A E) ad S' f i) H1) (hz : H1.size = H.size) (ho : ∀ q, q ≠ ad (nm f i) → H1[q]? = H[q]?) : awR0 E S' ad H1 := by
  obtain ⟨h1, h2, h3, h4, h5, h6, h7, h8⟩ := h
  have hlv : ∀ n, lvN S' n ↔ lvN S n := fun n => by unfold lvN; rw [hC]
  have hlo := (h3 _ hl (by rw [nm_f hf2]; omega)).1
  refine ⟨fun q hq => (ho q (by omega)).trans (h1 q hq), by omega, fun n hn n1 => ?_, fun n n' a b => h4 n n' ((hlv n).mp a) ((hlv n').mp b), fun f' i' k r a b => ?_, by rw [hC]; exact h6, by rw [hC]; exact h7, by rw [hC]; exact h8⟩
  · by_cases hq : n = nm f i
    · subst hq
      rw [nm_f hf2, nm_i hf2]
      exact ⟨hlo, he⟩
    · have hn' := (hlv n).mp hn
      obtain ⟨g1, g2⟩ := h3 n hn' n1
      have hd : ¬ (n % 256 = f ∧ n / 256 = i) := fun z => hq (by rw [← nm_self n, z.1, z.2])
      rw [awCell_same (hs _ _ hd)]
      exact ⟨g1, g2.kept (ho _ fun z => hq (h4 _ _ hn' hl n1 (by rw [nm_f hf2]; omega) z))⟩
  · rw [hlv]
    by_cases hq : f' = f ∧ i' = i
    · obtain ⟨rfl, rfl⟩ := hq
      exact hcl k r b
    · rw [(hs _ _ hq).2.2.1] at b
      rw [hC] at a
      exact h5 f' i' k r a b
theorem awHid_wI {S S0 : awS} (h : awHid S S0) {f : Nat} (hf : nb true f = true) (i k : Nat) (v : Int32) : awHid (wI S f i k v) (wI S0 f i k v) := by
  have hf' : ¬ (32 ≤ f ∧ f < 64) := by simp [nb] at hf; omega
  obtain ⟨h1, h2, h3, h4, h5⟩ := h
  refine ⟨fun g hg => ?_, h2, h3, fun q hq hc hk => ?_, h5⟩
  · obtain ⟨a, b, c, d⟩ := h1 g hg
    refine ⟨fun i' k' => ?_, b, c, d⟩
    rw [sI_wI, sI_wI, a]
  · have := h4 q hq hc hk
    rw [sI_wI, if_neg (by omega)]
    exact this
theorem awHid_wL {S S0 : awS} (h : awHid S S0) {f : Nat} (hf : nb true f = true) (i k : Nat) (v : Int64) : awHid (wL S f i k v) (wL S0 f i k v) := by
  have hf' : ¬ (32 ≤ f ∧ f < 64) := by simp [nb] at hf; omega
  obtain ⟨h1, h2, h3, h4, h5⟩ := h
  refine ⟨fun g hg => ?_, h2, h3, h4, h5⟩
  obtain ⟨a, b, c, d⟩ := h1 g hg
  refine ⟨a, fun i' k' => ?_, c, d⟩
  rw [sL_wL, sL_wL, b]
theorem awHid_wR {S S0 : awS} (h : awHid S S0) {f : Nat} (hf : nb true f = true) (i k : Nat) (v : Option Nat) (hv : ∀ r, v = some r → lvN S r) : awHid (wR S f i k v) (wR S0 f i k v) := by
  have hf' : ¬ (32 ≤ f ∧ f < 64) := by simp [nb] at hf; omega
  obtain ⟨h1, h2, h3, h4, h5⟩ := h
  refine ⟨fun g hg => ?_, h2, h3, fun q hq hc hk => ?_, fun f' i' k' r a b c => ?_⟩
  · obtain ⟨a, b, c, d⟩ := h1 g hg
    refine ⟨a, b, fun i' k' => ?_, d⟩
    rw [sR_wR, sR_wR, c]
  · have := h4 q hq hc hk
    simp only [sR_wR, sI_wR, sC_wR, sN_wR, sK_wR]
    rw [if_neg (by omega)]
    refine ⟨this.1, this.2.1, ?_⟩
    rcases this.2.2 with z | ⟨g, z1, z2, z3, z4, z5, z6⟩
    · exact Or.inl z
    · exact Or.inr ⟨g, z1, z2, z3, z4, z5, fun j hj => by rw [if_neg (by omega)]; exact z6.1 j hj, fun j r hr => by rw [if_neg (by omega)] at hr; exact z6.2 j r hr⟩
  · rw [sR_wR] at c
    by_cases hq : f' = f ∧ i' = i ∧ k' = k
    · rw [if_pos hq] at c
      exact hv r c
    · rw [if_neg hq] at c
      exact h5 f' i' k' r a b c
theorem awR_wI {b : Bool} {E : awE} {S : awS} {ad : Nat → Nat} {H H1 : Heap} {f i k : Nat} {v : Int32} (h : awR b E S ad H) (hf : f < 125 ∨ 127 < f) (hf2 : f < 256) (hb : nb b f = true) (hl : lvN S (nm f i))
    (he : va_at (awE_D E) vwCl (ad (nm f i), awCell (awE_A E) ad (wI S f i k v) f i) H1) (hz : H1.size = H.size) (ho : ∀ q, q ≠ ad (nm f i) → H1[q]? = H[q]?) : awR b E (wI S f i k v) ad H1 := by
  have hs : ∀ S : awS, ∀ f' i', ¬ (f' = f ∧ i' = i) → awSame S (wI S f i k v) f' i' := fun S f' i' hn => ⟨fun k' => by rw [sI_wI, if_neg (fun z => hn ⟨z.1, z.2.1⟩)], fun _ => rfl, fun _ => rfl, rfl⟩
  cases b with
  | false => exact awR0_set h hf hf2 hl (hs S) (fun _ => rfl) (fun k' r hr => h.2.2.2.2.1 f i k' r ((lvN_nm hf2).mp hl) hr) he hz ho
  | true =>
    obtain ⟨S0, hh, h0⟩ := h
    have h2 := awHid_wI hh hb i k v
    refine ⟨wI S0 f i k v, h2, awR0_set h0 hf hf2 (hh.lv hl) (hs S0) (fun _ => rfl) (fun k' r hr => h0.2.2.2.2.1 f i k' r ((lvN_nm hf2).mp (hh.lv hl)) hr) ?_ hz ho⟩
    rw [awCell_same (h2.same hb i)]
    exact he
theorem awR_wL {b : Bool} {E : awE} {S : awS} {ad : Nat → Nat} {H H1 : Heap} {f i k : Nat} {v : Int64} (h : awR b E S ad H) (hf : f < 125 ∨ 127 < f) (hf2 : f < 256) (hb : nb b f = true) (hl : lvN S (nm f i))
    (he : va_at (awE_D E) vwCl (ad (nm f i), awCell (awE_A E) ad (wL S f i k v) f i) H1) (hz : H1.size = H.size) (ho : ∀ q, q ≠ ad (nm f i) → H1[q]? = H[q]?) : awR b E (wL S f i k v) ad H1 := by
  have hs : ∀ S : awS, ∀ f' i', ¬ (f' = f ∧ i' = i) → awSame S (wL S f i k v) f' i' := fun S f' i' hn => ⟨fun _ => rfl, fun k' => by rw [sL_wL, if_neg (fun z => hn ⟨z.1, z.2.1⟩)], fun _ => rfl, rfl⟩
  cases b with
  | false => exact awR0_set h hf hf2 hl (hs S) (fun _ => rfl) (fun k' r hr => h.2.2.2.2.1 f i k' r ((lvN_nm hf2).mp hl) hr) he hz ho
  | true =>
    obtain ⟨S0, hh, h0⟩ := h
    have h2 := awHid_wL hh hb i k v
    refine ⟨wL S0 f i k v, h2, awR0_set h0 hf hf2 (hh.lv hl) (hs S0) (fun _ => rfl) (fun k' r hr => h0.2.2.2.2.1 f i k' r ((lvN_nm hf2).mp (hh.lv hl)) hr) ?_ hz ho⟩
    rw [awCell_same (h2.same hb i)]
    exact he
theorem awR_wR {b : Bool} {E : awE} {S : awS} {ad : Nat → Nat} {H H1 : Heap} {f i k : Nat} {v : Option Nat} (h : awR b E S ad H) (hf : f < 125 ∨ 127 < f) (hf2 : f < 256) (hb : nb b f = true) (hl : lvN S (nm f i)) (hv : ∀ r, v = some r → lvN S r)
    (he : va_at (awE_D E) vwCl (ad (nm f i), awCell (awE_A E) ad (wR S f i k v) f i) H1) (hz : H1.size = H.size) (ho : ∀ q, q ≠ ad (nm f i) → H1[q]? = H[q]?) : awR b E (wR S f i k v) ad H1 := by
  have hs : ∀ S : awS, ∀ f' i', ¬ (f' = f ∧ i' = i) → awSame S (wR S f i k v) f' i' := fun S f' i' hn => ⟨fun _ => rfl, fun _ => rfl, fun k' => by rw [sR_wR, if_neg (fun z => hn ⟨z.1, z.2.1⟩)], rfl⟩
  have hc : ∀ S : awS, (∀ r, v = some r → lvN S r) → (∀ k' r, sR S f i k' = some r → lvN S r) → ∀ k' r, sR (wR S f i k v) f i k' = some r → lvN S r := fun S a b k' r hr => by
    rw [sR_wR] at hr
    by_cases hq : f = f ∧ i = i ∧ k' = k
    · rw [if_pos hq] at hr; exact a r hr
    · rw [if_neg hq] at hr; exact b k' r hr
  cases b with
  | false => exact awR0_set h hf hf2 hl (hs S) (fun _ => rfl) (hc S hv fun k' r hr => h.2.2.2.2.1 f i k' r ((lvN_nm hf2).mp hl) hr) he hz ho
  | true =>
    obtain ⟨S0, hh, h0⟩ := h
    have h2 := awHid_wR hh hb i k v hv
    refine ⟨wR S0 f i k v, h2, awR0_set h0 hf hf2 (hh.lv hl) (hs S0) (fun _ => rfl) (hc S0 (fun r hr => hh.lv (hv r hr)) fun k' r hr => h0.2.2.2.2.1 f i k' r ((lvN_nm hf2).mp (hh.lv hl)) hr) ?_ hz ho⟩
    rw [awCell_same (h2.same hb i)]
    exact he
