-- rows
theorem awCell_I {DA : Nat → ClassId} {ad : Nat → Nat} {S : awS} {f i : Nat} (hf : fK f = 20) : awCell DA ad S f i = .inl (DA 0, sN S f i, .inl (fun j => sI S f i j)) := by
  unfold awCell
  rw [if_neg (by rw [hf]; decide), hf]
  rfl
theorem awCell_J {DA : Nat → ClassId} {ad : Nat → Nat} {S : awS} {f i : Nat} (hf : fK f = 21) : awCell DA ad S f i = .inl (DA 1, sN S f i, .inr (.inl (fun j => sL S f i j))) := by
  unfold awCell
  rw [if_neg (by rw [hf]; decide), hf]
  rfl
theorem awCell_Z {DA : Nat → ClassId} {ad : Nat → Nat} {S : awS} {f i : Nat} (hf : fK f = 22) : awCell DA ad S f i = .inl (DA 2, sN S f i, .inl (fun j => sI S f i j)) := by
  unfold awCell
  rw [if_neg (by rw [hf]; decide), hf]
  rfl
theorem awCell_B {DA : Nat → ClassId} {ad : Nat → Nat} {S : awS} {f i : Nat} (hf : fK f = 23) : awCell DA ad S f i = .inl (DA 3, sN S f i, .inl (fun j => sI S f i j)) := by
  unfold awCell
  rw [if_neg (by rw [hf]; decide), hf]
  rfl
theorem awCell_A {DA : Nat → ClassId} {ad : Nat → Nat} {S : awS} {f i : Nat} (hf : fK f = 24) : awCell DA ad S f i = .inl (DA 4, sN S f i, .inr (.inr (.inr (.inr (fun j => (sR S f i j).map ad))))) := by
  unfold awCell
  rw [if_neg (by rw [hf]; decide), hf]
  rfl
theorem awCell_O {DA : Nat → ClassId} {ad : Nat → Nat} {S : awS} {f i : Nat} (hf : fK f = 25) : awCell DA ad S f i = .inl (DA 5, sN S f i, .inr (.inr (.inr (.inr (fun j => (sR S f i j).map ad))))) := by
  unfold awCell
  rw [if_neg (by rw [hf]; decide), hf]
  rfl
theorem awCell_D {DA : Nat → ClassId} {ad : Nat → Nat} {S : awS} {f i : Nat} (hf : fK f = 26) : awCell DA ad S f i = .inl (DA 6, sN S f i, .inr (.inr (.inr (.inr (fun j => (sR S f i j).map ad))))) := by
  unfold awCell
  rw [if_neg (by rw [hf]; decide), hf]
  rfl
section ROWS
variable {b : Bool} {E : awE} {M : awM} {pc : Nat} {lv lv' : List (Nat × Value)} {st : List Value} {S : awS} {kc ks : Nat} {Q : Option Value → awS → Nat → Nat → Prop}
theorem ax_iald {f i : Nat} {x : Int32} (hd : decode (awM_c M) pc = .ok (.iaload, 1)) (hf : fK f = 20) (hb : nb b f = true) (hin : vp_in x (sN S f i)) (kk : awX b E M (pc + 1) lv (.int (sI S f i x.toNatClampNeg) :: st) S kc ks Q) : awX b E M pc lv (.int x :: .ref (nm f i) :: st) S kc ks Q := by
  refine awX.step awUp_rf (Nat.le_refl _) (Nat.le_refl _) (fun p e R s m args below meth c0 H locs ad ls Z hC wf hR hlo hls _ _ _ _ kk => ?_) kk
  have hff := fK_row (by rw [hf]; decide)
  have hat := (awR_at hR hff.1 hff.2 hb wf.pop.top).2
  rw [awCell_I hf] at hat
  exact va_iald hC.1 hC.2.1 hC.2.2.2.2.2.2.2.1.1 (va_P1 hat) 0 0 rfl rfl hin hd (kk H locs ad ls awAg_rf (wf.pop.pop.push (v := .int (sI S f i x.toNatClampNeg)) trivial) hR hlo hls)
theorem ax_lald {f i : Nat} {x : Int32} (hd : decode (awM_c M) pc = .ok (.laload, 1)) (hf : fK f = 21) (hb : nb b f = true) (hin : vp_in x (sN S f i)) (kk : awX b E M (pc + 1) lv (.long (sL S f i x.toNatClampNeg) :: st) S kc ks Q) : awX b E M pc lv (.int x :: .ref (nm f i) :: st) S kc ks Q := by
  refine awX.step awUp_rf (Nat.le_refl _) (Nat.le_refl _) (fun p e R s m args below meth c0 H locs ad ls Z hC wf hR hlo hls _ _ _ _ kk => ?_) kk
  have hff := fK_row (by rw [hf]; decide)
  have hat := (awR_at hR hff.1 hff.2 hb wf.pop.top).2
  rw [awCell_J hf] at hat
  exact va_lald hC.1 hC.2.1 hC.2.2.2.2.2.2.2.1.1 (va_P1 hat) 0 1 rfl rfl hin hd (kk H locs ad ls awAg_rf (wf.pop.pop.push (v := .long (sL S f i x.toNatClampNeg)) trivial) hR hlo hls)
theorem ax_zald {f i : Nat} {x : Int32} (hd : decode (awM_c M) pc = .ok (.baload, 1)) (hf : fK f = 22) (hb : nb b f = true) (hin : vp_in x (sN S f i)) (kk : awX b E M (pc + 1) lv (.int (sI S f i x.toNatClampNeg) :: st) S kc ks Q) : awX b E M pc lv (.int x :: .ref (nm f i) :: st) S kc ks Q := by
  refine awX.step awUp_rf (Nat.le_refl _) (Nat.le_refl _) (fun p e R s m args below meth c0 H locs ad ls Z hC wf hR hlo hls _ _ _ _ kk => ?_) kk
  have hff := fK_row (by rw [hf]; decide)
  have hat := (awR_at hR hff.1 hff.2 hb wf.pop.top).2
  rw [awCell_Z hf] at hat
  exact va_zald hC.1 hC.2.1 hC.2.2.2.2.2.2.2.1.1 (va_P1 hat) 0 2 rfl rfl hin hd (kk H locs ad ls awAg_rf (wf.pop.pop.push (v := .int (sI S f i x.toNatClampNeg)) trivial) hR hlo hls)
theorem ax_bald {f i : Nat} {x : Int32} (hd : decode (awM_c M) pc = .ok (.baload, 1)) (hf : fK f = 23) (hb : nb b f = true) (hin : vp_in x (sN S f i)) (kk : awX b E M (pc + 1) lv (.int (sI S f i x.toNatClampNeg) :: st) S kc ks Q) : awX b E M pc lv (.int x :: .ref (nm f i) :: st) S kc ks Q := by
  refine awX.step awUp_rf (Nat.le_refl _) (Nat.le_refl _) (fun p e R s m args below meth c0 H locs ad ls Z hC wf hR hlo hls _ _ _ _ kk => ?_) kk
  have hff := fK_row (by rw [hf]; decide)
  have hat := (awR_at hR hff.1 hff.2 hb wf.pop.top).2
  rw [awCell_B hf] at hat
  exact va_bald hC.1 hC.2.1 hC.2.2.2.2.2.2.2.1.1 (va_P1 hat) 0 3 rfl rfl hin hd (kk H locs ad ls awAg_rf (wf.pop.pop.push (v := .int (sI S f i x.toNatClampNeg)) trivial) hR hlo hls)
theorem ax_aald {f i : Nat} {x : Int32} {r : Option Nat} (hd : decode (awM_c M) pc = .ok (.aaload, 1)) (hf : fK f = 24) (hb : nb b f = true) (hin : vp_in x (sN S f i)) (hr : sR S f i x.toNatClampNeg = r) (kk : awX b E M (pc + 1) lv (va_rf r :: st) S kc ks Q) : awX b E M pc lv (.int x :: .ref (nm f i) :: st) S kc ks Q := by
  subst hr
  refine awX.step awUp_rf (Nat.le_refl _) (Nat.le_refl _) (fun p e R s m args below meth c0 H locs ad ls Z hC wf hR hlo hls _ _ _ _ kk => ?_) kk
  have hff := fK_row (by rw [hf]; decide)
  have hl := wf.pop.top
  have hat := (awR_at hR hff.1 hff.2 hb hl).2
  rw [awCell_A hf] at hat
  have k2 := kk H locs ad ls awAg_rf (wf.pop.pop.push (v := va_rf (sR S f i x.toNatClampNeg)) (by
    cases hr : sR S f i x.toNatClampNeg with
    | none => exact trivial
    | some r => exact awR_cl hR hff.2 hb hl hr)) hR hlo hls
  rw [List.map_cons, rnv_rf] at k2
  exact va_aldq hC.1 hC.2.1 hC.2.2.2.2.2.2.2.1.1 (va_P1 hat) 0 4 rfl rfl hin hd k2
theorem ax_oald {f i : Nat} {x : Int32} {r : Option Nat} (hd : decode (awM_c M) pc = .ok (.aaload, 1)) (hf : fK f = 25) (hb : nb b f = true) (hin : vp_in x (sN S f i)) (hr : sR S f i x.toNatClampNeg = r) (kk : awX b E M (pc + 1) lv (va_rf r :: st) S kc ks Q) : awX b E M pc lv (.int x :: .ref (nm f i) :: st) S kc ks Q := by
  subst hr
  refine awX.step awUp_rf (Nat.le_refl _) (Nat.le_refl _) (fun p e R s m args below meth c0 H locs ad ls Z hC wf hR hlo hls _ _ _ _ kk => ?_) kk
  have hff := fK_row (by rw [hf]; decide)
  have hl := wf.pop.top
  have hat := (awR_at hR hff.1 hff.2 hb hl).2
  rw [awCell_O hf] at hat
  have k2 := kk H locs ad ls awAg_rf (wf.pop.pop.push (v := va_rf (sR S f i x.toNatClampNeg)) (by
    cases hr : sR S f i x.toNatClampNeg with
    | none => exact trivial
    | some r => exact awR_cl hR hff.2 hb hl hr)) hR hlo hls
  rw [List.map_cons, rnv_rf] at k2
  exact va_aldq hC.1 hC.2.1 hC.2.2.2.2.2.2.2.1.1 (va_P1 hat) 0 5 rfl rfl hin hd k2
theorem ax_dald {f i : Nat} {x : Int32} {r : Option Nat} (hd : decode (awM_c M) pc = .ok (.aaload, 1)) (hf : fK f = 26) (hb : nb b f = true) (hin : vp_in x (sN S f i)) (hr : sR S f i x.toNatClampNeg = r) (kk : awX b E M (pc + 1) lv (va_rf r :: st) S kc ks Q) : awX b E M pc lv (.int x :: .ref (nm f i) :: st) S kc ks Q := by
  subst hr
  refine awX.step awUp_rf (Nat.le_refl _) (Nat.le_refl _) (fun p e R s m args below meth c0 H locs ad ls Z hC wf hR hlo hls _ _ _ _ kk => ?_) kk
  have hff := fK_row (by rw [hf]; decide)
  have hl := wf.pop.top
  have hat := (awR_at hR hff.1 hff.2 hb hl).2
  rw [awCell_D hf] at hat
  have k2 := kk H locs ad ls awAg_rf (wf.pop.pop.push (v := va_rf (sR S f i x.toNatClampNeg)) (by
    cases hr : sR S f i x.toNatClampNeg with
    | none => exact trivial
    | some r => exact awR_cl hR hff.2 hb hl hr)) hR hlo hls
  rw [List.map_cons, rnv_rf] at k2
  exact va_aldq hC.1 hC.2.1 hC.2.2.2.2.2.2.2.1.1 (va_P1 hat) 0 6 rfl rfl hin hd k2
theorem ax_iast {f i : Nat} {x : Int32} {y : Int32} (hd : decode (awM_c M) pc = .ok (.iastore, 1)) (hf : fK f = 20) (hb : nb b f = true) (hin : vp_in x (sN S f i)) (kk : awX b E M (pc + 1) lv st (wI S f i x.toNatClampNeg y) kc ks Q) : awX b E M pc lv (.int y :: .int x :: .ref (nm f i) :: st) S kc ks Q := by
  refine awX.step (S1 := wI S f i x.toNatClampNeg y) (fun n h => h) (Nat.le_refl _) (Nat.le_refl _) (fun p e R s m args below meth c0 H locs ad ls Z hC wf hR hlo hls _ _ _ _ kk => ?_) kk
  have hff := fK_row (by rw [hf]; decide)
  have hl : lvN S (nm f i) := wf.pop.pop.top
  obtain ⟨hlo1, hat⟩ := awR_at hR hff.1 hff.2 hb hl
  rw [awCell_I hf] at hat
  refine W.iast hC.1 hC.2.1 hat ((hC.2.2.2.2.2.2.2.1.1.2 0 _ rfl).1 _ _) (fun q => by cases q) (by show ¬ (x < 0 ∨ (arrV _ _ _).slots.size ≤ _); rw [arrV_size]; exact hin) rfl rfl hd fun H1 e z oq => ?_
  refine kk H1 _ ad ls awAg_rf wf.pop.pop.pop (awR_wI hR hff.1 hff.2 hb hl ?_ z oq) (fun q hq => ?_) hls
  · rw [awCell_I hf]
    show H1[ad (nm f i)]? = some (vp_cell _ _)
    rw [e]
    rw [vp_cell_i, vp_cell_i, arrV_store]
    congr 2
    funext q
    show _ = Value.int (sI (wI S f i x.toNatClampNeg y) f i q)
    rw [sI_wI]
    by_cases hq : q = x.toNatClampNeg
    · subst hq
      rw [if_pos ⟨rfl, rfl, rfl⟩]
      unfold updV
      rw [if_pos rfl]
    · rw [if_neg (fun z => hq z.2.2)]
      unfold updV
      rw [if_neg hq]
  · rcases List.mem_append.mp hq with h | h
    · exact hlo q h
    · rw [List.mem_singleton.mp h]; exact hlo1
theorem ax_last {f i : Nat} {x : Int32} {y : Int64} (hd : decode (awM_c M) pc = .ok (.lastore, 1)) (hf : fK f = 21) (hb : nb b f = true) (hin : vp_in x (sN S f i)) (kk : awX b E M (pc + 1) lv st (wL S f i x.toNatClampNeg y) kc ks Q) : awX b E M pc lv (.long y :: .int x :: .ref (nm f i) :: st) S kc ks Q := by
  refine awX.step (S1 := wL S f i x.toNatClampNeg y) (fun n h => h) (Nat.le_refl _) (Nat.le_refl _) (fun p e R s m args below meth c0 H locs ad ls Z hC wf hR hlo hls _ _ _ _ kk => ?_) kk
  have hff := fK_row (by rw [hf]; decide)
  have hl : lvN S (nm f i) := wf.pop.pop.top
  obtain ⟨hlo1, hat⟩ := awR_at hR hff.1 hff.2 hb hl
  rw [awCell_J hf] at hat
  refine W.last hC.1 hC.2.1 hat ((hC.2.2.2.2.2.2.2.1.1.2 1 _ rfl).1 _ _) (fun q => by cases q) (by show ¬ (x < 0 ∨ (arrV _ _ _).slots.size ≤ _); rw [arrV_size]; exact hin) rfl rfl hd fun H1 e z oq => ?_
  refine kk H1 _ ad ls awAg_rf wf.pop.pop.pop (awR_wL hR hff.1 hff.2 hb hl ?_ z oq) (fun q hq => ?_) hls
  · rw [awCell_J hf]
    show H1[ad (nm f i)]? = some (vp_cell _ _)
    rw [e]
    rw [vp_cell_l, vp_cell_l, arrV_store]
    congr 2
    funext q
    show _ = Value.long (sL (wL S f i x.toNatClampNeg y) f i q)
    rw [sL_wL]
    by_cases hq : q = x.toNatClampNeg
    · subst hq
      rw [if_pos ⟨rfl, rfl, rfl⟩]
      unfold updV
      rw [if_pos rfl]
    · rw [if_neg (fun z => hq z.2.2)]
      unfold updV
      rw [if_neg hq]
  · rcases List.mem_append.mp hq with h | h
    · exact hlo q h
    · rw [List.mem_singleton.mp h]; exact hlo1
theorem ax_zast {f i : Nat} {x : Int32} {y : Int32} (hd : decode (awM_c M) pc = .ok (.bastore, 1)) (hf : fK f = 22) (hb : nb b f = true) (hin : vp_in x (sN S f i)) (hn : y &&& 1 = y) (kk : awX b E M (pc + 1) lv st (wI S f i x.toNatClampNeg y) kc ks Q) : awX b E M pc lv (.int y :: .int x :: .ref (nm f i) :: st) S kc ks Q := by
  refine awX.step (S1 := wI S f i x.toNatClampNeg y) (fun n h => h) (Nat.le_refl _) (Nat.le_refl _) (fun p e R s m args below meth c0 H locs ad ls Z hC wf hR hlo hls _ _ _ _ kk => ?_) kk
  have hff := fK_row (by rw [hf]; decide)
  have hl : lvN S (nm f i) := wf.pop.pop.top
  obtain ⟨hlo1, hat⟩ := awR_at hR hff.1 hff.2 hb hl
  rw [awCell_Z hf] at hat
  refine W.zast hC.1 hC.2.1 hat ((hC.2.2.2.2.2.2.2.1.1.2 2 _ rfl).1 _ _) (fun q => by cases q) (by show ¬ (x < 0 ∨ (arrV _ _ _).slots.size ≤ _); rw [arrV_size]; exact hin) rfl rfl hd fun H1 e z oq => ?_
  refine kk H1 _ ad ls awAg_rf wf.pop.pop.pop (awR_wI hR hff.1 hff.2 hb hl ?_ z oq) (fun q hq => ?_) hls
  · rw [awCell_Z hf]
    show H1[ad (nm f i)]? = some (vp_cell _ _)
    rw [e]
    rw [vp_cell_i, vp_cell_i, arrV_store]
    congr 2
    funext q
    show _ = Value.int (sI (wI S f i x.toNatClampNeg y) f i q)
    rw [sI_wI]
    by_cases hq : q = x.toNatClampNeg
    · subst hq
      rw [if_pos ⟨rfl, rfl, rfl⟩]
      unfold updV
      rw [if_pos rfl]
      show Value.int _ = Value.int y
      rw [hn]
    · rw [if_neg (fun z => hq z.2.2)]
      unfold updV
      rw [if_neg hq]
  · rcases List.mem_append.mp hq with h | h
    · exact hlo q h
    · rw [List.mem_singleton.mp h]; exact hlo1
theorem ax_bast {f i : Nat} {x : Int32} {y : Int32} (hd : decode (awM_c M) pc = .ok (.bastore, 1)) (hf : fK f = 23) (hb : nb b f = true) (hin : vp_in x (sN S f i)) (hn : y.toInt8.toInt32 = y) (kk : awX b E M (pc + 1) lv st (wI S f i x.toNatClampNeg y) kc ks Q) : awX b E M pc lv (.int y :: .int x :: .ref (nm f i) :: st) S kc ks Q := by
  refine awX.step (S1 := wI S f i x.toNatClampNeg y) (fun n h => h) (Nat.le_refl _) (Nat.le_refl _) (fun p e R s m args below meth c0 H locs ad ls Z hC wf hR hlo hls _ _ _ _ kk => ?_) kk
  have hff := fK_row (by rw [hf]; decide)
  have hl : lvN S (nm f i) := wf.pop.pop.top
  obtain ⟨hlo1, hat⟩ := awR_at hR hff.1 hff.2 hb hl
  rw [awCell_B hf] at hat
  refine W.bast hC.1 hC.2.1 hat ((hC.2.2.2.2.2.2.2.1.1.2 3 _ rfl).1 _ _) (fun q => by cases q) (by show ¬ (x < 0 ∨ (arrV _ _ _).slots.size ≤ _); rw [arrV_size]; exact hin) rfl rfl hd fun H1 e z oq => ?_
  refine kk H1 _ ad ls awAg_rf wf.pop.pop.pop (awR_wI hR hff.1 hff.2 hb hl ?_ z oq) (fun q hq => ?_) hls
  · rw [awCell_B hf]
    show H1[ad (nm f i)]? = some (vp_cell _ _)
    rw [e]
    rw [vp_cell_i, vp_cell_i, arrV_store]
    congr 2
    funext q
    show _ = Value.int (sI (wI S f i x.toNatClampNeg y) f i q)
    rw [sI_wI]
    by_cases hq : q = x.toNatClampNeg
    · subst hq
      rw [if_pos ⟨rfl, rfl, rfl⟩]
      unfold updV
      rw [if_pos rfl]
      show Value.int _ = Value.int y
      rw [hn]
    · rw [if_neg (fun z => hq z.2.2)]
      unfold updV
      rw [if_neg hq]
  · rcases List.mem_append.mp hq with h | h
    · exact hlo q h
    · rw [List.mem_singleton.mp h]; exact hlo1
theorem ax_alen {f i : Nat} (hd : decode (awM_c M) pc = .ok (.arraylength, 1)) (hf : 20 ≤ fK f ∧ fK f < 27) (hb : nb b f = true) (kk : awX b E M (pc + 1) lv (.int (nI (sN S f i)) :: st) S kc ks Q) : awX b E M pc lv (.ref (nm f i) :: st) S kc ks Q := by
  refine awX.step awUp_rf (Nat.le_refl _) (Nat.le_refl _) (fun p e R s m args below meth c0 H locs ad ls Z hC wf hR hlo hls _ _ _ _ kk => ?_) kk
  have hff := fK_row hf.2
  have hat := (awR_at hR hff.1 hff.2 hb wf.top).2
  have k2 := kk H locs ad ls awAg_rf (wf.pop.push (v := .int (nI (sN S f i))) trivial) hR hlo hls
  have hK := hC.2.2.2.2.2.2.2.1.1
  rcases (show fK f = 20 ∨ fK f = 21 ∨ fK f = 22 ∨ fK f = 23 ∨ fK f = 24 ∨ fK f = 25 ∨ fK f = 26 by omega) with h | h | h | h | h | h | h
  · rw [awCell_I h] at hat
    exact va_alen hC.1 hC.2.1 hK (va_P1 hat) 0 0 rfl rfl rfl hd k2
  · rw [awCell_J h] at hat
    exact va_alen hC.1 hC.2.1 hK (va_P1 hat) 0 1 rfl rfl rfl hd k2
  · rw [awCell_Z h] at hat
    exact va_alen hC.1 hC.2.1 hK (va_P1 hat) 0 2 rfl rfl rfl hd k2
  · rw [awCell_B h] at hat
    exact va_alen hC.1 hC.2.1 hK (va_P1 hat) 0 3 rfl rfl rfl hd k2
  · rw [awCell_A h] at hat
    exact va_alen hC.1 hC.2.1 hK (va_P1 hat) 0 4 rfl rfl rfl hd k2
  · rw [awCell_O h] at hat
    exact va_alen hC.1 hC.2.1 hK (va_P1 hat) 0 5 rfl rfl rfl hd k2
  · rw [awCell_D h] at hat
    exact va_alen hC.1 hC.2.1 hK (va_P1 hat) 0 6 rfl rfl rfl hd k2
end ROWS
theorem awCell_ad {DA : Nat → ClassId} {ad ad' : Nat → Nat} {S : awS} {f i : Nat} (h : ∀ k r, sR S f i k = some r → ad' r = ad r) : awCell DA ad' S f i = awCell DA ad S f i := by
  have e1 : ∀ k, (sR S f i k).map ad' = (sR S f i k).map ad := fun k => by
    cases hr : sR S f i k with
    | none => rfl
    | some r => exact congrArg some (h k r hr)
  have e : ∀ c, fs ad' S f i c = fs ad S f i c := fun c => by
    unfold fs
    refine List.map_congr_left fun k _ => ?_
    unfold fv
    rw [e1]
  unfold awCell
  rw [e]
  simp only [e1]
def adN (ad : Nat → Nat) (n a : Nat) : Nat → Nat := fun x => if x = n then a else ad x
theorem lvN_new {S : awS} {f n m : Nat} (hf2 : f < 256) : lvN (wNew S f n) m ↔ lvN S m ∨ m = nm f (sC S f) := by
  unfold lvN
  rw [sC_wN]
  by_cases h : m % 256 = f
  · rw [if_pos h]
    constructor
    · intro q
      rcases Nat.lt_or_ge (m / 256) (sC S f) with z | z
      · exact Or.inl (by rw [h]; exact z)
      · refine Or.inr ?_
        rw [← nm_self m, h, show m / 256 = sC S f by omega]
    · rintro (q | q)
      · rw [h] at q; omega
      · rw [q, nm_i hf2]; omega
  · rw [if_neg h]
    constructor
    · exact Or.inl
    · rintro (q | q)
      · exact q
      · exact absurd (by rw [q, nm_f hf2]) h
theorem awNew_same {S : awS} {f n f' i' : Nat} (h : ¬ (f' = f ∧ i' = sC S f)) : awSame S (wNew S f n) f' i' := ⟨fun k => by rw [sI_wN, if_neg h], fun k => by rw [sL_wN, if_neg h], fun k => by rw [sR_wN, if_neg h], by rw [sN_wN, if_neg h]⟩
theorem awR0_new {E : awE} {S : awS} {ad : Nat → Nat} {H H1 : Heap} {f n : Nat} (h : awR0 E S ad H) (hf : f < 125 ∨ 127 < f) (hf2 : f < 256) (hz : H1.size = H.size + 1) (ho : ∀ q, q < H.size → H1[q]? = H[q]?)
    (he : va_at (awE_D E) vwCl (H.size, awCell (awE_A E) ad (wNew S f n) f (sC S f)) H1) : awR0 E (wNew S f n) (adN ad (nm f (sC S f)) H.size) H1 := by
  obtain ⟨h1, h2, h3, h4, h5, h6, h7, h8⟩ := h
  have hnl : ¬ lvN S (nm f (sC S f)) := fun z => by rw [lvN_nm hf2] at z; omega
  have had : ∀ m, lvN S m → adN ad (nm f (sC S f)) H.size m = ad m := fun m hm => if_neg (fun z => hnl (by rw [← z]; exact hm))
  have hsz : ∀ m, lvN S m → (m % 256 < 125 ∨ 127 < m % 256) → ad m < H.size := fun m hm a => (h3 m hm a).2.lt
  have hCC : lvN S nmC := by rw [nmC, lvN_nm (by decide), h8.2]; decide
  have hE : lvN S nmE := by rw [nmE, lvN_nm (by decide), h6.2.2]; decide
  have hS' : lvN S nmS := by rw [nmS, lvN_nm (by decide), h7.2.2]; decide
  refine ⟨fun q hq => (ho q (by omega)).trans (h1 q hq), by omega, fun m hm n1 => ?_, fun m m' a b n1 n2 => ?_, fun f' i' k r a b => ?_, ⟨(had _ hE).trans h6.1, h6.2.1, by rw [sC_wN]; rw [if_neg (by omega)]; exact h6.2.2⟩, ⟨(had _ hS').trans h7.1, h7.2.1, by rw [sC_wN]; rw [if_neg (by omega)]; exact h7.2.2⟩, ⟨(had _ hCC).trans h8.1, by rw [sC_wN]; rw [if_neg (by omega)]; exact h8.2⟩⟩
  · rcases (lvN_new hf2).mp hm with q | q
    · have hd : ¬ (m % 256 = f ∧ m / 256 = sC S f) := fun z => hnl (by rw [← z.2, ← z.1, nm_self]; exact q)
      obtain ⟨g1, g2⟩ := h3 m q n1
      rw [had m q, awCell_same (awNew_same hd), awCell_ad (ad := ad) (fun k r hr => had r (h5 _ _ k r q hr))]
      exact ⟨g1, g2.kept (ho _ (hsz m q n1))⟩
    · subst q
      rw [nm_f hf2, nm_i hf2, awCell_ad (ad := ad) (fun k r hr => by rw [sR_wN, if_pos ⟨rfl, rfl⟩] at hr; cases hr)]
      have e0 : adN ad (nm f (sC S f)) H.size (nm f (sC S f)) = H.size := if_pos rfl
      rw [e0]
      exact ⟨h2, he⟩
  · intro e
    rcases (lvN_new hf2).mp a with q | q <;> rcases (lvN_new hf2).mp b with q' | q'
    · rw [had m q, had m' q'] at e
      exact h4 m m' q q' n1 n2 e
    · subst q'
      have e0 : adN ad (nm f (sC S f)) H.size (nm f (sC S f)) = H.size := if_pos rfl
      rw [had m q, e0] at e
      have := hsz m q n1
      omega
    · subst q
      have e0 : adN ad (nm f (sC S f)) H.size (nm f (sC S f)) = H.size := if_pos rfl
      rw [had m' q', e0] at e
      have := hsz m' q' n2
      omega
    · rw [q, q']
  · rw [sR_wN] at b
    by_cases q : f' = f ∧ i' = sC S f
    · rw [if_pos q] at b; cases b
    · rw [if_neg q] at b
      refine (lvN_new hf2).mpr (Or.inl (h5 f' i' k r ?_ b))
      rw [sC_wN] at a
      by_cases q2 : f' = f
      · rw [if_pos q2] at a
        subst q2
        omega
      · rw [if_neg q2] at a; exact a
theorem awHid_new {S S0 : awS} (h : awHid S S0) {f : Nat} (hf : nb true f = true) (hf2 : f < 256) (n : Nat) : awHid (wNew S f n) (wNew S0 f n) := by
  have hf' : ¬ (32 ≤ f ∧ f < 64) := by simp [nb] at hf; omega
  obtain ⟨h1, h2, h3, h4, h5⟩ := h
  have e : sC S0 f = sC S f := h2 f (by omega)
  have up : ∀ m, lvN S m → lvN (wNew S f n) m := fun m hm => (lvN_new hf2).mpr (Or.inl hm)
  refine ⟨fun g hg => ?_, fun g hg => ?_, fun g a b => ?_, fun q hq hc hk => ?_, fun f' i' k' r a b c => ?_⟩
  · obtain ⟨a, b, c, d⟩ := h1 g hg
    refine ⟨fun i' k' => ?_, fun i' k' => ?_, fun i' k' => ?_, fun i' => ?_⟩
    · rw [sI_wN, sI_wN, a, e]
    · rw [sL_wN, sL_wN, b, e]
    · rw [sR_wN, sR_wN, c, e]
    · rw [sN_wN, sN_wN, d, e]
  · rw [sC_wN, sC_wN, e, h2 g hg]
  · rw [sC_wN, if_neg (by omega)]; exact h3 g a b
  · rw [sC_wN, if_neg (by omega)] at hc
    have := h4 q hq hc hk
    simp only [sR_wN, sI_wN, sC_wN, sN_wN, sK_wN]
    rw [if_neg (by omega), if_neg (by omega), if_neg (show ¬ 48 + q = f by omega)]
    refine ⟨this.1, fun j hj => up _ (this.2.1 j hj), ?_⟩
    rcases this.2.2 with z | ⟨g, z1, z2, z3, z4, z5, z6⟩
    · exact Or.inl z
    · refine Or.inr ⟨g, z1, z2, ?_, ?_, ?_, fun j hj => by rw [if_neg (by omega)]; exact z6.1 j hj, fun j r hr => by rw [if_neg (by omega)] at hr; exact z6.2 j r hr⟩ <;> rw [if_neg (by omega)] <;> assumption
  · rw [sR_wN] at c
    by_cases q : f' = f ∧ i' = sC S f
    · rw [if_pos q] at c; cases c
    · rw [if_neg q] at c
      refine up _ (h5 f' i' k' r a ?_ c)
      rw [sC_wN] at b
      by_cases q2 : f' = f
      · rw [if_pos q2] at b
        subst q2
        omega
      · rw [if_neg q2] at b; exact b
theorem awR_new {b : Bool} {E : awE} {S : awS} {ad : Nat → Nat} {H H1 : Heap} {f n : Nat} (h : awR b E S ad H) (hf : f < 125 ∨ 127 < f) (hf2 : f < 256) (hb : nb b f = true) (hz : H1.size = H.size + 1) (ho : ∀ q, q < H.size → H1[q]? = H[q]?)
    (he : va_at (awE_D E) vwCl (H.size, awCell (awE_A E) ad (wNew S f n) f (sC S f)) H1) : awR b E (wNew S f n) (adN ad (nm f (sC S f)) H.size) H1 := by
  cases b with
  | false => exact awR0_new h hf hf2 hz ho he
  | true =>
    obtain ⟨S0, hh, h0⟩ := h
    have e : sC S0 f = sC S f := hh.2.1 f (by simp [nb] at hb; omega)
    have h2 := awHid_new hh hb hf2 n
    refine ⟨wNew S0 f n, h2, ?_⟩
    rw [← e]
    refine awR0_new h0 hf hf2 hz ho ?_
    rw [e, awCell_same (h2.same hb (sC S f))]
    exact he
theorem awAg_new {S : awS} {ad : Nat → Nat} {f a : Nat} (hf2 : f < 256) : awAg S ad (adN ad (nm f (sC S f)) a) := fun m hm => if_neg (fun z => by rw [z, lvN_nm hf2] at hm; omega)
theorem oDef : ∀ c, c < 14 → ∀ j, j < (oCl c).2.2 → defaultValue (oTy c j) = (match tyK (oTy c j) with | 1 => Value.long 0 | 2 => Value.null | _ => Value.int 0) := by decide +kernel
section NEWS
variable {b : Bool} {E : awE} {M : awM} {pc : Nat} {lv lv' : List (Nat × Value)} {st : List Value} {S : awS} {kc ks : Nat} {Q : Option Value → awS → Nat → Nat → Prop}
def awCls (own : String) (idx c : Nat) : Prop := c < 14 ∧ Cond.classLink own idx (oCl c).1 ∈ awBig ∧ Cond.instantiable (oCl c).1 (oCl c).2.2 ∈ awBig ∧ Cond.initialized (oCl c).1 ∈ awBig
theorem ax_new {idx f c : Nat} (hd : decode (awM_c M) pc = .ok (.new idx, 3)) (hw : awCls (awM_y M).cls idx c) (hf : fK f = c) (hb : nb b f = true) (kk : awX b E M (pc + 3) lv (.ref (nm f (sC S f)) :: st) (wNew S f 0) (kc + 1) (ks + (oCl c).2.2) Q) : awX b E M pc lv st S kc ks Q := by
  obtain ⟨hc, w1, w2, w3⟩ := hw
  have hff := fK_obj (by rw [hf]; exact hc)
  refine awX.step (fun m hm => (lvN_new hff.2).mpr (Or.inl hm)) (Nat.le_add_right _ _) (Nat.le_add_right _ _) (fun p e R s m args below meth c0 H locs ad ls Z hC wf hR hlo hls _ _ hcc hss kk => ?_) kk
  have hKn := hC.2.2.2.2.2.2.2.1.1.1 c _ (oCl_at c hc)
  have hts := hC.2.2.2.2.2.2.1
  refine W.newcK hC.1 hC.2.1 hC.2.2.2.2.2.1 (hts _ w1) (hts _ w2) (hts _ w3) rfl hd hcc hss hKn.2.1 rfl fun H1 kC hkC e1 z1 o1 => ?_
  have hag : awAg S ad (adN ad (nm f (sC S f)) H.size) := awAg_new hff.2
  have up : ∀ v, lvV S v → lvV (wNew S f 0) v := fun v h => h.up (fun m hm => (lvN_new hff.2).mpr (Or.inl hm))
  have k2 := kk H1 locs (adN ad (nm f (sC S f)) H.size) ls hag ⟨fun q hq => up _ (wf.1 q hq), fun v hv => (List.mem_cons.mp hv).elim (fun e => by rw [e]; exact (lvN_new hff.2).mpr (Or.inr rfl)) (fun h => up _ (wf.2 v h))⟩ (awR_new hR hff.1 hff.2 hb z1 o1 ?_) hlo (by rw [lvm_ag hag wf.1]; exact hls)
  · rw [List.map_cons, st_ag hag wf.2] at k2
    have e0 : rnv (adN ad (nm f (sC S f)) H.size) (.ref (nm f (sC S f))) = .ref H.size := congrArg Value.ref (if_pos rfl)
    rw [e0] at k2
    exact k2
  · rw [awCell_obj hf hc]
    refine ⟨_, oCl_at c hc, (u_born (oTy c) hts (oWs c hc) hKn hkC e1 (oTy_ok c hc)).to fun j hj => ?_⟩
    rw [vpV_fs hj, oDef c hc j hj]
    unfold fv
    rw [sI_wN, sL_wN, sR_wN, if_pos ⟨rfl, rfl⟩, if_pos ⟨rfl, rfl⟩, if_pos ⟨rfl, rfl⟩]
    rfl
theorem ax_newI {f n : Nat} {x : Int32} (hd : decode (awM_c M) pc = .ok (.newarray .int, 2)) (hw : Cond.arrayClass .int ∈ awBig) (hf : fK f = 20) (hb : nb b f = true) (hx : ¬ x < 0) (hn : x.toNatClampNeg = n) (hs : n * 8 ≤ 536870912) (kk : awX b E M (pc + 2) lv (.ref (nm f (sC S f)) :: st) (wNew S f n) (kc + 1) (ks + n) Q) : awX b E M pc lv (.int x :: st) S kc ks Q := by
  have hff := fK_row (f := f) (by rw [hf]; decide)
  refine awX.step (fun m hm => (lvN_new hff.2).mpr (Or.inl hm)) (Nat.le_add_right _ _) (Nat.le_add_right _ _) (fun p e R s m args below meth c0 H locs ad ls Z hC wf hR hlo hls _ _ hcc hss kk => ?_) kk
  refine va_newaK hC.1 hC.2.1 (atype := .int) (hC.2.2.2.2.2.2.1 _ hw) rfl hd rfl hx hn (Nat.le_trans (Nat.mul_le_mul_left _ (by decide)) hs) hcc hss rfl fun H1 cA e1 z1 o1 hAr hNm => ?_
  have hcA : cA = awE_A E 0 := Option.some.inj (hNm.symm.trans (hC.2.2.2.2.2.2.2.1.1.2 0 _ rfl).2)
  subst hcA
  have hag : awAg S ad (adN ad (nm f (sC S f)) H.size) := awAg_new hff.2
  have up : ∀ v, lvV S v → lvV (wNew S f n) v := fun v h => h.up (fun m hm => (lvN_new hff.2).mpr (Or.inl hm))
  have k2 := kk H1 locs (adN ad (nm f (sC S f)) H.size) ls hag ⟨fun q hq => up _ (wf.1 q hq), fun v hv => (List.mem_cons.mp hv).elim (fun e => by rw [e]; exact (lvN_new hff.2).mpr (Or.inr rfl)) (fun h => up _ (wf.pop.2 v h))⟩ (awR_new hR hff.1 hff.2 hb z1 o1 ?_) hlo (by rw [lvm_ag hag wf.1]; exact hls)
  · rw [List.map_cons, st_ag hag wf.pop.2] at k2
    have e0 : rnv (adN ad (nm f (sC S f)) H.size) (.ref (nm f (sC S f))) = .ref H.size := congrArg Value.ref (if_pos rfl)
    rw [e0] at k2
    exact k2
  · rw [awCell_I hf]
    show H1[H.size]? = some (vp_cell _ _)
    rw [e1, vp_cell_i, sN_wN, if_pos ⟨rfl, rfl⟩]
    congr 2
    funext j
    rw [sI_wN, if_pos ⟨rfl, rfl⟩]
    rfl
theorem ax_newJ {f n : Nat} {x : Int32} (hd : decode (awM_c M) pc = .ok (.newarray .long, 2)) (hw : Cond.arrayClass .long ∈ awBig) (hf : fK f = 21) (hb : nb b f = true) (hx : ¬ x < 0) (hn : x.toNatClampNeg = n) (hs : n * 8 ≤ 536870912) (kk : awX b E M (pc + 2) lv (.ref (nm f (sC S f)) :: st) (wNew S f n) (kc + 1) (ks + n) Q) : awX b E M pc lv (.int x :: st) S kc ks Q := by
  have hff := fK_row (f := f) (by rw [hf]; decide)
  refine awX.step (fun m hm => (lvN_new hff.2).mpr (Or.inl hm)) (Nat.le_add_right _ _) (Nat.le_add_right _ _) (fun p e R s m args below meth c0 H locs ad ls Z hC wf hR hlo hls _ _ hcc hss kk => ?_) kk
  refine va_newaK hC.1 hC.2.1 (atype := .long) (hC.2.2.2.2.2.2.1 _ hw) rfl hd rfl hx hn (Nat.le_trans (Nat.mul_le_mul_left _ (by decide)) hs) hcc hss rfl fun H1 cA e1 z1 o1 hAr hNm => ?_
  have hcA : cA = awE_A E 1 := Option.some.inj (hNm.symm.trans (hC.2.2.2.2.2.2.2.1.1.2 1 _ rfl).2)
  subst hcA
  have hag : awAg S ad (adN ad (nm f (sC S f)) H.size) := awAg_new hff.2
  have up : ∀ v, lvV S v → lvV (wNew S f n) v := fun v h => h.up (fun m hm => (lvN_new hff.2).mpr (Or.inl hm))
  have k2 := kk H1 locs (adN ad (nm f (sC S f)) H.size) ls hag ⟨fun q hq => up _ (wf.1 q hq), fun v hv => (List.mem_cons.mp hv).elim (fun e => by rw [e]; exact (lvN_new hff.2).mpr (Or.inr rfl)) (fun h => up _ (wf.pop.2 v h))⟩ (awR_new hR hff.1 hff.2 hb z1 o1 ?_) hlo (by rw [lvm_ag hag wf.1]; exact hls)
  · rw [List.map_cons, st_ag hag wf.pop.2] at k2
    have e0 : rnv (adN ad (nm f (sC S f)) H.size) (.ref (nm f (sC S f))) = .ref H.size := congrArg Value.ref (if_pos rfl)
    rw [e0] at k2
    exact k2
  · rw [awCell_J hf]
    show H1[H.size]? = some (vp_cell _ _)
    rw [e1, vp_cell_l, sN_wN, if_pos ⟨rfl, rfl⟩]
    congr 2
    funext j
    rw [sL_wN, if_pos ⟨rfl, rfl⟩]
    rfl
theorem ax_newZ {f n : Nat} {x : Int32} (hd : decode (awM_c M) pc = .ok (.newarray .boolean, 2)) (hw : Cond.arrayClass .boolean ∈ awBig) (hf : fK f = 22) (hb : nb b f = true) (hx : ¬ x < 0) (hn : x.toNatClampNeg = n) (hs : n * 8 ≤ 536870912) (kk : awX b E M (pc + 2) lv (.ref (nm f (sC S f)) :: st) (wNew S f n) (kc + 1) (ks + n) Q) : awX b E M pc lv (.int x :: st) S kc ks Q := by
  have hff := fK_row (f := f) (by rw [hf]; decide)
  refine awX.step (fun m hm => (lvN_new hff.2).mpr (Or.inl hm)) (Nat.le_add_right _ _) (Nat.le_add_right _ _) (fun p e R s m args below meth c0 H locs ad ls Z hC wf hR hlo hls _ _ hcc hss kk => ?_) kk
  refine va_newaK hC.1 hC.2.1 (atype := .boolean) (hC.2.2.2.2.2.2.1 _ hw) rfl hd rfl hx hn (Nat.le_trans (Nat.mul_le_mul_left _ (by decide)) hs) hcc hss rfl fun H1 cA e1 z1 o1 hAr hNm => ?_
  have hcA : cA = awE_A E 2 := Option.some.inj (hNm.symm.trans (hC.2.2.2.2.2.2.2.1.1.2 2 _ rfl).2)
  subst hcA
  have hag : awAg S ad (adN ad (nm f (sC S f)) H.size) := awAg_new hff.2
  have up : ∀ v, lvV S v → lvV (wNew S f n) v := fun v h => h.up (fun m hm => (lvN_new hff.2).mpr (Or.inl hm))
  have k2 := kk H1 locs (adN ad (nm f (sC S f)) H.size) ls hag ⟨fun q hq => up _ (wf.1 q hq), fun v hv => (List.mem_cons.mp hv).elim (fun e => by rw [e]; exact (lvN_new hff.2).mpr (Or.inr rfl)) (fun h => up _ (wf.pop.2 v h))⟩ (awR_new hR hff.1 hff.2 hb z1 o1 ?_) hlo (by rw [lvm_ag hag wf.1]; exact hls)
  · rw [List.map_cons, st_ag hag wf.pop.2] at k2
    have e0 : rnv (adN ad (nm f (sC S f)) H.size) (.ref (nm f (sC S f))) = .ref H.size := congrArg Value.ref (if_pos rfl)
    rw [e0] at k2
    exact k2
  · rw [awCell_Z hf]
    show H1[H.size]? = some (vp_cell _ _)
    rw [e1, vp_cell_i, sN_wN, if_pos ⟨rfl, rfl⟩]
    congr 2
    funext j
    rw [sI_wN, if_pos ⟨rfl, rfl⟩]
    rfl
theorem ax_newB {f n : Nat} {x : Int32} (hd : decode (awM_c M) pc = .ok (.newarray .byte, 2)) (hw : Cond.arrayClass .byte ∈ awBig) (hf : fK f = 23) (hb : nb b f = true) (hx : ¬ x < 0) (hn : x.toNatClampNeg = n) (hs : n * 8 ≤ 536870912) (kk : awX b E M (pc + 2) lv (.ref (nm f (sC S f)) :: st) (wNew S f n) (kc + 1) (ks + n) Q) : awX b E M pc lv (.int x :: st) S kc ks Q := by
  have hff := fK_row (f := f) (by rw [hf]; decide)
  refine awX.step (fun m hm => (lvN_new hff.2).mpr (Or.inl hm)) (Nat.le_add_right _ _) (Nat.le_add_right _ _) (fun p e R s m args below meth c0 H locs ad ls Z hC wf hR hlo hls _ _ hcc hss kk => ?_) kk
  refine va_newaK hC.1 hC.2.1 (atype := .byte) (hC.2.2.2.2.2.2.1 _ hw) rfl hd rfl hx hn (Nat.le_trans (Nat.mul_le_mul_left _ (by decide)) hs) hcc hss rfl fun H1 cA e1 z1 o1 hAr hNm => ?_
  have hcA : cA = awE_A E 3 := Option.some.inj (hNm.symm.trans (hC.2.2.2.2.2.2.2.1.1.2 3 _ rfl).2)
  subst hcA
  have hag : awAg S ad (adN ad (nm f (sC S f)) H.size) := awAg_new hff.2
  have up : ∀ v, lvV S v → lvV (wNew S f n) v := fun v h => h.up (fun m hm => (lvN_new hff.2).mpr (Or.inl hm))
  have k2 := kk H1 locs (adN ad (nm f (sC S f)) H.size) ls hag ⟨fun q hq => up _ (wf.1 q hq), fun v hv => (List.mem_cons.mp hv).elim (fun e => by rw [e]; exact (lvN_new hff.2).mpr (Or.inr rfl)) (fun h => up _ (wf.pop.2 v h))⟩ (awR_new hR hff.1 hff.2 hb z1 o1 ?_) hlo (by rw [lvm_ag hag wf.1]; exact hls)
  · rw [List.map_cons, st_ag hag wf.pop.2] at k2
    have e0 : rnv (adN ad (nm f (sC S f)) H.size) (.ref (nm f (sC S f))) = .ref H.size := congrArg Value.ref (if_pos rfl)
    rw [e0] at k2
    exact k2
  · rw [awCell_B hf]
    show H1[H.size]? = some (vp_cell _ _)
    rw [e1, vp_cell_i, sN_wN, if_pos ⟨rfl, rfl⟩]
    congr 2
    funext j
    rw [sI_wN, if_pos ⟨rfl, rfl⟩]
    rfl
end NEWS
