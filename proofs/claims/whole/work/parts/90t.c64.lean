/-- only what a group finds anew differs -/
def gsE (S S1 : awS) : Prop := S1.2 = S.2 ∧ ∀ f i j, ¬ (f = 3 ∧ 4 ≤ j) → sI S1 f i j = sI S f i j
theorem gsE.rf {S : awS} : gsE S S := ⟨rfl, fun _ _ _ _ => rfl⟩
theorem gsE.tr {S S1 S2 : awS} (h : gsE S S1) (h' : gsE S1 S2) : gsE S S2 := ⟨h'.1.trans h.1, fun f i j q => (h'.2 f i j q).trans (h.2 f i j q)⟩
theorem gsE.w {S : awS} {g j : Nat} {v : Int32} (hj : 4 ≤ j) : gsE S (wI S 3 g j v) := ⟨rfl, fun f i k h => by
  rw [sI_wI, if_neg (fun z => h ⟨z.1, by rw [z.2.2]; exact hj⟩)]⟩
theorem cR.gs {τ : Nat → Nat → Nat} {S S1 : awS} {M : aM} (R : cR τ S M) (h : gsE S S1) : cR τ S1 M := by
  have e : S1 = (fun f i j => if f = 3 ∧ 4 ≤ j then S1.1 f i j else S.1 f i j, S.2) := by
    obtain ⟨I, T⟩ := S1
    refine Prod.ext ?_ h.1
    funext f i j
    show I f i j = if f = 3 ∧ 4 ≤ j then I f i j else S.1 f i j
    by_cases q : f = 3 ∧ 4 ≤ j
    · rw [if_pos q]
    · rw [if_neg q]; exact h.2 f i j q
  rw [e]
  exact cR.mk' R.mI R.tow R.lst R.cx R.cnt.2.1 R.cnt.2.2 R.src R.rul R.ala R.ltr R.brd R.ix R.la R.sca R.val R.ref R.wat R.flg R.tru R.hld R.lea R.row R.bdr R.inv
theorem gsE.fm {S S1 : awS} (h : gsE S S1) : cFm S S1 := by
  obtain ⟨I, T⟩ := S1
  have h1 : T = S.2 := h.1
  subst h1
  exact fun f hf => ⟨fun i k => h.2 f i k (fun z => hf (by rw [z.1]; exact ⟨by decide, by decide, by decide⟩)), fun _ _ => rfl, fun _ _ => rfl, fun _ => rfl, rfl⟩
def gFr (S : awS) (M : aM) (g x : Nat) : Prop := mE M 42 x = g ∧ 0 < sI S 1 x 8 ∧ sI S 1 x 10 = 0
def gV (S : awS) (M : aM) (n g : Nat) (v4 v5 v6 : Int32) : Prop := (v4 = 0 ↔ ¬ ∃ x, x < n ∧ mE M 42 x = g ∧ sI S 1 x 5 = 0) ∧ (v5 = 0 ↔ ¬ ∃ x, x < n ∧ mE M 42 x = g ∧ 0 < sI S 1 x 8) ∧ (0 ≤ v6 ∧ (v6 = 0 → ∀ x, x < n → ¬ gFr S M g x) ∧ (0 < v6 → (∃ x, x < n ∧ gFr S M g x ∧ sI S 1 x 8 = v6) ∧ ∀ x, x < n → gFr S M g x → v6 ≤ sI S 1 x 8))
theorem gV_0 (S : awS) (M : aM) (g : Nat) : gV S M 0 g 0 0 0 := ⟨⟨fun _ ⟨x, z, _⟩ => absurd z (Nat.not_lt_zero x), fun _ => rfl⟩, ⟨fun _ ⟨x, z, _⟩ => absurd z (Nat.not_lt_zero x), fun _ => rfl⟩, Int32.le_refl 0, fun _ x z => absurd z (Nat.not_lt_zero x), fun z => absurd z (by decide)⟩
theorem gV_o {S : awS} {M : aM} {n g : Nat} {v4 v5 v6 : Int32} (h : gV S M n g v4 v5 v6) (ne : ¬ mE M 42 n = g) : gV S M (n + 1) g v4 v5 v6 := by
  have lt : ∀ x, x < n + 1 → mE M 42 x = g → x < n := fun x hx e => by
    by_cases c : x = n
    · subst c; exact absurd e ne
    · omega
  obtain ⟨h1, h2, h3, h4, h5⟩ := h
  refine ⟨h1.trans ⟨fun z ⟨x, a, b, c⟩ => z ⟨x, lt x a b, b, c⟩, fun z ⟨x, a, b, c⟩ => z ⟨x, by omega, b, c⟩⟩, h2.trans ⟨fun z ⟨x, a, b, c⟩ => z ⟨x, lt x a b, b, c⟩, fun z ⟨x, a, b, c⟩ => z ⟨x, by omega, b, c⟩⟩, h3, fun z x hx f => h4 z x (lt x hx f.1) f, fun z => ?_⟩
  obtain ⟨⟨x, a, b, c⟩, d⟩ := h5 z
  exact ⟨⟨x, by omega, b, c⟩, fun y hy f => d y (lt y hy f.1) f⟩
theorem bC_0 {p : Prop} : bC p = 0 ↔ ¬ p := ⟨fun z q => by rw [bC_t q] at z; exact absurd z (by decide), bC_f⟩
theorem gV_s {S : awS} {M : aM} {n g : Nat} {v4 v5 v6 : Int32} (h : gV S M n g v4 v5 v6) (e : mE M 42 n = g) : gV S M (n + 1) g (bC (¬ v4 = 0 ∨ sI S 1 n 5 = 0)) (bC (¬ v5 = 0 ∨ 0 < sI S 1 n 8)) (@ite Int32 ((0 < sI S 1 n 8 ∧ sI S 1 n 10 = 0) ∧ (v6 = 0 ∨ sI S 1 n 8 < v6)) (Classical.propDecidable _) (sI S 1 n 8) v6) := by
  obtain ⟨h1, h2, h3, h4, h5⟩ := h
  have ex : ∀ p : Nat → Prop, (¬ ∃ x, x < n + 1 ∧ mE M 42 x = g ∧ p x) ↔ (¬ ((∃ x, x < n ∧ mE M 42 x = g ∧ p x) ∨ p n)) := fun p => ⟨fun z w => z (w.elim (fun ⟨x, a, b⟩ => ⟨x, by omega, b⟩) (fun q => ⟨n, Nat.lt_succ_self n, e, q⟩)), fun z ⟨x, a, b, c⟩ => z (by
    by_cases k : x = n
    · subst k; exact Or.inr c
    · exact Or.inl ⟨x, by omega, b, c⟩)⟩
  refine ⟨?_, ?_, ?_⟩
  · rw [bC_0, ex (fun x => sI S 1 x 5 = 0)]
    exact ⟨fun z w => w.elim (fun q => z (Or.inl (fun k => (h1.mp k) q))) (fun q => z (Or.inr q)), fun z w => w.elim (fun q => z (Or.inl (Classical.byContradiction fun k => q (h1.mpr k)))) (fun q => z (Or.inr q))⟩
  · rw [bC_0, ex (fun x => 0 < sI S 1 x 8)]
    exact ⟨fun z w => w.elim (fun q => z (Or.inl (fun k => (h2.mp k) q))) (fun q => z (Or.inr q)), fun z w => w.elim (fun q => z (Or.inl (Classical.byContradiction fun k => q (h2.mpr k)))) (fun q => z (Or.inr q))⟩
  · by_cases c : (0 < sI S 1 n 8 ∧ sI S 1 n 10 = 0) ∧ (v6 = 0 ∨ sI S 1 n 8 < v6)
    · rw [if_pos c]
      refine ⟨Int32.le_of_lt c.1.1, fun z => absurd c.1.1 (by rw [z]; exact Int32.lt_irrefl), fun _ => ⟨⟨n, Nat.lt_succ_self n, ⟨e, c.1⟩, rfl⟩, fun x hx f => ?_⟩⟩
      by_cases k : x = n
      · rw [k]; exact Int32.le_refl _
      · rcases c.2 with y | y
        · exact absurd f (h4 y x (by omega))
        · exact Int32.le_of_lt (Int32.lt_of_lt_of_le y ((h5 (Int32.lt_trans c.1.1 y)).2 x (by omega) f))
    · rw [if_neg c]
      refine ⟨h3, fun z x hx f => ?_, fun z => ?_⟩
      · by_cases k : x = n
        · subst k; exact c ⟨f.2, Or.inl z⟩
        · exact h4 z x (by omega) f
      · obtain ⟨⟨x, a, b, d⟩, k⟩ := h5 z
        refine ⟨⟨x, by omega, b, d⟩, fun y hy f => ?_⟩
        by_cases k2 : y = n
        · subst k2
          exact Int32.not_lt.mp (fun w => c ⟨f.2, Or.inr w⟩)
        · exact k y (by omega) f
theorem seeS_e {S : awS} {g x : Nat} : gsE S (seeS S g x) := by
  unfold seeS
  simp only []
  split
  · exact ((gsE.w (by decide)).tr (gsE.w (by decide))).tr (gsE.w (by decide))
  · exact (gsE.w (by decide)).tr (gsE.w (by decide))
theorem seeS_o {S : awS} {g x i : Nat} (h : ¬ i = g) (j : Nat) : sI (seeS S g x) 3 i j = sI S 3 i j := by
  unfold seeS
  simp only []
  split
  · simp [sI_wI, h]
  · simp [sI_wI, h]
theorem seeS_v {S : awS} {g x : Nat} : sI (seeS S g x) 3 g 4 = bC (¬ sI S 3 g 4 = 0 ∨ sI S 1 x 5 = 0) ∧ sI (seeS S g x) 3 g 5 = bC (¬ sI S 3 g 5 = 0 ∨ 0 < sI S 1 x 8) ∧ sI (seeS S g x) 3 g 6 = @ite Int32 ((0 < sI S 1 x 8 ∧ sI S 1 x 10 = 0) ∧ (sI S 3 g 6 = 0 ∨ sI S 1 x 8 < sI S 3 g 6)) (Classical.propDecidable _) (sI S 1 x 8) (sI S 3 g 6) := by
  unfold seeS
  simp only []
  by_cases c : (0 < sI S 1 x 8 ∧ sI S 1 x 10 = 0) ∧ (sI S 3 g 6 = 0 ∨ sI S 1 x 8 < sI S 3 g 6)
  · rw [if_pos c, if_pos c]
    simp [sI_wI]
  · rw [if_neg c, if_neg c]
    simp [sI_wI]

set_option maxHeartbeats 400000 in
set_option maxRecDepth 100000 in
theorem c_lookByGroups {E : awE} {S : awS} {M : aM} {τ : Nat → Nat → Nat} {Q : Option Value → awS → Nat → Nat → Prop} (R : cR τ S M) (h : ∀ S1, gsE S S1 → (∀ g, g < (mN M 48) → gV S M (mN M 30) g (sI S1 3 g 4) (sI S1 3 g 5) (sI S1 3 g 6)) → Q none S1 0 0) : awT true E m_X11_lookByGroups [.ref (nm 12 0)] S Q := by
  refine awT.of (by decide) (by decide) (Nat.le_of_ble_eq_true rfl) ?_
  have e_b := R.nG
  have e_b2 := R.nA
  have L2 : ∀ (m k : Nat), k + m = (mN M 30) → ∀ S1 : awS, gsE S S1 → (∀ g, g < (mN M 48) → gV S M k g (sI S1 3 g 4) (sI S1 3 g 5) (sI S1 3 g 6)) → awX true E m_X11_lookByGroups 35 [(1, .int (nI k)), (0, .ref (nm 12 0))] [] S1 0 0 Q := by
    intro m
    induction m with
    | zero =>
      intro k hm1 S1 f1 z1
      refine ax_iload_n (i := 1) dX11_lookByGroups_35 rfl rfl ?_
      refine ax_aload_n (i := 0) dX11_lookByGroups_36 rfl rfl rfl ?_
      refine ax_getR dX11_lookByGroups_37 fl_X11_22 rfl rfl rfl ((R.gs f1).tow.1 3 (by decide)) ?_
      refine ax_invV (c := 0) (n := 0) (As := []) dX11_lookByGroups_40 cb_Jx4a65c_size_8abf5 cv_X11_75.1 cv_X11_75.2.1 cv_X11_75.2.2 rfl (by decide) rfl ⟨Nat.le_of_ble_eq_true rfl, Nat.le_of_ble_eq_true rfl⟩ (Nat.le_of_ble_eq_true rfl) rfl (t_lsSize (q := 3) (by decide) ((R.gs f1).lq (by decide)) ((R.gs f1).lst.2.2.2.1) (Nat.lt_of_le_of_lt (mS_b (R.gs f1).mI (k := 30) (b := 300) (by decide)) (by decide)) ?_)
      refine ax_icmp_ge (tgt := 80) dX11_lookByGroups_43 (by decide) (fun c_43 => ?_) (fun c_43 => ?_)
      · have hk2 : k = (mN M 30) := Nat.le_antisymm (by omega) (ge_of_c (b := (mN M 30)) rfl c_43 (by omega))
        refine ax_vret dX11_lookByGroups_80 rfl ?_
        rw [hk2] at z1
        exact h S1 f1 z1
      · exact absurd (lt_of_c (b := (mN M 30)) rfl c_43 (by omega)) (by omega)
    | succ m ih =>
      intro k hm1 S1 f1 z1
      refine ax_iload_n (i := 1) dX11_lookByGroups_35 rfl rfl ?_
      refine ax_aload_n (i := 0) dX11_lookByGroups_36 rfl rfl rfl ?_
      refine ax_getR dX11_lookByGroups_37 fl_X11_22 rfl rfl rfl ((R.gs f1).tow.1 3 (by decide)) ?_
      refine ax_invV (c := 0) (n := 0) (As := []) dX11_lookByGroups_40 cb_Jx4a65c_size_8abf5 cv_X11_75.1 cv_X11_75.2.1 cv_X11_75.2.2 rfl (by decide) rfl ⟨Nat.le_of_ble_eq_true rfl, Nat.le_of_ble_eq_true rfl⟩ (Nat.le_of_ble_eq_true rfl) rfl (t_lsSize (q := 3) (by decide) ((R.gs f1).lq (by decide)) ((R.gs f1).lst.2.2.2.1) (Nat.lt_of_le_of_lt (mS_b (R.gs f1).mI (k := 30) (b := 300) (by decide)) (by decide)) ?_)
      refine ax_icmp_ge (tgt := 80) dX11_lookByGroups_43 (by decide) (fun c_43 => ?_) (fun c_43 => ?_)
      · exact absurd (ge_of_c (b := (mN M 30)) rfl c_43 (by omega)) (by omega)
      · have hk2 : k < (mN M 30) := lt_of_c (b := (mN M 30)) rfl c_43 (by omega)
        refine ax_aload_n (i := 0) dX11_lookByGroups_46 rfl rfl rfl ?_
        refine ax_getR dX11_lookByGroups_47 fl_X11_22 rfl rfl rfl ((R.gs f1).tow.1 3 (by decide)) ?_
        refine ax_iload_n (i := 1) dX11_lookByGroups_50 rfl rfl ?_
        refine ax_invV (c := 0) (n := 1) (As := [_]) dX11_lookByGroups_51 cb_Jx4a65c_get_915e3 cv_X11_115.1 cv_X11_115.2.1 cv_X11_115.2.2 rfl (by decide) rfl ⟨Nat.le_of_ble_eq_true rfl, Nat.le_of_ble_eq_true rfl⟩ (Nat.le_of_ble_eq_true rfl) rfl (t_lsGet (q := 3) (by decide) ((R.gs f1).lq (by decide)) ((R.gs f1).lst.2.2.2.1) (Nat.lt_of_le_of_lt (mS_b (R.gs f1).mI (k := 30) (b := 300) (by decide)) (by decide)) (by omega) ?_)
        refine ax_cast (c := 1) dX11_lookByGroups_54 kl_X11_240 rfl (by decide) ?_
        refine ax_getR dX11_lookByGroups_57 fl_X11_332 rfl rfl rfl ((R.gs f1).ref.1 k hk2).2.2 ?_
        refine ax_aload_n (i := 0) dX11_lookByGroups_60 rfl rfl rfl ?_
        refine ax_getR dX11_lookByGroups_61 fl_X11_22 rfl rfl rfl ((R.gs f1).tow.1 3 (by decide)) ?_
        refine ax_iload_n (i := 1) dX11_lookByGroups_64 rfl rfl ?_
        refine ax_invV (c := 0) (n := 1) (As := [_]) dX11_lookByGroups_65 cb_Jx4a65c_get_915e3 cv_X11_115.1 cv_X11_115.2.1 cv_X11_115.2.2 rfl (by decide) rfl ⟨Nat.le_of_ble_eq_true rfl, Nat.le_of_ble_eq_true rfl⟩ (Nat.le_of_ble_eq_true rfl) rfl (t_lsGet (q := 3) (by decide) ((R.gs f1).lq (by decide)) ((R.gs f1).lst.2.2.2.1) (Nat.lt_of_le_of_lt (mS_b (R.gs f1).mI (k := 30) (b := 300) (by decide)) (by decide)) (by omega) ?_)
        refine ax_cast (c := 1) dX11_lookByGroups_68 kl_X11_240 rfl (by decide) ?_
        refine ax_invV (c := 3) (n := 1) (As := [_]) dX11_lookByGroups_71 cb_X2_see cv_X11_336.1 cv_X11_336.2.1 cv_X11_336.2.2 rfl (by decide) rfl ⟨Nat.le_of_ble_eq_true rfl, Nat.le_of_ble_eq_true rfl⟩ (Nat.le_of_ble_eq_true rfl) rfl (c_see ?_)
        refine ax_iinc (v := _ + 1) (lv' := [(1, _), (0, _)]) dX11_lookByGroups_74 rfl rfl (by decide) rfl ?_
        refine ax_goto (tgt := 35) dX11_lookByGroups_77 (by decide) ?_
        rw [nI_1]
        exact ax_loc rfl (ih (k + 1) (by omega) _ (f1.tr seeS_e) (fun g hg => by
          by_cases e : mE M 42 k = g
          · have q := gV_s (z1 g hg) e
            subst e
            obtain ⟨y1, y2, y3⟩ := seeS_v (S := S1) (g := mE M 42 k) (x := k)
            rw [y1, y2, y3, f1.2 1 k 5 (by omega), f1.2 1 k 8 (by omega), f1.2 1 k 10 (by omega)]
            exact q
          · rw [seeS_o (fun z => e z.symm), seeS_o (fun z => e z.symm), seeS_o (fun z => e z.symm)]
            exact gV_o (z1 g hg) e))
  have KK : ∀ S1 : awS, gsE S S1 → (∀ g, g < (mN M 48) → sI S1 3 g 4 = 0 ∧ sI S1 3 g 5 = 0 ∧ sI S1 3 g 6 = 0) → awX true E m_X11_lookByGroups 33 [(1, .int (nI (mN M 48))), (0, .ref (nm 12 0))] [] S1 0 0 Q := by
    intro S1 f1 z1
    refine ax_iconst (v := nI 0) dX11_lookByGroups_33 (by decide) ?_
    refine ax_istore_n (i := 1) (lv' := [(1, _), (0, _)]) dX11_lookByGroups_34 rfl (by decide) rfl ?_
    exact ax_loc rfl (L2 (mN M 30) 0 (by omega) S1 f1 (fun g hg => by
      obtain ⟨y1, y2, y3⟩ := z1 g hg
      rw [y1, y2, y3]
      exact gV_0 S M g))
  have L1 : ∀ (m k : Nat), k + m = (mN M 48) → ∀ S1 : awS, gsE S S1 → (∀ g, g < k → sI S1 3 g 4 = 0 ∧ sI S1 3 g 5 = 0 ∧ sI S1 3 g 6 = 0) → awX true E m_X11_lookByGroups 2 [(1, .int (nI k)), (0, .ref (nm 12 0))] [] S1 0 0 Q := by
    intro m
    induction m with
    | zero =>
      intro k hm1 S1 f1 z1
      refine ax_iload_n (i := 1) dX11_lookByGroups_2 rfl rfl ?_
      refine ax_aload_n (i := 0) dX11_lookByGroups_3 rfl rfl rfl ?_
      refine ax_getR dX11_lookByGroups_4 fl_X11_25 rfl rfl rfl ((R.gs f1).tow.1 4 (by decide)) ?_
      refine ax_invV (c := 0) (n := 0) (As := []) dX11_lookByGroups_7 cb_Jx4a65c_size_8abf5 cv_X11_75.1 cv_X11_75.2.1 cv_X11_75.2.2 rfl (by decide) rfl ⟨Nat.le_of_ble_eq_true rfl, Nat.le_of_ble_eq_true rfl⟩ (Nat.le_of_ble_eq_true rfl) rfl (t_lsSize (q := 4) (by decide) ((R.gs f1).lq (by decide)) ((R.gs f1).lst.2.2.2.2.1) (Nat.lt_of_le_of_lt (mS_b (R.gs f1).mI (k := 48) (b := 300) (by decide)) (by decide)) ?_)
      refine ax_icmp_ge (tgt := 33) dX11_lookByGroups_10 (by decide) (fun c_10 => ?_) (fun c_10 => ?_)
      · have hk2 : k = (mN M 48) := Nat.le_antisymm (by omega) (ge_of_c (b := (mN M 48)) rfl c_10 (by omega))
        rw [hk2] at z1
        rw [hk2]
        exact KK S1 f1 z1
      · exact absurd (lt_of_c (b := (mN M 48)) rfl c_10 (by omega)) (by omega)
    | succ m ih =>
      intro k hm1 S1 f1 z1
      refine ax_iload_n (i := 1) dX11_lookByGroups_2 rfl rfl ?_
      refine ax_aload_n (i := 0) dX11_lookByGroups_3 rfl rfl rfl ?_
      refine ax_getR dX11_lookByGroups_4 fl_X11_25 rfl rfl rfl ((R.gs f1).tow.1 4 (by decide)) ?_
      refine ax_invV (c := 0) (n := 0) (As := []) dX11_lookByGroups_7 cb_Jx4a65c_size_8abf5 cv_X11_75.1 cv_X11_75.2.1 cv_X11_75.2.2 rfl (by decide) rfl ⟨Nat.le_of_ble_eq_true rfl, Nat.le_of_ble_eq_true rfl⟩ (Nat.le_of_ble_eq_true rfl) rfl (t_lsSize (q := 4) (by decide) ((R.gs f1).lq (by decide)) ((R.gs f1).lst.2.2.2.2.1) (Nat.lt_of_le_of_lt (mS_b (R.gs f1).mI (k := 48) (b := 300) (by decide)) (by decide)) ?_)
      refine ax_icmp_ge (tgt := 33) dX11_lookByGroups_10 (by decide) (fun c_10 => ?_) (fun c_10 => ?_)
      · exact absurd (ge_of_c (b := (mN M 48)) rfl c_10 (by omega)) (by omega)
      · have hk2 : k < (mN M 48) := lt_of_c (b := (mN M 48)) rfl c_10 (by omega)
        refine ax_aload_n (i := 0) dX11_lookByGroups_13 rfl rfl rfl ?_
        refine ax_getR dX11_lookByGroups_14 fl_X11_25 rfl rfl rfl ((R.gs f1).tow.1 4 (by decide)) ?_
        refine ax_iload_n (i := 1) dX11_lookByGroups_17 rfl rfl ?_
        refine ax_invV (c := 0) (n := 1) (As := [_]) dX11_lookByGroups_18 cb_Jx4a65c_get_915e3 cv_X11_115.1 cv_X11_115.2.1 cv_X11_115.2.2 rfl (by decide) rfl ⟨Nat.le_of_ble_eq_true rfl, Nat.le_of_ble_eq_true rfl⟩ (Nat.le_of_ble_eq_true rfl) rfl (t_lsGet (q := 4) (by decide) ((R.gs f1).lq (by decide)) ((R.gs f1).lst.2.2.2.2.1) (Nat.lt_of_le_of_lt (mS_b (R.gs f1).mI (k := 48) (b := 300) (by decide)) (by decide)) (by omega) ?_)
        refine ax_cast (c := 3) dX11_lookByGroups_21 kl_X11_264 rfl (by decide) ?_
        refine ax_invV (c := 3) (n := 0) (As := []) dX11_lookByGroups_24 cb_X2_forget cv_X11_329.1 cv_X11_329.2.1 cv_X11_329.2.2 rfl (by decide) rfl ⟨Nat.le_of_ble_eq_true rfl, Nat.le_of_ble_eq_true rfl⟩ (Nat.le_of_ble_eq_true rfl) rfl (c_forget ?_)
        refine ax_iinc (v := _ + 1) (lv' := [(1, _), (0, _)]) dX11_lookByGroups_27 rfl rfl (by decide) rfl ?_
        refine ax_goto (tgt := 2) dX11_lookByGroups_30 (by decide) ?_
        rw [nI_1]
        exact ax_loc rfl (ih (k + 1) (by omega) _ (f1.tr (((gsE.w (by decide)).tr (gsE.w (by decide))).tr (gsE.w (by decide)))) (fun g hg => by
          by_cases e : g = k
          · subst e
            simp [sI_wI]
          · simp [sI_wI, e]
            exact z1 g (by omega)))
  refine ax_iconst (v := nI 0) dX11_lookByGroups_0 (by decide) ?_
  refine ax_istore_n (i := 1) (lv' := [(1, _), (0, _)]) dX11_lookByGroups_1 rfl (by decide) rfl ?_
  exact ax_loc rfl (L1 (mN M 48) 0 (by omega) S gsE.rf (fun g hg => absurd hg (Nat.not_lt_zero g)))
