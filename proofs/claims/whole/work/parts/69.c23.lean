theorem sp_eq {x n : Int32} {z : Nat} (hz : z ≤ 60) : (0 ≤ x ∧ 0 ≤ n ∧ x ≤ nI z - n) ↔ (0 ≤ n ∧ 0 ≤ x ∧ x ≤ nI z ∧ n ≤ nI z - x) := by
  have e0 : (0 : Int32).toInt = 0 := by decide
  have bx := Int32.toInt_lt x
  have bn := Int32.toInt_lt n
  have key : ∀ y : Int32, 0 ≤ y.toInt → y.toInt < 2 ^ 31 → (nI z - y).toInt = (z : Int) - y.toInt := fun y h1 h2 => by
    rw [Int32.toInt_sub, nI_toInt (by omega)]
    exact Int.bmod_eq_of_le (by omega) (by omega)
  rw [Int32.le_iff_toInt_le, Int32.le_iff_toInt_le, Int32.le_iff_toInt_le, Int32.le_iff_toInt_le, Int32.le_iff_toInt_le, e0, nI_toInt (by omega)]
  constructor
  · rintro ⟨h1, h2, h3⟩
    rw [key n h2 bn] at h3
    rw [key x h1 bx]
    omega
  · rintro ⟨h1, h2, h3, h4⟩
    rw [key x h2 bx] at h4
    rw [key n h1 bn]
    omega
theorem row_k {k : Int32} (h : 0 ≤ k ∧ k ≤ 4) : (k = 3 ∨ k = 4) ↔ ¬ k < 3 := by
  constructor
  · rintro (e | e) <;> rw [e] <;> decide
  · intro q
    exact w34 ⟨Int32.not_lt.mp q, h.2⟩
/-- the reference's copy: first between, then the row -/
def cpB (M : aM) (d i n : Nat) : aM := (M.1, M.2.1, fun k j => if k = 83 ∧ 0 ≤ j ∧ j < 0 + n then mL M 82 (60 * d + i + (j - 0)) else M.2.2 k j)
theorem cp_1 (M : aM) (d i n : Nat) : mIter (fun x M => pL M 83 x (mL M 82 (60 * d + i + x))) n M = cpB M d i n := mRowJ 83 0 (fun x => mL M 82 (60 * d + i + x)) _ M (fun x N _ _ h3 => by
  show pL N 83 x (mL N 82 (60 * d + i + x)) = pL N 83 (0 + x) (mL M 82 (60 * d + i + x))
  rw [Nat.zero_add, show mL N 82 (60 * d + i + x) = mL M 82 (60 * d + i + x) from h3 _ _ (by decide)]) n
theorem cp_2 (M : aM) (d i e j n : Nat) : mCopyM M d i e j n = (M.1, M.2.1, fun k q => if k = 82 ∧ 60 * e + j ≤ q ∧ q < 60 * e + j + n then mL (cpB M d i n) 83 (q - (60 * e + j)) else (cpB M d i n).2.2 k q) := by
  unfold mCopyM
  rw [cp_1]
  exact mRowJ 82 (60 * e + j) (fun x => mL (cpB M d i n) 83 x) _ (cpB M d i n) (fun x N _ _ h3 => by
    show pL N 82 (60 * e + j + x) (mL N 83 x) = pL N 82 (60 * e + j + x) (mL (cpB M d i n) 83 x)
    rw [show mL N 83 x = mL (cpB M d i n) 83 x from h3 _ _ (by decide)]) n
theorem cR.copy {τ : Nat → Nat → Nat} {S : awS} {M : aM} (R : cR τ S M) {d i e j n z y : Nat} (hd : d < 8) (he : e < 8) (hz : mE M 80 d = z) (hy : mE M 80 e = y) (hz60 : z ≤ 60) (hy60 : y ≤ 60) (hi : i + n ≤ z) (hj : j + n ≤ y) (kd : 3 ≤ mA M 79 d) : cR τ (wLf S 25 e (va_cpy (sL S 25 d) (sL S 25 e) i j n)) (mCopyM M d i e j n) := by
  have hI : mIx 0 (mCopyM M d i e j n) := by
    unfold mCopyM
    exact mI.rowJ (mI.rowJ R.mI _ (fun i N q => q.qL (by decide)) _) _ (fun i N q => q.qL (by decide)) _
  rw [cp_2] at hI ⊢
  refine cR.mk' hI R.tow R.lst R.cx R.cnt.2.1 R.cnt.2.2 R.src R.rul R.ala R.ltr R.brd R.ix R.la R.sca R.val R.ref R.wat R.flg R.tru R.hld R.lea R.row (fun d' hd' => ?_) R.inv
  have q := R.bdr d' hd'
  refine ⟨q.1, q.2.1, q.2.2.1, fun w => ⟨(q.2.2.2 w).1, fun p hp => ?_⟩⟩
  have hp : p < mE M 80 d' := hp
  have hs := (R.mI.A (k := 80) (n := 8) (b := 61) (by decide) hd').2
  show (if 25 = 25 ∧ d' = e then va_cpy (sL S 25 d) (sL S 25 e) i j n p else sL S 25 d' p) = (if 82 = 82 ∧ 60 * e + j ≤ 60 * d' + p ∧ 60 * d' + p < 60 * e + j + n then (if 83 = 83 ∧ 0 ≤ 60 * d' + p - (60 * e + j) ∧ 60 * d' + p - (60 * e + j) < 0 + n then mL M 82 (60 * d + i + (60 * d' + p - (60 * e + j) - 0)) else M.2.2 83 (60 * d' + p - (60 * e + j))) else (if 82 = 83 ∧ 0 ≤ 60 * d' + p ∧ 60 * d' + p < 0 + n then mL M 82 (60 * d + i + (60 * d' + p - 0)) else M.2.2 82 (60 * d' + p)))
  rw [if_neg (show ¬ (82 = 83 ∧ 0 ≤ 60 * d' + p ∧ 60 * d' + p < 0 + n) from fun v => absurd v.1 (by decide))]
  have base : sL S 25 d' p = M.2.2 82 (60 * d' + p) := (q.2.2.2 w).2 p hp
  by_cases c : d' = e
  · subst c
    rw [if_pos ⟨rfl, rfl⟩]
    unfold va_cpy
    by_cases c2 : j ≤ p ∧ p < j + n
    · rw [if_pos c2, if_pos ⟨rfl, by omega, by omega⟩, if_pos ⟨rfl, by omega, by omega⟩]
      rw [((R.bdr d hd).2.2.2 kd).2 (i + (p - j)) (by rw [hz]; omega)]
      exact congrArg (mL M 82) (by omega)
    · rw [if_neg c2, if_neg (fun v => c2 (by omega))]
      exact base
  · rw [if_neg (fun v => c v.2), if_neg (fun v => by have := v.2.1; have := v.2.2; omega)]
    exact base
theorem cFm.xF {S : awS} {f i : Nat} {g : Nat → Int64} (hf : fmOk f) : cFm S (wLf S f i g) := fun g' hg => ⟨fun _ _ => rfl, fun i' k' => by rw [sL_wLf]; exact if_neg (fun z => hg (by rw [z.1]; exact hf)), fun _ _ => rfl, fun _ => rfl, rfl⟩

set_option maxHeartbeats 400000 in
set_option maxRecDepth 100000 in
theorem c_copy {E : awE} {S : awS} {M : aM} {Q : Option Value → awS → Nat → Nat → Prop} (R0 : cRR S M) {d i e j n : Int32} (h : cPost S (mCopy M d i e j n) Q) : awT true E m_X11_copy [.ref (nm 12 0), .int d, .int i, .int e, .int j, .int n] S Q := by
  refine awT.of (by decide) (by decide) (Nat.le_of_ble_eq_true rfl) ?_
  obtain ⟨R, hr0⟩ := R0
  refine ax_aload_n (i := 0) dX11_copy_0 rfl rfl rfl ?_
  refine ax_iload_n (i := 1) dX11_copy_1 rfl rfl ?_
  refine ax_invV (c := 12) (n := 1) (As := [_]) dX11_copy_2 cb_X11_boardAt cv_X11_464.1 cv_X11_464.2.1 cv_X11_464.2.2 rfl (by decide) rfl ⟨Nat.le_of_ble_eq_true rfl, Nat.le_of_ble_eq_true rfl⟩ (Nat.le_of_ble_eq_true rfl) rfl (c_boardAt R (fun c_2 => ?_) (fun c_2 => ?_))
  · refine ax_astore (lv' := [(6, _), (0, _), (1, _), (2, _), (3, _), (4, _), (5, _)]) dX11_copy_5 (by decide) rfl rfl ?_
    refine ax_aload_n (i := 0) dX11_copy_7 rfl rfl rfl ?_
    refine ax_iload_n (i := 3) dX11_copy_8 rfl rfl ?_
    refine ax_invV (c := 12) (n := 1) (As := [_]) dX11_copy_9 cb_X11_boardAt cv_X11_464.1 cv_X11_464.2.1 cv_X11_464.2.2 rfl (by decide) rfl ⟨Nat.le_of_ble_eq_true rfl, Nat.le_of_ble_eq_true rfl⟩ (Nat.le_of_ble_eq_true rfl) rfl (c_boardAt R (fun c_9 => ?_) (fun c_9 => ?_))
    · refine ax_astore (lv' := [(7, _), (6, _), (0, _), (1, _), (2, _), (3, _), (4, _), (5, _)]) dX11_copy_12 (by decide) rfl rfl ?_
      refine ax_aload dX11_copy_14 rfl rfl ?_
      refine ax_ifnull_f (k0 := 24) dX11_copy_16 (by decide) ?_
      refine ax_aload dX11_copy_19 rfl rfl ?_
      refine ax_ifnonnull_t (tgt := 26) dX11_copy_21 (by decide) ?_
      have e_d := okB_e c_2
      have e_e := okB_e c_9
      have hBd := R.bdr _ e_d.2
      have hBe := R.bdr _ e_e.2
      have hzd := R.mI.A (k := 80) (n := 8) (b := 61) (by decide) e_d.2
      have hze := R.mI.A (k := 80) (n := 8) (b := 61) (by decide) e_e.2
      refine ax_aload dX11_copy_26 rfl rfl ?_
      refine ax_getI dX11_copy_28 fl_X11_509 rfl rfl rfl ?_
      refine ax_if_eq (tgt := 42) dX11_copy_31 (by decide) (fun c_31 => ?_) (fun c_31 => ?_)
      · refine ax_bipush (v := -11) dX11_copy_42 (by decide) ?_
        refine ax_iret dX11_copy_44 rfl rfl ?_
        exact cfin h ((if_neg (fun z => z ⟨c_2, c_9⟩)).trans (if_pos (Or.inl ((R.int (f := 2) (k := 0) (m := 79) (q := 101) (by decide) e_d.2).symm.trans c_31)))) (cRR.t0 ⟨R, hr0⟩) cFm.rf (by decide) (by decide)
      · refine ax_aload dX11_copy_34 rfl rfl ?_
        refine ax_getI dX11_copy_36 fl_X11_509 rfl rfl rfl ?_
        refine ax_if_ne (tgt := 45) dX11_copy_39 (by decide) (fun c_39 => ?_) (fun c_39 => ?_)
        · refine ax_aload dX11_copy_45 rfl rfl ?_
          refine ax_invV (c := 2) (n := 0) (As := []) dX11_copy_47 cb_X1_isRow cv_X11_498.1 cv_X11_498.2.1 cv_X11_498.2.2 rfl (by decide) rfl ⟨Nat.le_of_ble_eq_true rfl, Nat.le_of_ble_eq_true rfl⟩ (Nat.le_of_ble_eq_true rfl) rfl (c_isRow (fun c_47 => ?_) (fun c_47 => ?_))
          · refine ax_if_eq (tgt := 66) dX11_copy_50 (by decide) (fun z => absurd z (by decide)) (fun _ => ?_)
            refine ax_aload dX11_copy_53 rfl rfl ?_
            refine ax_getI dX11_copy_55 fl_X11_509 rfl rfl rfl ?_
            refine ax_aload dX11_copy_58 rfl rfl ?_
            refine ax_getI dX11_copy_60 fl_X11_509 rfl rfl rfl ?_
            refine ax_icmp_eq (tgt := 69) dX11_copy_63 (by decide) (fun c_63 => ?_) (fun c_63 => ?_)
            · have kd3 : 3 ≤ mA M 79 (nN d) := by rw [← (R.int (f := 2) (k := 0) (m := 79) (q := 101) (by decide) e_d.2)]; exact Int32.not_lt.mp ((row_k (by rw [(R.int (f := 2) (k := 0) (m := 79) (q := 101) (by decide) e_d.2)]; exact hBd.1)).mp c_47)
              have ke3 : 3 ≤ mA M 79 (nN e) := by rw [← (R.int (f := 2) (k := 0) (m := 79) (q := 101) (by decide) e_e.2), ← c_63, (R.int (f := 2) (k := 0) (m := 79) (q := 101) (by decide) e_d.2)]; exact kd3
              have sd : sI S 2 (nN d) 2 = nI (mE M 80 (nN d)) := (hBd.2.2.2 kd3).1.trans hzd.1
              have se : sI S 2 (nN e) 2 = nI (mE M 80 (nN e)) := (hBe.2.2.2 ke3).1.trans hze.1
              refine ax_aload dX11_copy_69 rfl rfl ?_
              refine ax_iload_n (i := 2) dX11_copy_71 rfl rfl ?_
              refine ax_iload dX11_copy_72 rfl ?_
              refine ax_invV (c := 2) (n := 2) (As := [_, _]) dX11_copy_74 cb_X1_hasSpan cv_X11_510.1 cv_X11_510.2.1 cv_X11_510.2.2 rfl (by decide) rfl ⟨Nat.le_of_ble_eq_true rfl, Nat.le_of_ble_eq_true rfl⟩ (Nat.le_of_ble_eq_true rfl) rfl (c_hasSpan (fun c_74 => ?_) (fun c_74 => ?_))
              · refine ax_if_eq (tgt := 92) dX11_copy_77 (by decide) (fun z => absurd z (by decide)) (fun _ => ?_)
                refine ax_aload dX11_copy_80 rfl rfl ?_
                refine ax_iload dX11_copy_82 rfl ?_
                refine ax_iload dX11_copy_84 rfl ?_
                refine ax_invV (c := 2) (n := 2) (As := [_, _]) dX11_copy_86 cb_X1_hasSpan cv_X11_510.1 cv_X11_510.2.1 cv_X11_510.2.2 rfl (by decide) rfl ⟨Nat.le_of_ble_eq_true rfl, Nat.le_of_ble_eq_true rfl⟩ (Nat.le_of_ble_eq_true rfl) rfl (c_hasSpan (fun c_86 => ?_) (fun c_86 => ?_))
                · refine ax_if_ne (tgt := 95) dX11_copy_89 (by decide) (fun _ => ?_) (fun z => absurd (by decide) z)
                  have p1 := (sp_eq (z := mE M 80 (nN d)) (by omega)).mp (by rw [sd] at c_74; exact c_74)
                  have p2 := (sp_eq (z := mE M 80 (nN e)) (by omega)).mp (by rw [se] at c_86; exact c_86)
                  have q1 := hp_e p1.1 p1.2.1 p1.2.2.1 p1.2.2.2 (by omega)
                  have q2 := hp_e p2.1 p2.2.1 p2.2.2.1 p2.2.2.2 (by omega)
                  have bd := R.brd _ e_d.2
                  have be := R.brd _ e_e.2
                  refine ax_aload dX11_copy_95 rfl rfl ?_
                  refine ax_getR dX11_copy_97 fl_X11_513 rfl rfl rfl bd.1 ?_
                  refine ax_iload_n (i := 2) dX11_copy_100 rfl rfl ?_
                  refine ax_aload dX11_copy_101 rfl rfl ?_
                  refine ax_getR dX11_copy_103 fl_X11_513 rfl rfl rfl be.1 ?_
                  refine ax_iload dX11_copy_106 rfl ?_
                  refine ax_iload dX11_copy_108 rfl ?_
                  refine ax_copyL dX11_copy_110 kp_X11_516 rfl rfl rfl rfl (Int32.not_lt.mpr p1.2.1) (Int32.not_lt.mpr p2.2.1) (Int32.not_lt.mpr p1.1) (by rw [bd.2]; have h1 : nN i + nN n ≤ mE M 80 (nN d) := q1.2; show nN i + nN n ≤ 60; omega) (by rw [be.2]; have h1 : nN j + nN n ≤ mE M 80 (nN e) := q2.2; show nN j + nN n ≤ 60; omega) ⟨Nat.le_of_ble_eq_true rfl, Nat.le_of_ble_eq_true rfl⟩ (Nat.le_of_ble_eq_true rfl) ?_
                  refine ax_iload dX11_copy_113 rfl ?_
                  refine ax_iret dX11_copy_115 rfl rfl ?_
                  have hok : cpOk M d i e j n := ⟨⟨c_2, c_9⟩, fun z => z.elim (fun w => c_31 ((R.int (f := 2) (k := 0) (m := 79) (q := 101) (by decide) e_d.2).trans w)) (fun w => c_39 ((R.int (f := 2) (k := 0) (m := 79) (q := 101) (by decide) e_e.2).trans w)), fun z => z.elim (fun w => (row_k (by rw [(R.int (f := 2) (k := 0) (m := 79) (q := 101) (by decide) e_d.2)]; exact hBd.1)).mp c_47 (by rw [(R.int (f := 2) (k := 0) (m := 79) (q := 101) (by decide) e_d.2)]; exact w)) (fun w => w ((R.int (f := 2) (k := 0) (m := 79) (q := 101) (by decide) e_d.2).symm.trans (c_63.trans (R.int (f := 2) (k := 0) (m := 79) (q := 101) (by decide) e_e.2)))), by show 0 ≤ n ∧ 0 ≤ i ∧ i ≤ mA M 80 (nN d) ∧ n ≤ mA M 80 (nN d) - i; rw [hzd.1]; exact p1, by show 0 ≤ n ∧ 0 ≤ j ∧ j ≤ mA M 80 (nN e) ∧ n ≤ mA M 80 (nN e) - j; rw [hze.1]; exact p2⟩
                  have hM : cR (fun _ _ => mN M 1) (wLf S 25 (nN e) (va_cpy (sL S 25 (nN d)) (sL S 25 (nN e)) (nN i) (nN j) (nN n))) (mCopyM (mT0 M) (nN d) (nN i) (nN e) (nN j) (nN n)) := cR.copy R.t0 e_d.2 e_e.2 rfl rfl (Nat.le_of_lt_succ hzd.2) (Nat.le_of_lt_succ hze.2) q1.2 q2.2 kd3
                  have hrest : cRest (mCopyM (mT0 M) (nN d) (nN i) (nN e) (nN j) (nN n)) := by rw [cp_2]; exact hr0
                  exact cfin (M' := (mCopyM (mT0 M) (nN d) (nN i) (nN e) (nN j) (nN n))) h (mCopy_ok hok) ⟨by
                      have e0 : mN (mCopyM (mT0 M) (nN d) (nN i) (nN e) (nN j) (nN n)) 1 = mN M 1 := by rw [cp_2]; rfl
                      rw [e0]; exact hM, hrest⟩ (cFm.xF ⟨by decide, by decide, by decide⟩) (by decide) (by decide)
                · refine ax_if_ne (tgt := 95) dX11_copy_89 (by decide) (fun z => absurd z (by decide)) (fun _ => ?_)
                  refine ax_bipush (v := -13) dX11_copy_92 (by decide) ?_
                  refine ax_iret dX11_copy_94 rfl rfl ?_
                  exact cfin h ((if_neg (fun z => z ⟨c_2, c_9⟩)).trans ((if_neg (fun z => z.elim (fun w => c_31 ((R.int (f := 2) (k := 0) (m := 79) (q := 101) (by decide) e_d.2).trans w)) (fun w => c_39 ((R.int (f := 2) (k := 0) (m := 79) (q := 101) (by decide) e_e.2).trans w)))).trans ((if_neg (fun z => z.elim (fun w => (row_k (by rw [(R.int (f := 2) (k := 0) (m := 79) (q := 101) (by decide) e_d.2)]; exact hBd.1)).mp c_47 (by rw [(R.int (f := 2) (k := 0) (m := 79) (q := 101) (by decide) e_d.2)]; exact w)) (fun w => w ((R.int (f := 2) (k := 0) (m := 79) (q := 101) (by decide) e_d.2).symm.trans (c_63.trans (R.int (f := 2) (k := 0) (m := 79) (q := 101) (by decide) e_e.2)))))).trans (if_pos (fun z => c_86 (by rw [se]; exact (sp_eq (by have := hze.2; omega)).mpr (by rw [← hze.1]; exact z.2))))))) (cRR.t0 ⟨R, hr0⟩) cFm.rf (by decide) (by decide)
              · refine ax_if_eq (tgt := 92) dX11_copy_77 (by decide) (fun _ => ?_) (fun z => absurd (by decide) z)
                refine ax_bipush (v := -13) dX11_copy_92 (by decide) ?_
                refine ax_iret dX11_copy_94 rfl rfl ?_
                exact cfin h ((if_neg (fun z => z ⟨c_2, c_9⟩)).trans ((if_neg (fun z => z.elim (fun w => c_31 ((R.int (f := 2) (k := 0) (m := 79) (q := 101) (by decide) e_d.2).trans w)) (fun w => c_39 ((R.int (f := 2) (k := 0) (m := 79) (q := 101) (by decide) e_e.2).trans w)))).trans ((if_neg (fun z => z.elim (fun w => (row_k (by rw [(R.int (f := 2) (k := 0) (m := 79) (q := 101) (by decide) e_d.2)]; exact hBd.1)).mp c_47 (by rw [(R.int (f := 2) (k := 0) (m := 79) (q := 101) (by decide) e_d.2)]; exact w)) (fun w => w ((R.int (f := 2) (k := 0) (m := 79) (q := 101) (by decide) e_d.2).symm.trans (c_63.trans (R.int (f := 2) (k := 0) (m := 79) (q := 101) (by decide) e_e.2)))))).trans (if_pos (fun z => c_74 (by rw [sd]; exact (sp_eq (by have := hzd.2; omega)).mpr (by rw [← hzd.1]; exact z.1))))))) (cRR.t0 ⟨R, hr0⟩) cFm.rf (by decide) (by decide)
            · refine ax_bipush (v := -12) dX11_copy_66 (by decide) ?_
              refine ax_iret dX11_copy_68 rfl rfl ?_
              exact cfin h ((if_neg (fun z => z ⟨c_2, c_9⟩)).trans ((if_neg (fun z => z.elim (fun w => c_31 ((R.int (f := 2) (k := 0) (m := 79) (q := 101) (by decide) e_d.2).trans w)) (fun w => c_39 ((R.int (f := 2) (k := 0) (m := 79) (q := 101) (by decide) e_e.2).trans w)))).trans (if_pos (Or.inr (fun w => c_63 ((R.int (f := 2) (k := 0) (m := 79) (q := 101) (by decide) e_d.2).trans (w.trans (R.int (f := 2) (k := 0) (m := 79) (q := 101) (by decide) e_e.2).symm))))))) (cRR.t0 ⟨R, hr0⟩) cFm.rf (by decide) (by decide)
          · refine ax_if_eq (tgt := 66) dX11_copy_50 (by decide) (fun _ => ?_) (fun z => absurd (by decide) z)
            refine ax_bipush (v := -12) dX11_copy_66 (by decide) ?_
            refine ax_iret dX11_copy_68 rfl rfl ?_
            exact cfin h ((if_neg (fun z => z ⟨c_2, c_9⟩)).trans ((if_neg (fun z => z.elim (fun w => c_31 ((R.int (f := 2) (k := 0) (m := 79) (q := 101) (by decide) e_d.2).trans w)) (fun w => c_39 ((R.int (f := 2) (k := 0) (m := 79) (q := 101) (by decide) e_e.2).trans w)))).trans (if_pos (Or.inl (Classical.byContradiction (fun w => c_47 ((row_k (by rw [(R.int (f := 2) (k := 0) (m := 79) (q := 101) (by decide) e_d.2)]; exact hBd.1)).mpr (by rw [(R.int (f := 2) (k := 0) (m := 79) (q := 101) (by decide) e_d.2)]; exact w)))))))) (cRR.t0 ⟨R, hr0⟩) cFm.rf (by decide) (by decide)
        · refine ax_bipush (v := -11) dX11_copy_42 (by decide) ?_
          refine ax_iret dX11_copy_44 rfl rfl ?_
          exact cfin h ((if_neg (fun z => z ⟨c_2, c_9⟩)).trans (if_pos (Or.inr ((R.int (f := 2) (k := 0) (m := 79) (q := 101) (by decide) e_e.2).symm.trans (Classical.not_not.mp c_39))))) (cRR.t0 ⟨R, hr0⟩) cFm.rf (by decide) (by decide)
    · refine ax_astore (lv' := [(7, _), (6, _), (0, _), (1, _), (2, _), (3, _), (4, _), (5, _)]) dX11_copy_12 (by decide) rfl rfl ?_
      refine ax_aload dX11_copy_14 rfl rfl ?_
      refine ax_ifnull_f (k0 := 24) dX11_copy_16 (by decide) ?_
      refine ax_aload dX11_copy_19 rfl rfl ?_
      refine ax_ifnonnull_f (k0 := 26) dX11_copy_21 (by decide) ?_
      refine ax_iconst (v := -1) dX11_copy_24 (by decide) ?_
      refine ax_iret dX11_copy_25 rfl rfl ?_
      exact cfin h (if_pos (fun g => c_9 g.2)) (cRR.t0 ⟨R, hr0⟩) cFm.rf (by decide) (by decide)
  · refine ax_astore (lv' := [(6, _), (0, _), (1, _), (2, _), (3, _), (4, _), (5, _)]) dX11_copy_5 (by decide) rfl rfl ?_
    refine ax_aload_n (i := 0) dX11_copy_7 rfl rfl rfl ?_
    refine ax_iload_n (i := 3) dX11_copy_8 rfl rfl ?_
    refine ax_invV (c := 12) (n := 1) (As := [_]) dX11_copy_9 cb_X11_boardAt cv_X11_464.1 cv_X11_464.2.1 cv_X11_464.2.2 rfl (by decide) rfl ⟨Nat.le_of_ble_eq_true rfl, Nat.le_of_ble_eq_true rfl⟩ (Nat.le_of_ble_eq_true rfl) rfl (c_boardAt R (fun c_9 => ?_) (fun c_9 => ?_))
    · refine ax_astore (lv' := [(7, _), (6, _), (0, _), (1, _), (2, _), (3, _), (4, _), (5, _)]) dX11_copy_12 (by decide) rfl rfl ?_
      refine ax_aload dX11_copy_14 rfl rfl ?_
      refine ax_ifnull_t (tgt := 24) dX11_copy_16 (by decide) ?_
      refine ax_iconst (v := -1) dX11_copy_24 (by decide) ?_
      refine ax_iret dX11_copy_25 rfl rfl ?_
      exact cfin h (if_pos (fun g => c_2 g.1)) (cRR.t0 ⟨R, hr0⟩) cFm.rf (by decide) (by decide)
    · refine ax_astore (lv' := [(7, _), (6, _), (0, _), (1, _), (2, _), (3, _), (4, _), (5, _)]) dX11_copy_12 (by decide) rfl rfl ?_
      refine ax_aload dX11_copy_14 rfl rfl ?_
      refine ax_ifnull_t (tgt := 24) dX11_copy_16 (by decide) ?_
      refine ax_iconst (v := -1) dX11_copy_24 (by decide) ?_
      refine ax_iret dX11_copy_25 rfl rfl ?_
      exact cfin h (if_pos (fun g => c_2 g.1)) (cRR.t0 ⟨R, hr0⟩) cFm.rf (by decide) (by decide)
