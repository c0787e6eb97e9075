theorem mFlap_v {M : aM} {r n : Int32} (g : okRule M r ∧ (1 ≤ n ∧ n ≤ 2000)) : (mFlap M r n).2 = nI (mSum (mFlapX M r n) (mN M 30)) := by unfold mFlap; rw [if_neg (fun z => z g)]
theorem mNoise_v {M : aM} {hd : Int32} (g : okHand M hd) : (mNoise M hd).2 = nI (mCntP (fun l => mWent M l hd) (mN M 63)) := by unfold mNoise; rw [if_neg (fun z => z g)]
theorem flap_a {A y x : Int32} (hA : (0 < y ∧ A = y) ∨ (¬ 0 < y ∧ A = 0)) : A < x ↔ 0 < x ∧ y < x := by
  rw [Int32.lt_iff_toInt_lt, Int32.lt_iff_toInt_lt, Int32.lt_iff_toInt_lt]
  have e0 : (0 : Int32).toInt = 0 := by decide
  rcases hA with ⟨h1, h2⟩ | ⟨h1, h2⟩
  · rw [Int32.lt_iff_toInt_lt] at h1
    rw [h2]; omega
  · rw [Int32.lt_iff_toInt_lt] at h1
    rw [h2]; omega

set_option maxHeartbeats 4000000 in
set_option maxRecDepth 100000 in
theorem flap_2 {E : awE} {S : awS} {M : aM} {τ : Nat → Nat → Nat} {Q : Option Value → awS → Nat → Nat → Prop} (R : cR τ S M) {r n A : Int32} (hA : (0 < mS M 1 - n ∧ A = mS M 1 - n) ∨ (¬ 0 < mS M 1 - n ∧ A = 0)) (h : Q (some (.int (nI (mSum (mFlapX M r n) (mN M 30))))) S 0 0) : awX true E m_X11_flap 38 [(5, .int (nI 0)), (4, .int (nI 0)), (3, .int A), (0, .ref (nm 12 0)), (1, .int r), (2, .int n)] [] S 0 0 Q := by
  have e_b : mN M 30 ≤ 300 := R.nA
  have L : ∀ (m k : Nat), k + m = (mN M 30) → awX true E m_X11_flap 38 [(5, .int (nI k)), (4, .int (nI (mSum (mFlapX M r n) k))), (3, .int A), (0, .ref (nm 12 0)), (1, .int r), (2, .int n)] [] S 0 0 Q := by
    intro m
    induction m with
    | zero =>
      intro k hm1 
      refine ax_iload dX11_flap_38 rfl ?_
      refine ax_aload_n (i := 0) dX11_flap_40 rfl rfl rfl ?_
      refine ax_getR dX11_flap_41 fl_X11_22 rfl rfl rfl (R.tow.1 3 (by decide)) ?_
      refine ax_invV (c := 0) (n := 0) (As := []) dX11_flap_44 cb_Jx4a65c_size_8abf5 cv_X11_75.1 cv_X11_75.2.1 cv_X11_75.2.2 rfl (by decide) rfl ⟨Nat.le_of_ble_eq_true rfl, Nat.le_of_ble_eq_true rfl⟩ (Nat.le_of_ble_eq_true rfl) rfl (t_lsSize (q := 3) (by decide) (R.lq (by decide)) (R.lst.2.2.2.1) (Nat.lt_of_le_of_lt (mS_b R.mI (k := 30) (b := 300) (by decide)) (by decide)) ?_)
      refine ax_icmp_ge (tgt := 122) dX11_flap_47 (by decide) (fun c_47 => ?_) (fun c_47 => ?_)
      · have hk2 : k = (mN M 30) := Nat.le_antisymm (by omega) (ge_of_c (b := (mN M 30)) rfl c_47 (by omega))
        refine ax_iload dX11_flap_122 rfl ?_
        refine ax_iret dX11_flap_124 rfl rfl ?_
        rw [hk2]
        exact h
      · exact absurd (lt_of_c (b := (mN M 30)) rfl c_47 (by omega)) (by omega)
    | succ m ih =>
      intro k hm1 
      have NX : ∀ (v : Int32) (lv : List (Nat × Value)), v = nI (mSum (mFlapX M r n) (k + 1)) → [(4, Value.int v), (5, .int (nI k)), (3, .int A), (0, .ref (nm 12 0)), (1, .int r), (2, .int n)].map (fun q => lk lv q.1) = [(4, Value.int v), (5, .int (nI k)), (3, .int A), (0, .ref (nm 12 0)), (1, .int r), (2, .int n)].map (fun q => some q.2) → awX true E m_X11_flap 116 lv [] S 0 0 Q := by
        intro v lv hv hlv
        subst hv
        refine ax_loc hlv ?_
        refine ax_iinc (v := _ + 1) (lv' := [(5, _), (4, _), (3, _), (0, .ref (nm 12 0)), (1, _), (2, _)]) dX11_flap_116 rfl rfl (by decide) rfl ?_
        refine ax_goto (tgt := 38) dX11_flap_119 (by decide) ?_
        rw [nI_1]
        exact ax_loc rfl (ih (k + 1) (by omega))
      refine ax_iload dX11_flap_38 rfl ?_
      refine ax_aload_n (i := 0) dX11_flap_40 rfl rfl rfl ?_
      refine ax_getR dX11_flap_41 fl_X11_22 rfl rfl rfl (R.tow.1 3 (by decide)) ?_
      refine ax_invV (c := 0) (n := 0) (As := []) dX11_flap_44 cb_Jx4a65c_size_8abf5 cv_X11_75.1 cv_X11_75.2.1 cv_X11_75.2.2 rfl (by decide) rfl ⟨Nat.le_of_ble_eq_true rfl, Nat.le_of_ble_eq_true rfl⟩ (Nat.le_of_ble_eq_true rfl) rfl (t_lsSize (q := 3) (by decide) (R.lq (by decide)) (R.lst.2.2.2.1) (Nat.lt_of_le_of_lt (mS_b R.mI (k := 30) (b := 300) (by decide)) (by decide)) ?_)
      refine ax_icmp_ge (tgt := 122) dX11_flap_47 (by decide) (fun c_47 => ?_) (fun c_47 => ?_)
      · exact absurd (ge_of_c (b := (mN M 30)) rfl c_47 (by omega)) (by omega)
      · have hk2 : k < (mN M 30) := lt_of_c (b := (mN M 30)) rfl c_47 (by omega)
        refine ax_aload_n (i := 0) dX11_flap_50 rfl rfl rfl ?_
        refine ax_getR dX11_flap_51 fl_X11_22 rfl rfl rfl (R.tow.1 3 (by decide)) ?_
        refine ax_iload dX11_flap_54 rfl ?_
        refine ax_invV (c := 0) (n := 1) (As := [_]) dX11_flap_56 cb_Jx4a65c_get_915e3 cv_X11_115.1 cv_X11_115.2.1 cv_X11_115.2.2 rfl (by decide) rfl ⟨Nat.le_of_ble_eq_true rfl, Nat.le_of_ble_eq_true rfl⟩ (Nat.le_of_ble_eq_true rfl) rfl (t_lsGet (q := 3) (by decide) (R.lq (by decide)) (R.lst.2.2.2.1) (Nat.lt_of_le_of_lt (mS_b R.mI (k := 30) (b := 300) (by decide)) (by decide)) (by omega) ?_)
        refine ax_cast (c := 1) dX11_flap_59 kl_X11_240 rfl (by decide) ?_
        refine ax_astore (lv' := [(6, _), (5, _), (4, _), (3, _), (0, _), (1, _), (2, _)]) dX11_flap_62 (by decide) rfl rfl ?_
        have href := R.ref.1 _ hk2
        have hru : sI S 6 (mE M 31 k) 0 = mA M 31 k := (R.rul _ (R.aRu hk2)).2.2.2.2.2.2.2.2.1.trans (R.mI.A (k := 31) (n := 300) (b := 16) (by decide) (by omega)).1.symm
        have hbg := (R.inv.2.2.1 k hk2).2.2.2.1
        refine ax_aload dX11_flap_64 rfl rfl ?_
        refine ax_getR dX11_flap_66 fl_X11_289 rfl rfl rfl href.1 ?_
        refine ax_getI dX11_flap_69 fl_X11_101 rfl rfl rfl ?_
        refine ax_iload_n (i := 1) dX11_flap_72 rfl rfl ?_
        refine ax_icmp_ne (tgt := 116) dX11_flap_73 (by decide) (fun c_73 => ?_) (fun c_73 => ?_)
        · refine NX _ _ (by
              show _ = nI (mSum (mFlapX M r n) k + mFlapX M r n k)
              rw [show mFlapX M r n k = 0 from if_neg (fun z => c_73 (hru.trans z))]
              rfl) rfl
        · refine ax_iload dX11_flap_76 rfl ?_
          refine ax_aload dX11_flap_78 rfl rfl ?_
          refine ax_getI dX11_flap_80 fl_X11_390 rfl rfl rfl ?_
          refine ax_iload_n (i := 3) dX11_flap_83 rfl rfl ?_
          refine ax_icmp_le (tgt := 91) dX11_flap_84 (by decide) (fun c_84 => ?_) (fun c_84 => ?_)
          · refine ax_iconst (v := 0) dX11_flap_91 (by decide) ?_
            refine ax_invS (n := 1) (As := [_]) dX11_flap_92 cb_X11_bit cs_X11_165.1 cs_X11_165.2 rfl ⟨Nat.le_of_ble_eq_true rfl, Nat.le_of_ble_eq_true rfl⟩ (Nat.le_of_ble_eq_true rfl) rfl (c_bit0 ?_)
            refine ax_aload dX11_flap_95 rfl rfl ?_
            refine ax_getI dX11_flap_97 fl_X11_393 rfl rfl rfl ?_
            refine ax_iload_n (i := 3) dX11_flap_100 rfl rfl ?_
            refine ax_icmp_le (tgt := 108) dX11_flap_101 (by decide) (fun c_101 => ?_) (fun c_101 => ?_)
            · refine ax_iconst (v := 0) dX11_flap_108 (by decide) ?_
              refine ax_invS (n := 1) (As := [_]) dX11_flap_109 cb_X11_bit cs_X11_165.1 cs_X11_165.2 rfl ⟨Nat.le_of_ble_eq_true rfl, Nat.le_of_ble_eq_true rfl⟩ (Nat.le_of_ble_eq_true rfl) rfl (c_bit0 ?_)
              refine ax_iadd dX11_flap_112 ?_
              refine ax_iadd dX11_flap_113 ?_
              refine ax_istore (lv' := [(4, _), (6, _), (5, _), (3, _), (0, _), (1, _), (2, _)]) dX11_flap_114 (by decide) rfl ?_
              refine NX _ _ (by
                  show _ = nI (mSum (mFlapX M r n) k + mFlapX M r n k)
                  rw [show mFlapX M r n k = 0 from (if_pos (hru.symm.trans (Classical.not_not.mp c_73))).trans (congr (congrArg (· + ·) (if_neg (fun z => Int32.not_lt.mpr c_84 (by rw [(R.int (f := 1) (k := 4) (m := 33) (q := 30) (by decide) hk2)]; exact (flap_a hA).mpr ⟨hbg, z⟩)))) (if_neg (fun z => Int32.not_lt.mpr c_101 (by rw [(R.int (f := 1) (k := 5) (m := 34) (q := 30) (by decide) hk2)]; exact (flap_a hA).mpr z))))]
                  exact sum_0 _ _ (by decide)) rfl
            · refine ax_iconst (v := 1) dX11_flap_104 (by decide) ?_
              refine ax_goto (tgt := 109) dX11_flap_105 (by decide) ?_
              refine ax_invS (n := 1) (As := [_]) dX11_flap_109 cb_X11_bit cs_X11_165.1 cs_X11_165.2 rfl ⟨Nat.le_of_ble_eq_true rfl, Nat.le_of_ble_eq_true rfl⟩ (Nat.le_of_ble_eq_true rfl) rfl (c_bit1 ?_)
              refine ax_iadd dX11_flap_112 ?_
              refine ax_iadd dX11_flap_113 ?_
              refine ax_istore (lv' := [(4, _), (6, _), (5, _), (3, _), (0, _), (1, _), (2, _)]) dX11_flap_114 (by decide) rfl ?_
              refine NX _ _ (by
                  show _ = nI (mSum (mFlapX M r n) k + mFlapX M r n k)
                  rw [show mFlapX M r n k = 1 from (if_pos (hru.symm.trans (Classical.not_not.mp c_73))).trans (congr (congrArg (· + ·) (if_neg (fun z => Int32.not_lt.mpr c_84 (by rw [(R.int (f := 1) (k := 4) (m := 33) (q := 30) (by decide) hk2)]; exact (flap_a hA).mpr ⟨hbg, z⟩)))) (if_pos ((flap_a hA).mp (by rw [← (R.int (f := 1) (k := 5) (m := 34) (q := 30) (by decide) hk2)]; exact Int32.not_le.mp c_101))))]
                  exact sum_1 _ _ (by decide)) rfl
          · refine ax_iconst (v := 1) dX11_flap_87 (by decide) ?_
            refine ax_goto (tgt := 92) dX11_flap_88 (by decide) ?_
            refine ax_invS (n := 1) (As := [_]) dX11_flap_92 cb_X11_bit cs_X11_165.1 cs_X11_165.2 rfl ⟨Nat.le_of_ble_eq_true rfl, Nat.le_of_ble_eq_true rfl⟩ (Nat.le_of_ble_eq_true rfl) rfl (c_bit1 ?_)
            refine ax_aload dX11_flap_95 rfl rfl ?_
            refine ax_getI dX11_flap_97 fl_X11_393 rfl rfl rfl ?_
            refine ax_iload_n (i := 3) dX11_flap_100 rfl rfl ?_
            refine ax_icmp_le (tgt := 108) dX11_flap_101 (by decide) (fun c_101 => ?_) (fun c_101 => ?_)
            · refine ax_iconst (v := 0) dX11_flap_108 (by decide) ?_
              refine ax_invS (n := 1) (As := [_]) dX11_flap_109 cb_X11_bit cs_X11_165.1 cs_X11_165.2 rfl ⟨Nat.le_of_ble_eq_true rfl, Nat.le_of_ble_eq_true rfl⟩ (Nat.le_of_ble_eq_true rfl) rfl (c_bit0 ?_)
              refine ax_iadd dX11_flap_112 ?_
              refine ax_iadd dX11_flap_113 ?_
              refine ax_istore (lv' := [(4, _), (6, _), (5, _), (3, _), (0, _), (1, _), (2, _)]) dX11_flap_114 (by decide) rfl ?_
              refine NX _ _ (by
                  show _ = nI (mSum (mFlapX M r n) k + mFlapX M r n k)
                  rw [show mFlapX M r n k = 1 from (if_pos (hru.symm.trans (Classical.not_not.mp c_73))).trans (congr (congrArg (· + ·) (if_pos ((flap_a hA).mp (by rw [← (R.int (f := 1) (k := 4) (m := 33) (q := 30) (by decide) hk2)]; exact Int32.not_le.mp c_84)).2)) (if_neg (fun z => Int32.not_lt.mpr c_101 (by rw [(R.int (f := 1) (k := 5) (m := 34) (q := 30) (by decide) hk2)]; exact (flap_a hA).mpr z))))]
                  exact sum_1 _ _ (by decide)) rfl
            · refine ax_iconst (v := 1) dX11_flap_104 (by decide) ?_
              refine ax_goto (tgt := 109) dX11_flap_105 (by decide) ?_
              refine ax_invS (n := 1) (As := [_]) dX11_flap_109 cb_X11_bit cs_X11_165.1 cs_X11_165.2 rfl ⟨Nat.le_of_ble_eq_true rfl, Nat.le_of_ble_eq_true rfl⟩ (Nat.le_of_ble_eq_true rfl) rfl (c_bit1 ?_)
              refine ax_iadd dX11_flap_112 ?_
              refine ax_iadd dX11_flap_113 ?_
              refine ax_istore (lv' := [(4, _), (6, _), (5, _), (3, _), (0, _), (1, _), (2, _)]) dX11_flap_114 (by decide) rfl ?_
              refine NX _ _ (by
                  show _ = nI (mSum (mFlapX M r n) k + mFlapX M r n k)
                  rw [show mFlapX M r n k = 2 from (if_pos (hru.symm.trans (Classical.not_not.mp c_73))).trans (congr (congrArg (· + ·) (if_pos ((flap_a hA).mp (by rw [← (R.int (f := 1) (k := 4) (m := 33) (q := 30) (by decide) hk2)]; exact Int32.not_le.mp c_84)).2)) (if_pos ((flap_a hA).mp (by rw [← (R.int (f := 1) (k := 5) (m := 34) (q := 30) (by decide) hk2)]; exact Int32.not_le.mp c_101))))]
                  exact sum_2 _ _ (by decide)) rfl
  exact L (mN M 30) 0 (by omega)

set_option maxHeartbeats 4000000 in
set_option maxRecDepth 100000 in
theorem c_flap {E : awE} {S : awS} {M : aM} {Q : Option Value → awS → Nat → Nat → Prop} (R : cR (fun _ _ => mN M 1) S M) (hr0 : cRest M) {r n : Int32} (h : Q (some (.int (mFlap M r n).2)) S 0 0) : awT true E m_X11_flap [.ref (nm 12 0), .int r, .int n] S Q := by
  refine awT.of (by decide) (by decide) (Nat.le_of_ble_eq_true rfl) ?_
  refine ax_aload_n (i := 0) dX11_flap_0 rfl rfl rfl ?_
  refine ax_iload_n (i := 1) dX11_flap_1 rfl rfl ?_
  refine ax_invV (c := 12) (n := 1) (As := [_]) dX11_flap_2 cb_X11_ruleAt cv_X11_104.1 cv_X11_104.2.1 cv_X11_104.2.2 rfl (by decide) rfl ⟨Nat.le_of_ble_eq_true rfl, Nat.le_of_ble_eq_true rfl⟩ (Nat.le_of_ble_eq_true rfl) rfl (c_ruleAt R (fun c_2 => ?_) (fun c_2 => ?_))
  · refine ax_ifnull_f (k0 := 19) dX11_flap_5 (by decide) ?_
    refine ax_iload_n (i := 2) dX11_flap_8 rfl rfl ?_
    refine ax_iconst (v := 1) dX11_flap_9 (by decide) ?_
    refine ax_sipush (v := 2000) dX11_flap_10 (by decide) ?_
    refine ax_invS (n := 3) (As := [_, _, _]) dX11_flap_13 cb_X11_isWithin cs_X11_71.1 cs_X11_71.2 rfl ⟨Nat.le_of_ble_eq_true rfl, Nat.le_of_ble_eq_true rfl⟩ (Nat.le_of_ble_eq_true rfl) rfl (c_isWithin (fun c_13 => ?_) (fun c_13 => ?_))
    · refine ax_if_ne (tgt := 21) dX11_flap_16 (by decide) (fun _ => ?_) (fun z => absurd (by decide) z)
      refine ax_iconst (v := 0) dX11_flap_21 (by decide) ?_
      refine ax_aload_n (i := 0) dX11_flap_22 rfl rfl rfl ?_
      refine ax_getI dX11_flap_23 fl_X11_67 rfl rfl rfl ?_
      refine ax_iload_n (i := 2) dX11_flap_26 rfl rfl ?_
      refine ax_isub dX11_flap_27 ?_
      refine ax_invS (n := 2) (As := [_, _]) dX11_flap_28 cb_J9_max_7cf53 cs_X11_446.1 cs_X11_446.2 rfl ⟨Nat.le_of_ble_eq_true rfl, Nat.le_of_ble_eq_true rfl⟩ (Nat.le_of_ble_eq_true rfl) rfl (t_imax (fun c_28 => ?_) (fun c_28 => ?_))
      · refine ax_istore_n (i := 3) (lv' := [(3, _), (0, _), (1, _), (2, _)]) dX11_flap_31 rfl (by decide) rfl ?_
        refine ax_iconst (v := nI 0) dX11_flap_32 (by decide) ?_
        refine ax_istore (lv' := [(4, _), (3, _), (0, _), (1, _), (2, _)]) dX11_flap_33 (by decide) rfl ?_
        refine ax_iconst (v := nI 0) dX11_flap_35 (by decide) ?_
        refine ax_istore (lv' := [(5, _), (4, _), (3, _), (0, _), (1, _), (2, _)]) dX11_flap_36 (by decide) rfl ?_
        exact ax_loc rfl (flap_2 R (Or.inl ⟨(by rw [← R.sca.2.2.2.2.2.2.1]; exact c_28), by rw [R.sca.2.2.2.2.2.2.1]⟩) (by rw [← mFlap_v ⟨c_2, c_13⟩]; exact h))
      · refine ax_istore_n (i := 3) (lv' := [(3, _), (0, _), (1, _), (2, _)]) dX11_flap_31 rfl (by decide) rfl ?_
        refine ax_iconst (v := nI 0) dX11_flap_32 (by decide) ?_
        refine ax_istore (lv' := [(4, _), (3, _), (0, _), (1, _), (2, _)]) dX11_flap_33 (by decide) rfl ?_
        refine ax_iconst (v := nI 0) dX11_flap_35 (by decide) ?_
        refine ax_istore (lv' := [(5, _), (4, _), (3, _), (0, _), (1, _), (2, _)]) dX11_flap_36 (by decide) rfl ?_
        exact ax_loc rfl (flap_2 R (Or.inr ⟨(by rw [← R.sca.2.2.2.2.2.2.1]; exact c_28), rfl⟩) (by rw [← mFlap_v ⟨c_2, c_13⟩]; exact h))
    · refine ax_if_ne (tgt := 21) dX11_flap_16 (by decide) (fun z => absurd z (by decide)) (fun _ => ?_)
      refine ax_iconst (v := -1) dX11_flap_19 (by decide) ?_
      refine ax_iret dX11_flap_20 rfl rfl ?_
      exact fin1 h ((congrArg Prod.snd (if_pos (fun g => c_13 g.2))))
  · refine ax_ifnull_t (tgt := 19) dX11_flap_5 (by decide) ?_
    refine ax_iconst (v := -1) dX11_flap_19 (by decide) ?_
    refine ax_iret dX11_flap_20 rfl rfl ?_
    exact fin1 h ((congrArg Prod.snd (if_pos (fun g => c_2 g.1))))
theorem nI_sle {a b : Nat} (h : nI a ≤ nI b) (ha : b < 2 ^ 31) (hc : a < 2 ^ 31) : a ≤ b := Nat.le_of_not_lt (fun z => absurd h (Int32.not_le.mpr (nI_lt z hc)))

set_option maxHeartbeats 4000000 in
set_option maxRecDepth 100000 in
theorem c_wentTo {E : awE} {S : awS} {M : aM} {τ : Nat → Nat → Nat} {Q : Option Value → awS → Nat → Nat → Prop} (R : cR τ S M) {l : Nat} {hd : Int32} (hl : l < mN M 63) (h1 : mWent M l hd → Q (some (.int 1)) S 0 0) (h0 : ¬ mWent M l hd → Q (some (.int 0)) S 0 0) : awT true E m_X3_wentTo [.ref (nm 4 l), .int hd] S Q := by
  refine awT.of (by decide) (by decide) (Nat.le_of_ble_eq_true rfl) ?_
  have e_nl := R.nL
  have er := R.mI.A (k := 69) (n := 200) (b := 9) (by decide) (show l < 200 by omega)
  have ea := R.mI.A (k := 71) (n := 200) (b := 9) (by decide) (show l < 200 by omega)
  have hL := R.ltr _ hl
  have eA := (R.int (f := 4) (k := 9) (m := 71) (q := 63) (by decide) hl).trans ea.1
  have eR := (R.int (f := 4) (k := 4) (m := 69) (q := 63) (by decide) hl).trans er.1
  have L : ¬ mA M 69 l ≤ mA M 71 l → mE M 71 l < mE M 69 l → ∀ (m i : Nat), i + m = mE M 71 l + 1 → (∀ j, j < i → ¬ mA M 70 (8 * l + j) = hd) → awX true E m_X3_wentTo 11 [(2, .int (nI i)), (0, .ref (nm 4 l)), (1, .int hd)] [] S 0 0 Q := by
    intro hn hlt m
    induction m with
    | zero =>
      intro i hm1 hno
      refine ax_iload_n (i := 2) dX3_wentTo_11 rfl rfl ?_
      refine ax_aload_n (i := 0) dX3_wentTo_12 rfl rfl rfl ?_
      refine ax_getI dX3_wentTo_13 fl_X3_28 rfl rfl rfl ?_
      refine ax_top eA ?_
      refine ax_icmp_gt (tgt := 46) dX3_wentTo_16 (by decide) (fun c_16 => ?_) (fun c_16 => ?_)
      · have hiA : mE M 71 l < i := by omega
        refine ax_iconst (v := 0) dX3_wentTo_46 (by decide) ?_
        refine ax_iret dX3_wentTo_47 rfl rfl ?_
        exact h0 (fun z => z.elim (fun q => absurd q hn) (fun w => w.elim (fun j q => hno j (Nat.lt_of_le_of_lt (nI_sle (by rw [← ea.1]; exact q.1) (by omega) (by have := q.2.2.1; omega)) hiA) q.2.2.2)))
      · exact absurd (nI_lt (a := mE M 71 l) (b := i) (by omega) (by omega)) c_16
    | succ m ih =>
      intro i hm1 hno
      refine ax_iload_n (i := 2) dX3_wentTo_11 rfl rfl ?_
      refine ax_aload_n (i := 0) dX3_wentTo_12 rfl rfl rfl ?_
      refine ax_getI dX3_wentTo_13 fl_X3_28 rfl rfl rfl ?_
      refine ax_top eA ?_
      refine ax_icmp_gt (tgt := 46) dX3_wentTo_16 (by decide) (fun c_16 => ?_) (fun c_16 => ?_)
      · exact absurd c_16 (Int32.not_lt.mpr (nI_le (by omega) (by omega)))
      · have hiA : i ≤ mE M 71 l := by omega
        refine ax_iload_n (i := 2) dX3_wentTo_19 rfl rfl ?_
        refine ax_aload_n (i := 0) dX3_wentTo_20 rfl rfl rfl ?_
        refine ax_getR dX3_wentTo_21 fl_X3_9 rfl rfl rfl hL.1 ?_
        refine ax_alenN dX3_wentTo_24 (by decide) rfl hL.2.2.1 ?_
        refine ax_icmp_ge (tgt := 46) dX3_wentTo_25 (by decide) (fun c_25 => ?_) (fun c_25 => ?_)
        · exact absurd c_25 (Int32.not_le.mpr (nI_lt (by omega) (by decide)))
        · refine ax_aload_n (i := 0) dX3_wentTo_28 rfl rfl rfl ?_
          refine ax_getR dX3_wentTo_29 fl_X3_9 rfl rfl rfl hL.1 ?_
          refine ax_iload_n (i := 2) dX3_wentTo_32 rfl rfl ?_
          refine ax_ialdN dX3_wentTo_33 rfl rfl hL.2.2.1 (by decide) (by omega) ?_
          refine ax_iload_n (i := 1) dX3_wentTo_34 rfl rfl ?_
          refine ax_icmp_ne (tgt := 40) dX3_wentTo_35 (by decide) (fun c_35 => ?_) (fun c_35 => ?_)
          · refine ax_iinc (v := _ + 1) (lv' := [(2, _), (0, _), (1, _)]) dX3_wentTo_40 rfl rfl (by decide) rfl ?_
            refine ax_goto (tgt := 11) dX3_wentTo_43 (by decide) ?_
            rw [nI_1]
            exact ax_loc rfl (ih (i + 1) (by omega) (lt_succ_c hno (by rw [← (R.row _ hl).1 i (by omega)]; exact c_35)))
          · refine ax_iconst (v := 1) dX3_wentTo_38 (by decide) ?_
            refine ax_iret dX3_wentTo_39 rfl rfl ?_
            exact h1 (Or.inr ⟨i, by rw [ea.1]; exact nI_le hiA (by omega), by rw [er.1]; exact nI_lt (by omega) (by omega), by omega, by rw [← (R.row _ hl).1 i (by omega)]; exact (Classical.not_not.mp c_35)⟩)
  refine ax_aload_n (i := 0) dX3_wentTo_0 rfl rfl rfl ?_
  refine ax_invV (c := 4) (n := 0) (As := []) dX3_wentTo_1 cb_X3_isToAll cv_X3_52.1 cv_X3_52.2.1 cv_X3_52.2.2 rfl (by decide) rfl ⟨Nat.le_of_ble_eq_true rfl, Nat.le_of_ble_eq_true rfl⟩ (Nat.le_of_ble_eq_true rfl) rfl (c_isToAll (fun c_1 => ?_) (fun c_1 => ?_))
  · refine ax_if_eq (tgt := 9) dX3_wentTo_4 (by decide) (fun z => absurd z (by decide)) (fun _ => ?_)
    refine ax_iconst (v := 1) dX3_wentTo_7 (by decide) ?_
    refine ax_iret dX3_wentTo_8 rfl rfl ?_
    exact h1 (Or.inl (by rw [← (R.int (f := 4) (k := 4) (m := 69) (q := 63) (by decide) hl), ← (R.int (f := 4) (k := 9) (m := 71) (q := 63) (by decide) hl)]; exact c_1))
  · refine ax_if_eq (tgt := 9) dX3_wentTo_4 (by decide) (fun _ => ?_) (fun z => absurd (by decide) z)
    refine ax_iconst (v := nI 0) dX3_wentTo_9 (by decide) ?_
    refine ax_istore_n (i := 2) (lv' := [(2, _), (0, _), (1, _)]) dX3_wentTo_10 rfl (by decide) rfl ?_
    have hn : ¬ mA M 69 l ≤ mA M 71 l := fun z => c_1 (by rw [(R.int (f := 4) (k := 4) (m := 69) (q := 63) (by decide) hl), (R.int (f := 4) (k := 9) (m := 71) (q := 63) (by decide) hl)]; exact z)
    have hlt : mE M 71 l < mE M 69 l := nI_slt (by rw [← er.1, ← ea.1]; exact Int32.not_le.mp hn) (by omega)
    exact ax_loc rfl (L hn hlt (mE M 71 l + 1) 0 (by omega) (fun j hj => absurd hj (Nat.not_lt_zero j)))
set_option maxHeartbeats 4000000 in
set_option maxRecDepth 100000 in
theorem noise_2 {E : awE} {S : awS} {M : aM} {τ : Nat → Nat → Nat} {Q : Option Value → awS → Nat → Nat → Prop} (R : cR τ S M) {hd : Int32} (h : Q (some (.int (nI (mCntP (fun l => mWent M l hd) (mN M 63))))) S 0 0) : awX true E m_X11_noise 17 [(3, .int (nI 0)), (2, .int (nI 0)), (0, .ref (nm 12 0)), (1, .int hd)] [] S 0 0 Q := by
  have e_b : mN M 63 ≤ 200 := R.nL
  have L : ∀ (m k : Nat), k + m = (mN M 63) → awX true E m_X11_noise 17 [(3, .int (nI k)), (2, .int (nI (mCntP (fun l => mWent M l hd) k))), (0, .ref (nm 12 0)), (1, .int hd)] [] S 0 0 Q := by
    intro m
    induction m with
    | zero =>
      intro k hm1 
      refine ax_iload_n (i := 3) dX11_noise_17 rfl rfl ?_
      refine ax_aload_n (i := 0) dX11_noise_18 rfl rfl rfl ?_
      refine ax_getR dX11_noise_19 fl_X11_28 rfl rfl rfl (R.tow.1 5 (by decide)) ?_
      refine ax_invV (c := 0) (n := 0) (As := []) dX11_noise_22 cb_Jx4a65c_size_8abf5 cv_X11_75.1 cv_X11_75.2.1 cv_X11_75.2.2 rfl (by decide) rfl ⟨Nat.le_of_ble_eq_true rfl, Nat.le_of_ble_eq_true rfl⟩ (Nat.le_of_ble_eq_true rfl) rfl (t_lsSize (q := 5) (by decide) (R.lq (by decide)) (R.lst.2.2.2.2.2.1) (Nat.lt_of_le_of_lt (mS_b R.mI (k := 63) (b := 200) (by decide)) (by decide)) ?_)
      refine ax_icmp_ge (tgt := 55) dX11_noise_25 (by decide) (fun c_25 => ?_) (fun c_25 => ?_)
      · have hk2 : k = (mN M 63) := Nat.le_antisymm (by omega) (ge_of_c (b := (mN M 63)) rfl c_25 (by omega))
        refine ax_iload_n (i := 2) dX11_noise_55 rfl rfl ?_
        refine ax_iret dX11_noise_56 rfl rfl ?_
        rw [hk2]
        exact h
      · exact absurd (lt_of_c (b := (mN M 63)) rfl c_25 (by omega)) (by omega)
    | succ m ih =>
      intro k hm1 
      have NX : ∀ lv : List (Nat × Value), [(2, Value.int (nI (mCntP (fun l => mWent M l hd) (k + 1)))), (3, .int (nI k)), (0, .ref (nm 12 0)), (1, .int hd)].map (fun q => lk lv q.1) = [(2, Value.int (nI (mCntP (fun l => mWent M l hd) (k + 1)))), (3, .int (nI k)), (0, .ref (nm 12 0)), (1, .int hd)].map (fun q => some q.2) → awX true E m_X11_noise 49 lv [] S 0 0 Q := by
        intro lv hlv
        refine ax_loc hlv ?_
        refine ax_iinc (v := _ + 1) (lv' := [(3, _), (2, _), (0, .ref (nm 12 0)), (1, _)]) dX11_noise_49 rfl rfl (by decide) rfl ?_
        refine ax_goto (tgt := 17) dX11_noise_52 (by decide) ?_
        rw [nI_1]
        exact ax_loc rfl (ih (k + 1) (by omega))
      refine ax_iload_n (i := 3) dX11_noise_17 rfl rfl ?_
      refine ax_aload_n (i := 0) dX11_noise_18 rfl rfl rfl ?_
      refine ax_getR dX11_noise_19 fl_X11_28 rfl rfl rfl (R.tow.1 5 (by decide)) ?_
      refine ax_invV (c := 0) (n := 0) (As := []) dX11_noise_22 cb_Jx4a65c_size_8abf5 cv_X11_75.1 cv_X11_75.2.1 cv_X11_75.2.2 rfl (by decide) rfl ⟨Nat.le_of_ble_eq_true rfl, Nat.le_of_ble_eq_true rfl⟩ (Nat.le_of_ble_eq_true rfl) rfl (t_lsSize (q := 5) (by decide) (R.lq (by decide)) (R.lst.2.2.2.2.2.1) (Nat.lt_of_le_of_lt (mS_b R.mI (k := 63) (b := 200) (by decide)) (by decide)) ?_)
      refine ax_icmp_ge (tgt := 55) dX11_noise_25 (by decide) (fun c_25 => ?_) (fun c_25 => ?_)
      · exact absurd (ge_of_c (b := (mN M 63)) rfl c_25 (by omega)) (by omega)
      · have hk2 : k < (mN M 63) := lt_of_c (b := (mN M 63)) rfl c_25 (by omega)
        refine ax_iload_n (i := 2) dX11_noise_28 rfl rfl ?_
        refine ax_aload_n (i := 0) dX11_noise_29 rfl rfl rfl ?_
        refine ax_getR dX11_noise_30 fl_X11_28 rfl rfl rfl (R.tow.1 5 (by decide)) ?_
        refine ax_iload_n (i := 3) dX11_noise_33 rfl rfl ?_
        refine ax_invV (c := 0) (n := 1) (As := [_]) dX11_noise_34 cb_Jx4a65c_get_915e3 cv_X11_115.1 cv_X11_115.2.1 cv_X11_115.2.2 rfl (by decide) rfl ⟨Nat.le_of_ble_eq_true rfl, Nat.le_of_ble_eq_true rfl⟩ (Nat.le_of_ble_eq_true rfl) rfl (t_lsGet (q := 5) (by decide) (R.lq (by decide)) (R.lst.2.2.2.2.2.1) (Nat.lt_of_le_of_lt (mS_b R.mI (k := 63) (b := 200) (by decide)) (by decide)) (by omega) ?_)
        refine ax_cast (c := 4) dX11_noise_37 kl_X11_313 rfl (by decide) ?_
        refine ax_iload_n (i := 1) dX11_noise_40 rfl rfl ?_
        refine ax_invV (c := 4) (n := 1) (As := [_]) dX11_noise_41 cb_X3_wentTo cv_X11_439.1 cv_X11_439.2.1 cv_X11_439.2.2 rfl (by decide) rfl ⟨Nat.le_of_ble_eq_true rfl, Nat.le_of_ble_eq_true rfl⟩ (Nat.le_of_ble_eq_true rfl) rfl (c_wentTo R hk2 (fun c_41 => ?_) (fun c_41 => ?_))
        · refine ax_invS (n := 1) (As := [_]) dX11_noise_44 cb_X11_bit cs_X11_165.1 cs_X11_165.2 rfl ⟨Nat.le_of_ble_eq_true rfl, Nat.le_of_ble_eq_true rfl⟩ (Nat.le_of_ble_eq_true rfl) rfl (c_bit1 ?_)
          refine ax_iadd1 dX11_noise_47 ?_
          refine ax_istore_n (i := 2) (lv' := [(2, _), (3, _), (0, _), (1, _)]) dX11_noise_48 rfl (by decide) rfl ?_
          rw [show mCntP (fun l => mWent M l hd) k + 1 = mCntP (fun l => mWent M l hd) (k + 1) from by rw [mCntP_s, iC_t (show (fun l => mWent M l hd) k from c_41)]]
          exact NX _ rfl
        · refine ax_invS (n := 1) (As := [_]) dX11_noise_44 cb_X11_bit cs_X11_165.1 cs_X11_165.2 rfl ⟨Nat.le_of_ble_eq_true rfl, Nat.le_of_ble_eq_true rfl⟩ (Nat.le_of_ble_eq_true rfl) rfl (c_bit0 ?_)
          refine ax_iadd dX11_noise_47 ?_
          refine ax_istore_n (i := 2) (lv' := [(2, _), (3, _), (0, _), (1, _)]) dX11_noise_48 rfl (by decide) rfl ?_
          rw [show nI (mCntP (fun l => mWent M l hd) k) + 0 = nI (mCntP (fun l => mWent M l hd) (k + 1)) from by rw [mCntP_s, iC_f (show ¬ (fun l => mWent M l hd) k from c_41)]; exact Int32.add_zero _]
          exact NX _ rfl
  exact L (mN M 63) 0 (by omega)

set_option maxHeartbeats 4000000 in
set_option maxRecDepth 100000 in
theorem c_noise {E : awE} {S : awS} {M : aM} {Q : Option Value → awS → Nat → Nat → Prop} (R : cR (fun _ _ => mN M 1) S M) (hr0 : cRest M) {hd : Int32} (h : Q (some (.int (mNoise M hd).2)) S 0 0) : awT true E m_X11_noise [.ref (nm 12 0), .int hd] S Q := by
  refine awT.of (by decide) (by decide) (Nat.le_of_ble_eq_true rfl) ?_
  refine ax_aload_n (i := 0) dX11_noise_0 rfl rfl rfl ?_
  refine ax_getR dX11_noise_1 fl_X11_40 rfl rfl rfl R.tow.2.1 ?_
  refine ax_iload_n (i := 1) dX11_noise_4 rfl rfl ?_
  refine ax_invV (c := 5) (n := 1) (As := [_]) dX11_noise_5 cb_X4_hasHand cv_X11_125.1 cv_X11_125.2.1 cv_X11_125.2.2 rfl (by decide) rfl ⟨Nat.le_of_ble_eq_true rfl, Nat.le_of_ble_eq_true rfl⟩ (Nat.le_of_ble_eq_true rfl) rfl (c_hasHand (fun c_5 => ?_) (fun c_5 => ?_))
  · refine ax_if_ne (tgt := 13) dX11_noise_8 (by decide) (fun _ => ?_) (fun z => absurd (by decide) z)
    refine ax_iconst (v := nI 0) dX11_noise_13 (by decide) ?_
    refine ax_istore_n (i := 2) (lv' := [(2, _), (0, _), (1, _)]) dX11_noise_14 rfl (by decide) rfl ?_
    refine ax_iconst (v := nI 0) dX11_noise_15 (by decide) ?_
    refine ax_istore_n (i := 3) (lv' := [(3, _), (2, _), (0, _), (1, _)]) dX11_noise_16 rfl (by decide) rfl ?_
    exact ax_loc rfl (noise_2 R (by rw [← mNoise_v (by rw [R.sca.2.2.2.2.2.2.2] at c_5; exact c_5)]; exact h))
  · refine ax_if_ne (tgt := 13) dX11_noise_8 (by decide) (fun z => absurd z (by decide)) (fun _ => ?_)
    refine ax_iconst (v := -1) dX11_noise_11 (by decide) ?_
    refine ax_iret dX11_noise_12 rfl rfl ?_
    exact fin1 h ((congrArg Prod.snd (if_pos (fun z => c_5 (by rw [R.sca.2.2.2.2.2.2.2]; exact z)))))
theorem leT_sh (p e v y no : Int32) (la : Bool) (a m : Nat) : mLeastT p e v (y, no, la, a + m) = ((mLeastT p e v (y, no, la, a)).1, (mLeastT p e v (y, no, la, a)).2.1, (mLeastT p e v (y, no, la, a)).2.2.1, (mLeastT p e v (y, no, la, a)).2.2.2 + m) := by
  unfold mLeastT
  simp only []
  generalize (if v = 1 then y + 1 else if v = 0 then 0 else y) = y2
  generalize (if v = 0 then no + 1 else if v = 1 then 0 else no) = n2
  by_cases c1 : la = false ∧ p ≤ y2
  · simp only [if_pos c1]; exact congrArg (fun z => (y2, n2, true, z)) (by omega)
  · simp only [if_neg c1]
    by_cases c2 : la = true ∧ e ≤ n2
    · simp only [if_pos c2]
    · simp only [if_neg c2]
theorem leF_sh (M : aM) (r : Nat) (p : Int32) (s m : Nat) : ∀ j, mIter (mLeF M r p s) j ((0 : Int32), (0 : Int32), false, m) = ((mIter (mLeF M r p s) j ((0 : Int32), (0 : Int32), false, 0)).1, (mIter (mLeF M r p s) j ((0 : Int32), (0 : Int32), false, 0)).2.1, (mIter (mLeF M r p s) j ((0 : Int32), (0 : Int32), false, 0)).2.2.1, (mIter (mLeF M r p s) j ((0 : Int32), (0 : Int32), false, 0)).2.2.2 + m)
  | 0 => by show ((0 : Int32), (0 : Int32), false, m) = ((0 : Int32), (0 : Int32), false, 0 + m); rw [Nat.zero_add]
  | j + 1 => by
    show mLeF M r p s j (mIter (mLeF M r p s) j ((0 : Int32), (0 : Int32), false, m)) = _
    rw [leF_sh M r p s m j]
    exact leT_sh _ _ _ _ _ _ _ _
theorem leA_none {M : aM} {r p s t : Nat} (hp : 1 ≤ p ∧ p ≤ 10) (h : ∀ x, x ≤ t → mTru M r s x = -1) : leA M r p s t = ((0 : Int32), (0 : Int32), false, 0) := by
  unfold leA
  have key : ∀ j, j ≤ t + 1 - mE M 15 r → mIter (mLeF M r (nI p) s) j ((0 : Int32), (0 : Int32), false, 0) = ((0 : Int32), (0 : Int32), false, 0) := by
    intro j
    induction j with
    | zero => intro _; rfl
    | succ j ih =>
      intro hj
      show mLeF M r (nI p) s j (mIter (mLeF M r (nI p) s) j ((0 : Int32), (0 : Int32), false, 0)) = _
      rw [ih (by omega)]
      show mLeastT (nI p) (mA M 12 r) (mTru M r s (mE M 15 r + j)) ((0 : Int32), (0 : Int32), false, 0) = _
      rw [h _ (by omega)]
      unfold mLeastT
      simp only []
      have e1 : (if (-1 : Int32) = 1 then (0 : Int32) + 1 else if (-1 : Int32) = 0 then 0 else 0) = 0 := by decide
      have e2 : (if (-1 : Int32) = 0 then (0 : Int32) + 1 else if (-1 : Int32) = 1 then 0 else 0) = 0 := by decide
      rw [e1, e2, if_neg (fun z => absurd z.2 (Int32.not_le.mpr (nI_lt (a := 0) (by omega) (by omega)))), if_neg (fun z => by cases z.1)]
  exact key _ (Nat.le_refl _)
theorem leSum_e {τ : Nat → Nat → Nat} {M : aM} {r p t : Nat} (hτ : ∀ s, τ r s = t) (ht : t = mN M 1) : ∀ n, mIter (fun s m => mLeastS M r (nI p) s m) n 0 = leSum τ M r p n
  | 0 => rfl
  | n + 1 => by
    show mLeastS M r (nI p) n (mIter (fun s m => mLeastS M r (nI p) s m) n 0) = leSum τ M r p n + (leA M r p n (τ r n)).2.2.2
    rw [leSum_e hτ ht n, mLeastS_e, leF_sh, hτ, ht]
    exact Nat.add_comm _ _
theorem leSum_z {τ : Nat → Nat → Nat} {M : aM} {r p k : Nat} (h : ∀ s, k ≤ s → s < 16 → (leA M r p s (τ r s)).2.2.2 = 0) : ∀ n, n + k ≤ 16 → leSum τ M r p (k + n) = leSum τ M r p k
  | 0, _ => rfl
  | n + 1, hn => by
    show leSum τ M r p (k + n) + (leA M r p (k + n) (τ r (k + n))).2.2.2 = _
    rw [h _ (by omega) (by omega), leSum_z h n (by omega)]
    rfl
theorem cR.least {S : awS} {M : aM} (R : cR (fun _ _ => mN M 1) S M) {r p : Nat} (hr : r < mN M 6) (hp : 1 ≤ p ∧ p ≤ 10) : sI S 20 r p = nI (mIter (fun s m => mLeastS M r (nI p) s m) (mN M 2) 0) := by
  rw [(R.lea r p hr hp.1 hp.2).1, leSum_e (τ := fun _ _ => mN M 1) (fun _ => rfl) rfl]
  have hs := R.nS
  have h1 := leSum_z (τ := fun _ _ => mN M 1) (M := M) (r := r) (p := p) (k := mN M 2) (fun s h1 h2 => by
    rw [leA_none hp (fun x hx => ?_)]
    show mA M 16 (401 * (16 * r + s) + x) - 1 = -1
    rw [R.inv.1 r s x (Or.inl (Or.inr h1)) h2 (by have := R.nC; omega)]
    rfl) (16 - mN M 2) (by omega)
  rw [show mN M 2 + (16 - mN M 2) = 16 by omega] at h1
  exact congrArg nI h1

set_option maxHeartbeats 4000000 in
set_option maxRecDepth 100000 in
theorem c_least {E : awE} {S : awS} {M : aM} {Q : Option Value → awS → Nat → Nat → Prop} (R : cR (fun _ _ => mN M 1) S M) (hr0 : cRest M) {r p : Int32} (h : Q (some (.int (mLeast M r p).2)) S 0 0) : awT true E m_X11_least [.ref (nm 12 0), .int r, .int p] S Q := by
  refine awT.of (by decide) (by decide) (Nat.le_of_ble_eq_true rfl) ?_
  refine ax_aload_n (i := 0) dX11_least_0 rfl rfl rfl ?_
  refine ax_iload_n (i := 1) dX11_least_1 rfl rfl ?_
  refine ax_invV (c := 12) (n := 1) (As := [_]) dX11_least_2 cb_X11_ruleAt cv_X11_104.1 cv_X11_104.2.1 cv_X11_104.2.2 rfl (by decide) rfl ⟨Nat.le_of_ble_eq_true rfl, Nat.le_of_ble_eq_true rfl⟩ (Nat.le_of_ble_eq_true rfl) rfl (c_ruleAt R (fun c_2 => ?_) (fun c_2 => ?_))
  · refine ax_astore_n (i := 3) (lv' := [(3, _), (0, _), (1, _), (2, _)]) dX11_least_5 rfl (by decide) rfl rfl ?_
    refine ax_aload_n (i := 3) dX11_least_6 rfl rfl rfl ?_
    refine ax_ifnull_f (k0 := 20) dX11_least_7 (by decide) ?_
    refine ax_iload_n (i := 2) dX11_least_10 rfl rfl ?_
    refine ax_iconst (v := 1) dX11_least_11 (by decide) ?_
    refine ax_bipush (v := 10) dX11_least_12 (by decide) ?_
    refine ax_invS (n := 3) (As := [_, _, _]) dX11_least_14 cb_X11_isWithin cs_X11_71.1 cs_X11_71.2 rfl ⟨Nat.le_of_ble_eq_true rfl, Nat.le_of_ble_eq_true rfl⟩ (Nat.le_of_ble_eq_true rfl) rfl (c_isWithin (fun c_14 => ?_) (fun c_14 => ?_))
    · refine ax_if_ne (tgt := 22) dX11_least_17 (by decide) (fun _ => ?_) (fun z => absurd (by decide) z)
      have e_p := rg_of (n := 11) (Int32.le_trans (by decide) c_14.1) (Int32.lt_of_le_of_lt c_14.2 (by decide)) (by decide)
      have e_pb := e_p.2
      have hp1 : 1 ≤ nN p := Nat.pos_of_ne_zero (fun z => absurd c_14.1 (by rw [e_p.1, z]; decide))
      refine ax_aload_n (i := 3) dX11_least_22 rfl rfl rfl ?_
      refine ax_iload_n (i := 2) dX11_least_23 rfl rfl ?_
      rw [e_p.1]
      refine ax_invV (c := 6) (n := 1) (As := [_]) dX11_least_24 cb_X5_begunAt cv_X11_452.1 cv_X11_452.2.1 cv_X11_452.2.2 rfl (by decide) rfl ⟨Nat.le_of_ble_eq_true rfl, Nat.le_of_ble_eq_true rfl⟩ (Nat.le_of_ble_eq_true rfl) rfl (c_begunAt (R.rul _ (R.rE c_2).2) (by omega) ?_)
      refine ax_iret dX11_least_27 rfl rfl ?_
      exact fin1 h ((congrArg Prod.snd (if_neg (fun z => z ⟨c_2, c_14⟩))).trans (by rw [R.least (R.rE c_2).2 ⟨hp1, by omega⟩, ← e_p.1]))
    · refine ax_if_ne (tgt := 22) dX11_least_17 (by decide) (fun z => absurd z (by decide)) (fun _ => ?_)
      refine ax_iconst (v := -1) dX11_least_20 (by decide) ?_
      refine ax_iret dX11_least_21 rfl rfl ?_
      exact fin1 h ((congrArg Prod.snd (if_pos (fun g => c_14 g.2))))
  · refine ax_astore_n (i := 3) (lv' := [(3, _), (0, _), (1, _), (2, _)]) dX11_least_5 rfl (by decide) rfl rfl ?_
    refine ax_aload_n (i := 3) dX11_least_6 rfl rfl rfl ?_
    refine ax_ifnull_t (tgt := 20) dX11_least_7 (by decide) ?_
    refine ax_iconst (v := -1) dX11_least_20 (by decide) ?_
    refine ax_iret dX11_least_21 rfl rfl ?_
    exact fin1 h ((congrArg Prod.snd (if_pos (fun g => c_2 g.1))))
