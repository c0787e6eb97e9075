set_option maxHeartbeats 4000000 in
set_option maxRecDepth 100000 in
theorem t_noise {b : Bool} {E : awE} {S : awS} {M : aM} {Q : Option Value → awS → Nat → Nat → Prop} (hm : mOk S) (hI : mI M) (hd : Int32) (h : Q (some (.int (mNoise M hd).2)) (putM S (mNoise M hd).1) 0 0) : awT b E m_X12_noise [.ref (nm 13 0), .int hd] (putM S M) Q := by
  refine awT.of (by decide) (by decide) (Nat.le_of_ble_eq_true rfl) ?_
  have en : mS (mT0 M) 63 = nI (mN M 63) := mS_nI hI (k := 63) (b := 200) (by decide)
  have enb : mN M 63 ≤ 200 := mS_b hI (by decide)
  refine ax_aload_n (i := 0) dX12_noise_0 rfl rfl rfl ?_
  refine ax_iconst (v := 0) dX12_noise_1 (by decide) ?_
  refine ax_mPS dX12_noise_2 fl_X12_228 rfl rfl ?_
  refine ax_mE (M2 := mT0 M) rfl ?_
  refine ax_aload_n (i := 0) dX12_noise_5 rfl rfl rfl ?_
  refine ax_iload_n (i := 1) dX12_noise_6 rfl rfl ?_
  refine ax_invV (c := 13) (n := 1) (As := [_]) dX12_noise_7 cb_X12_isHand cv_X12_276.1 cv_X12_276.2.1 cv_X12_276.2.2 rfl (by decide) rfl ⟨Nat.le_of_ble_eq_true rfl, Nat.le_of_ble_eq_true rfl⟩ (Nat.le_of_ble_eq_true rfl) rfl (t_isHand (fun c_7 => ?_) (fun c_7 => ?_))
  · refine ax_if_ne (tgt := 15) dX12_noise_10 (by decide) (fun _ => ?_) (fun z => absurd (by decide) z)
    have L : ∀ (m k : Nat), k + m = mN M 63 → awX b E m_X12_noise 19 [(3, .int (nI k)), (2, .int (nI (mCntP (fun l => mWent M l hd) k))), (0, .ref (nm 13 0)), (1, .int hd)] [] (putM S (mT0 M)) 0 0 Q := by
      intro m
      induction m with
      | zero =>
        intro k hm1 
        refine ax_iload_n (i := 3) dX12_noise_19 rfl rfl ?_
        refine ax_aload_n (i := 0) dX12_noise_20 rfl rfl rfl ?_
        refine ax_mS dX12_noise_21 fl_X12_362 rfl ?_
        refine ax_icmp_ge (tgt := 50) dX12_noise_24 (by decide) (fun c_24 => ?_) (fun c_24 => ?_)
        · have hk2 : k = mN M 63 := Nat.le_antisymm (by omega) (ge_of_n en c_24 (by omega))
          subst hk2
          refine ax_iload_n (i := 2) dX12_noise_50 rfl rfl ?_
          refine ax_iret dX12_noise_51 rfl rfl ?_
          exact fin2 h (if_neg (fun z => z c_7))
        · exact absurd (lt_of_n en c_24 (by omega)) (by omega)
      | succ m ih =>
        intro k hm1 
        have NX : ∀ lv : List (Nat × Value), [(2, Value.int (nI (mCntP (fun l => mWent M l hd) (k + 1)))), (3, .int (nI k)), (0, .ref (nm 13 0)), (1, .int hd)].map (fun q => lk lv q.1) = [(2, Value.int (nI (mCntP (fun l => mWent M l hd) (k + 1)))), (3, .int (nI k)), (0, .ref (nm 13 0)), (1, .int hd)].map (fun q => some q.2) → awX b E m_X12_noise 44 lv [] (putM S (mT0 M)) 0 0 Q := by
          intro lv hlv
          refine ax_loc hlv ?_
          refine ax_iinc (v := _ + 1) (lv' := [(3, _), (2, _), (0, .ref (nm 13 0)), (1, _)]) dX12_noise_44 rfl rfl (by decide) rfl ?_
          refine ax_goto (tgt := 19) dX12_noise_47 (by decide) ?_
          rw [nI_1]
          exact ax_loc rfl (ih (k + 1) (by omega))
        refine ax_iload_n (i := 3) dX12_noise_19 rfl rfl ?_
        refine ax_aload_n (i := 0) dX12_noise_20 rfl rfl rfl ?_
        refine ax_mS dX12_noise_21 fl_X12_362 rfl ?_
        refine ax_icmp_ge (tgt := 50) dX12_noise_24 (by decide) (fun c_24 => ?_) (fun c_24 => ?_)
        · exact absurd (ge_of_n en c_24 (by omega)) (by omega)
        · have hk2 : k < mN M 63 := lt_of_n en c_24 (by omega)
          refine ax_iload_n (i := 2) dX12_noise_27 rfl rfl ?_
          refine ax_aload_n (i := 0) dX12_noise_28 rfl rfl rfl ?_
          refine ax_iload_n (i := 3) dX12_noise_29 rfl rfl ?_
          refine ax_iload_n (i := 1) dX12_noise_30 rfl rfl ?_
          refine ax_invV (c := 13) (n := 2) (As := [_, _]) dX12_noise_31 cb_X12_wentTo cv_X12_390.1 cv_X12_390.2.1 cv_X12_390.2.2 rfl (by decide) rfl ⟨Nat.le_of_ble_eq_true rfl, Nat.le_of_ble_eq_true rfl⟩ (Nat.le_of_ble_eq_true rfl) rfl (t_wentTo hm hI.t0 (by omega) (fun c_31 => ?_) (fun c_31 => ?_))
          · refine ax_if_eq (tgt := 41) dX12_noise_34 (by decide) (fun z => absurd z (by decide)) (fun _ => ?_)
            refine ax_iconst (v := 1) dX12_noise_37 (by decide) ?_
            refine ax_goto (tgt := 42) dX12_noise_38 (by decide) ?_
            refine ax_iadd1 dX12_noise_42 ?_
            refine ax_istore_n (i := 2) (lv' := [(2, _), (3, _), (0, _), (1, _)]) dX12_noise_43 rfl (by decide) rfl ?_
            rw [show mCntP (fun l => mWent M l hd) k + 1 = mCntP (fun l => mWent M l hd) (k + 1) from by show _ = mCntP (fun l => mWent M l hd) k + iC (mWent (mT0 M) k hd) 1 0; rw [iC_t c_31]]
            exact NX _ rfl
          · refine ax_if_eq (tgt := 41) dX12_noise_34 (by decide) (fun _ => ?_) (fun z => absurd (by decide) z)
            refine ax_iconst (v := 0) dX12_noise_41 (by decide) ?_
            refine ax_iadd dX12_noise_42 ?_
            refine ax_istore_n (i := 2) (lv' := [(2, _), (3, _), (0, _), (1, _)]) dX12_noise_43 rfl (by decide) rfl ?_
            rw [show nI (mCntP (fun l => mWent M l hd) k) + 0 = nI (mCntP (fun l => mWent M l hd) (k + 1)) from by rw [show mCntP (fun l => mWent M l hd) (k + 1) = mCntP (fun l => mWent M l hd) k + 0 from by show mCntP (fun l => mWent M l hd) k + iC (mWent (mT0 M) k hd) 1 0 = _; rw [iC_f c_31]]; exact Int32.add_zero _]
            exact NX _ rfl
    refine ax_iconst (v := nI 0) dX12_noise_15 (by decide) ?_
    refine ax_istore_n (i := 2) (lv' := [(2, _), (0, _), (1, _)]) dX12_noise_16 rfl (by decide) rfl ?_
    refine ax_iconst (v := nI 0) dX12_noise_17 (by decide) ?_
    refine ax_istore_n (i := 3) (lv' := [(3, _), (2, _), (0, _), (1, _)]) dX12_noise_18 rfl (by decide) rfl ?_
    exact ax_loc rfl (L (mN M 63) 0 (by omega))
  · refine ax_if_ne (tgt := 15) dX12_noise_10 (by decide) (fun z => absurd z (by decide)) (fun _ => ?_)
    refine ax_iconst (v := -1) dX12_noise_13 (by decide) ?_
    refine ax_iret dX12_noise_14 rfl rfl ?_
    exact fin2 h (if_pos c_7)
theorem sum_0 (m : Nat) (x : Int32) (h : x = 0) : nI m + x = nI (m + 0) := by rw [h]; exact Int32.add_zero _
theorem sum_1 (m : Nat) (x : Int32) (h : x = 1) : nI m + x = nI (m + 1) := by rw [h]; exact nI_1 _
theorem sum_2 (m : Nat) (x : Int32) (h : x = nI 2) : nI m + x = nI (m + 2) := by rw [h]; exact nI_add _ _

set_option maxHeartbeats 4000000 in
set_option maxRecDepth 100000 in
theorem t_flap {b : Bool} {E : awE} {S : awS} {M : aM} {Q : Option Value → awS → Nat → Nat → Prop} (hm : mOk S) (hI : mI M) (r : Int32) (n : Int32) (h : Q (some (.int (mFlap M r n).2)) (putM S (mFlap M r n).1) 0 0) : awT b E m_X12_flap [.ref (nm 13 0), .int r, .int n] (putM S M) Q := by
  refine awT.of (by decide) (by decide) (Nat.le_of_ble_eq_true rfl) ?_
  have en : mS (mT0 M) 30 = nI (mN M 30) := mS_nI hI (k := 30) (b := 300) (by decide)
  have enb : mN M 30 ≤ 300 := mS_b hI (by decide)
  refine ax_aload_n (i := 0) dX12_flap_0 rfl rfl rfl ?_
  refine ax_iconst (v := 0) dX12_flap_1 (by decide) ?_
  refine ax_mPS dX12_flap_2 fl_X12_228 rfl rfl ?_
  refine ax_mE (M2 := mT0 M) rfl ?_
  refine ax_aload_n (i := 0) dX12_flap_5 rfl rfl rfl ?_
  refine ax_iload_n (i := 1) dX12_flap_6 rfl rfl ?_
  refine ax_invV (c := 13) (n := 1) (As := [_]) dX12_flap_7 cb_X12_isRule cv_X12_258.1 cv_X12_258.2.1 cv_X12_258.2.2 rfl (by decide) rfl ⟨Nat.le_of_ble_eq_true rfl, Nat.le_of_ble_eq_true rfl⟩ (Nat.le_of_ble_eq_true rfl) rfl (t_isRule (fun c_7 => ?_) (fun c_7 => ?_))
  · refine ax_if_eq (tgt := 25) dX12_flap_10 (by decide) (fun z => absurd z (by decide)) (fun _ => ?_)
    refine ax_iload_n (i := 2) dX12_flap_13 rfl rfl ?_
    refine ax_i2l dX12_flap_14 ?_
    refine ax_lconst (v := 1) dX12_flap_15 (by decide) ?_
    refine ax_ldc2 dX12_flap_16 kc_X12_393 ?_
    refine ax_invS (n := 3) (As := [_, _, _]) dX12_flap_19 cb_X12_isIn cs_X12_242.1 cs_X12_242.2 rfl ⟨Nat.le_of_ble_eq_true rfl, Nat.le_of_ble_eq_true rfl⟩ (Nat.le_of_ble_eq_true rfl) rfl (t_isInI (lo := (1)) (hi := (2000)) (fun c_19 => ?_) (fun c_19 => ?_))
    · refine ax_if_ne (tgt := 27) dX12_flap_22 (by decide) (fun _ => ?_) (fun z => absurd (by decide) z)
      have L : ∀ (m k : Nat), k + m = mN M 30 → awX b E m_X12_flap 32 [(4, .int (nI k)), (3, .int (nI (mSum (mFlapX M r n) k))), (0, .ref (nm 13 0)), (1, .int r), (2, .int n)] [] (putM S (mT0 M)) 0 0 Q := by
        intro m
        induction m with
        | zero =>
          intro k hm1 
          refine ax_iload dX12_flap_32 rfl ?_
          refine ax_aload_n (i := 0) dX12_flap_34 rfl rfl rfl ?_
          refine ax_mS dX12_flap_35 fl_X12_284 rfl ?_
          refine ax_icmp_ge (tgt := 114) dX12_flap_38 (by decide) (fun c_38 => ?_) (fun c_38 => ?_)
          · have hk2 : k = mN M 30 := Nat.le_antisymm (by omega) (ge_of_n en c_38 (by omega))
            subst hk2
            refine ax_iload_n (i := 3) dX12_flap_114 rfl rfl ?_
            refine ax_iret dX12_flap_115 rfl rfl ?_
            exact fin2 h (if_neg (fun z => z ⟨c_7, c_19⟩))
          · exact absurd (lt_of_n en c_38 (by omega)) (by omega)
        | succ m ih =>
          intro k hm1 
          have NX : ∀ (v : Int32) (lv : List (Nat × Value)), v = nI (mSum (mFlapX M r n) (k + 1)) → [(3, Value.int v), (4, .int (nI k)), (0, .ref (nm 13 0)), (1, .int r), (2, .int n)].map (fun q => lk lv q.1) = [(3, Value.int v), (4, .int (nI k)), (0, .ref (nm 13 0)), (1, .int r), (2, .int n)].map (fun q => some q.2) → awX b E m_X12_flap 108 lv [] (putM S (mT0 M)) 0 0 Q := by
            intro v lv hv hlv
            subst hv
            refine ax_loc hlv ?_
            refine ax_iinc (v := _ + 1) (lv' := [(4, _), (3, _), (0, .ref (nm 13 0)), (1, _), (2, _)]) dX12_flap_108 rfl rfl (by decide) rfl ?_
            refine ax_goto (tgt := 32) dX12_flap_111 (by decide) ?_
            rw [nI_1]
            exact ax_loc rfl (ih (k + 1) (by omega))
          refine ax_iload dX12_flap_32 rfl ?_
          refine ax_aload_n (i := 0) dX12_flap_34 rfl rfl rfl ?_
          refine ax_mS dX12_flap_35 fl_X12_284 rfl ?_
          refine ax_icmp_ge (tgt := 114) dX12_flap_38 (by decide) (fun c_38 => ?_) (fun c_38 => ?_)
          · exact absurd (ge_of_n en c_38 (by omega)) (by omega)
          · have hk2 : k < mN M 30 := lt_of_n en c_38 (by omega)
            refine ax_aload_n (i := 0) dX12_flap_41 rfl rfl rfl ?_
            refine ax_mR hm dX12_flap_42 fl_X12_86 rfl (by decide) ?_
            refine ax_iload dX12_flap_45 rfl ?_
            refine ax_mIN (N := 300) hm dX12_flap_47 rfl rfl (by decide) (by omega) ?_
            refine ax_iload_n (i := 1) dX12_flap_48 rfl rfl ?_
            refine ax_icmp_ne (tgt := 108) dX12_flap_49 (by decide) (fun c_49 => ?_) (fun c_49 => ?_)
            · refine NX _ _ (by
                  show _ = nI (mSum (mFlapX M r n) k + mFlapX M r n k)
                  rw [show mFlapX M r n k = 0 from if_neg c_49]
                  rfl) rfl
            · refine ax_iload_n (i := 3) dX12_flap_52 rfl rfl ?_
              refine ax_aload_n (i := 0) dX12_flap_53 rfl rfl rfl ?_
              refine ax_mR hm dX12_flap_54 fl_X12_92 rfl (by decide) ?_
              refine ax_iload dX12_flap_57 rfl ?_
              refine ax_mIN (N := 300) hm dX12_flap_59 rfl rfl (by decide) (by omega) ?_
              refine ax_aload_n (i := 0) dX12_flap_60 rfl rfl rfl ?_
              refine ax_mS dX12_flap_61 fl_X12_262 rfl ?_
              refine ax_iload_n (i := 2) dX12_flap_64 rfl rfl ?_
              refine ax_isub dX12_flap_65 ?_
              refine ax_icmp_le (tgt := 73) dX12_flap_66 (by decide) (fun c_66 => ?_) (fun c_66 => ?_)
              · refine ax_iconst (v := 0) dX12_flap_73 (by decide) ?_
                refine ax_aload_n (i := 0) dX12_flap_74 rfl rfl rfl ?_
                refine ax_mR hm dX12_flap_75 fl_X12_95 rfl (by decide) ?_
                refine ax_iload dX12_flap_78 rfl ?_
                refine ax_mIN (N := 300) hm dX12_flap_80 rfl rfl (by decide) (by omega) ?_
                refine ax_if_le (tgt := 104) dX12_flap_81 (by decide) (fun c_81 => ?_) (fun c_81 => ?_)
                · refine ax_iconst (v := 0) dX12_flap_104 (by decide) ?_
                  refine ax_iadd dX12_flap_105 ?_
                  refine ax_iadd dX12_flap_106 ?_
                  refine ax_istore_n (i := 3) (lv' := [(3, _), (4, _), (0, _), (1, _), (2, _)]) dX12_flap_107 rfl (by decide) rfl ?_
                  refine NX _ _ (by
                      show _ = nI (mSum (mFlapX M r n) k + mFlapX M r n k)
                      rw [show mFlapX M r n k = 0 from (if_pos (Classical.not_not.mp c_49)).trans (congr (congrArg (· + ·) (if_neg (fun z => Int32.not_lt.mpr c_66 z))) (if_neg (fun z => Int32.not_lt.mpr c_81 z.1)))]
                      exact sum_0 _ _ (by decide)) rfl
                · refine ax_aload_n (i := 0) dX12_flap_84 rfl rfl rfl ?_
                  refine ax_mR hm dX12_flap_85 fl_X12_95 rfl (by decide) ?_
                  refine ax_iload dX12_flap_88 rfl ?_
                  refine ax_mIN (N := 300) hm dX12_flap_90 rfl rfl (by decide) (by omega) ?_
                  refine ax_aload_n (i := 0) dX12_flap_91 rfl rfl rfl ?_
                  refine ax_mS dX12_flap_92 fl_X12_262 rfl ?_
                  refine ax_iload_n (i := 2) dX12_flap_95 rfl rfl ?_
                  refine ax_isub dX12_flap_96 ?_
                  refine ax_icmp_le (tgt := 104) dX12_flap_97 (by decide) (fun c_97 => ?_) (fun c_97 => ?_)
                  · refine ax_iconst (v := 0) dX12_flap_104 (by decide) ?_
                    refine ax_iadd dX12_flap_105 ?_
                    refine ax_iadd dX12_flap_106 ?_
                    refine ax_istore_n (i := 3) (lv' := [(3, _), (4, _), (0, _), (1, _), (2, _)]) dX12_flap_107 rfl (by decide) rfl ?_
                    refine NX _ _ (by
                        show _ = nI (mSum (mFlapX M r n) k + mFlapX M r n k)
                        rw [show mFlapX M r n k = 0 from (if_pos (Classical.not_not.mp c_49)).trans (congr (congrArg (· + ·) (if_neg (fun z => Int32.not_lt.mpr c_66 z))) (if_neg (fun z => Int32.not_lt.mpr c_97 z.2)))]
                        exact sum_0 _ _ (by decide)) rfl
                  · refine ax_iconst (v := 1) dX12_flap_100 (by decide) ?_
                    refine ax_goto (tgt := 105) dX12_flap_101 (by decide) ?_
                    refine ax_iadd dX12_flap_105 ?_
                    refine ax_iadd dX12_flap_106 ?_
                    refine ax_istore_n (i := 3) (lv' := [(3, _), (4, _), (0, _), (1, _), (2, _)]) dX12_flap_107 rfl (by decide) rfl ?_
                    refine NX _ _ (by
                        show _ = nI (mSum (mFlapX M r n) k + mFlapX M r n k)
                        rw [show mFlapX M r n k = 1 from (if_pos (Classical.not_not.mp c_49)).trans (congr (congrArg (· + ·) (if_neg (fun z => Int32.not_lt.mpr c_66 z))) (if_pos ⟨Int32.not_le.mp c_81, Int32.not_le.mp c_97⟩))]
                        exact sum_1 _ _ (by decide)) rfl
              · refine ax_iconst (v := 1) dX12_flap_69 (by decide) ?_
                refine ax_goto (tgt := 74) dX12_flap_70 (by decide) ?_
                refine ax_aload_n (i := 0) dX12_flap_74 rfl rfl rfl ?_
                refine ax_mR hm dX12_flap_75 fl_X12_95 rfl (by decide) ?_
                refine ax_iload dX12_flap_78 rfl ?_
                refine ax_mIN (N := 300) hm dX12_flap_80 rfl rfl (by decide) (by omega) ?_
                refine ax_if_le (tgt := 104) dX12_flap_81 (by decide) (fun c_81 => ?_) (fun c_81 => ?_)
                · refine ax_iconst (v := 0) dX12_flap_104 (by decide) ?_
                  refine ax_iadd dX12_flap_105 ?_
                  refine ax_iadd dX12_flap_106 ?_
                  refine ax_istore_n (i := 3) (lv' := [(3, _), (4, _), (0, _), (1, _), (2, _)]) dX12_flap_107 rfl (by decide) rfl ?_
                  refine NX _ _ (by
                      show _ = nI (mSum (mFlapX M r n) k + mFlapX M r n k)
                      rw [show mFlapX M r n k = 1 from (if_pos (Classical.not_not.mp c_49)).trans (congr (congrArg (· + ·) (if_pos (Int32.not_le.mp c_66))) (if_neg (fun z => Int32.not_lt.mpr c_81 z.1)))]
                      exact sum_1 _ _ (by decide)) rfl
                · refine ax_aload_n (i := 0) dX12_flap_84 rfl rfl rfl ?_
                  refine ax_mR hm dX12_flap_85 fl_X12_95 rfl (by decide) ?_
                  refine ax_iload dX12_flap_88 rfl ?_
                  refine ax_mIN (N := 300) hm dX12_flap_90 rfl rfl (by decide) (by omega) ?_
                  refine ax_aload_n (i := 0) dX12_flap_91 rfl rfl rfl ?_
                  refine ax_mS dX12_flap_92 fl_X12_262 rfl ?_
                  refine ax_iload_n (i := 2) dX12_flap_95 rfl rfl ?_
                  refine ax_isub dX12_flap_96 ?_
                  refine ax_icmp_le (tgt := 104) dX12_flap_97 (by decide) (fun c_97 => ?_) (fun c_97 => ?_)
                  · refine ax_iconst (v := 0) dX12_flap_104 (by decide) ?_
                    refine ax_iadd dX12_flap_105 ?_
                    refine ax_iadd dX12_flap_106 ?_
                    refine ax_istore_n (i := 3) (lv' := [(3, _), (4, _), (0, _), (1, _), (2, _)]) dX12_flap_107 rfl (by decide) rfl ?_
                    refine NX _ _ (by
                        show _ = nI (mSum (mFlapX M r n) k + mFlapX M r n k)
                        rw [show mFlapX M r n k = 1 from (if_pos (Classical.not_not.mp c_49)).trans (congr (congrArg (· + ·) (if_pos (Int32.not_le.mp c_66))) (if_neg (fun z => Int32.not_lt.mpr c_97 z.2)))]
                        exact sum_1 _ _ (by decide)) rfl
                  · refine ax_iconst (v := 1) dX12_flap_100 (by decide) ?_
                    refine ax_goto (tgt := 105) dX12_flap_101 (by decide) ?_
                    refine ax_iadd dX12_flap_105 ?_
                    refine ax_iadd dX12_flap_106 ?_
                    refine ax_istore_n (i := 3) (lv' := [(3, _), (4, _), (0, _), (1, _), (2, _)]) dX12_flap_107 rfl (by decide) rfl ?_
                    refine NX _ _ (by
                        show _ = nI (mSum (mFlapX M r n) k + mFlapX M r n k)
                        rw [show mFlapX M r n k = 2 from (if_pos (Classical.not_not.mp c_49)).trans (congr (congrArg (· + ·) (if_pos (Int32.not_le.mp c_66))) (if_pos ⟨Int32.not_le.mp c_81, Int32.not_le.mp c_97⟩))]
                        exact sum_2 _ _ (by decide)) rfl
      refine ax_iconst (v := nI 0) dX12_flap_27 (by decide) ?_
      refine ax_istore_n (i := 3) (lv' := [(3, _), (0, _), (1, _), (2, _)]) dX12_flap_28 rfl (by decide) rfl ?_
      refine ax_iconst (v := nI 0) dX12_flap_29 (by decide) ?_
      refine ax_istore (lv' := [(4, _), (3, _), (0, _), (1, _), (2, _)]) dX12_flap_30 (by decide) rfl ?_
      exact ax_loc rfl (L (mN M 30) 0 (by omega))
    · refine ax_if_ne (tgt := 27) dX12_flap_22 (by decide) (fun z => absurd z (by decide)) (fun _ => ?_)
      refine ax_iconst (v := -1) dX12_flap_25 (by decide) ?_
      refine ax_iret dX12_flap_26 rfl rfl ?_
      exact fin2 h (if_pos (fun g => c_19 g.2))
  · refine ax_if_eq (tgt := 25) dX12_flap_10 (by decide) (fun _ => ?_) (fun z => absurd (by decide) z)
    refine ax_iconst (v := -1) dX12_flap_25 (by decide) ?_
    refine ax_iret dX12_flap_26 rfl rfl ?_
    exact fin2 h (if_pos (fun g => c_7 g.1))
theorem mCntP_s {p : Nat → Prop} (k : Nat) : mCntP p (k + 1) = mCntP p k + iC (p k) 1 0 := rfl

set_option maxHeartbeats 4000000 in
set_option maxRecDepth 100000 in
theorem t_count {b : Bool} {E : awE} {S : awS} {M : aM} {Q : Option Value → awS → Nat → Nat → Prop} (hm : mOk S) (hI : mI M) (wh : Int32) (h : Q (some (.int (mCount M wh).2)) (putM S (mCount M wh).1) 0 0) : awT b E m_X12_count [.ref (nm 13 0), .int wh] (putM S M) Q := by
  refine awT.of (by decide) (by decide) (Nat.le_of_ble_eq_true rfl) ?_
  have e87 : mS (mT0 M) 30 = nI (mN M 30) := mS_nI hI (k := 30) (b := 300) (by decide)
  have e87b : mN M 30 ≤ 300 := mS_b hI (by decide)
  have e127 : mS (mT0 M) 63 = nI (mN M 63) := mS_nI hI (k := 63) (b := 200) (by decide)
  have e127b : mN M 63 ≤ 200 := mS_b hI (by decide)
  have L87 : ∀ (m k : Nat), k + m = mN M 30 → (mCount M wh).2 = nI (mCntP (fun x => mA M 34 x = 0) (mN M 30)) → awX b E m_X12_count 87 [(3, .int (nI k)), (2, .int (nI (mCntP (fun x => mA M 34 x = 0) k))), (0, .ref (nm 13 0)), (1, .int wh)] [] (putM S (mT0 M)) 0 0 Q := by
    intro m
    induction m with
    | zero =>
      intro k hm1 H87
      refine ax_iload_n (i := 3) dX12_count_87 rfl rfl ?_
      refine ax_aload_n (i := 0) dX12_count_88 rfl rfl rfl ?_
      refine ax_mS dX12_count_89 fl_X12_284 rfl ?_
      refine ax_icmp_ge (tgt := 118) dX12_count_92 (by decide) (fun c_92 => ?_) (fun c_92 => ?_)
      · have hk2 : k = mN M 30 := Nat.le_antisymm (by omega) (ge_of_n e87 c_92 (by omega))
        subst hk2
        refine ax_iload_n (i := 2) dX12_count_118 rfl rfl ?_
        refine ax_iret dX12_count_119 rfl rfl ?_
        exact fin2 h (Prod.ext rfl H87)
      · exact absurd (lt_of_n e87 c_92 (by omega)) (by omega)
    | succ m ih =>
      intro k hm1 H87
      have NX : ∀ lv : List (Nat × Value), [(2, Value.int (nI (mCntP (fun x => mA M 34 x = 0) (k + 1)))), (3, .int (nI k)), (0, .ref (nm 13 0)), (1, .int wh)].map (fun q => lk lv q.1) = [(2, Value.int (nI (mCntP (fun x => mA M 34 x = 0) (k + 1)))), (3, .int (nI k)), (0, .ref (nm 13 0)), (1, .int wh)].map (fun q => some q.2) → awX b E m_X12_count 112 lv [] (putM S (mT0 M)) 0 0 Q := by
        intro lv hlv
        refine ax_loc hlv ?_
        refine ax_iinc (v := _ + 1) (lv' := [(3, _), (2, _), (0, .ref (nm 13 0)), (1, _)]) dX12_count_112 rfl rfl (by decide) rfl ?_
        refine ax_goto (tgt := 87) dX12_count_115 (by decide) ?_
        rw [nI_1]
        exact ax_loc rfl (ih (k + 1) (by omega) H87)
      refine ax_iload_n (i := 3) dX12_count_87 rfl rfl ?_
      refine ax_aload_n (i := 0) dX12_count_88 rfl rfl rfl ?_
      refine ax_mS dX12_count_89 fl_X12_284 rfl ?_
      refine ax_icmp_ge (tgt := 118) dX12_count_92 (by decide) (fun c_92 => ?_) (fun c_92 => ?_)
      · exact absurd (ge_of_n e87 c_92 (by omega)) (by omega)
      · have hk2 : k < mN M 30 := lt_of_n e87 c_92 (by omega)
        refine ax_iload_n (i := 2) dX12_count_95 rfl rfl ?_
        refine ax_aload_n (i := 0) dX12_count_96 rfl rfl rfl ?_
        refine ax_mR hm dX12_count_97 fl_X12_95 rfl (by decide) ?_
        refine ax_iload_n (i := 3) dX12_count_100 rfl rfl ?_
        refine ax_mIN (N := 300) hm dX12_count_101 rfl rfl (by decide) (by omega) ?_
        refine ax_if_ne (tgt := 109) dX12_count_102 (by decide) (fun c_102 => ?_) (fun c_102 => ?_)
        · refine ax_iconst (v := 0) dX12_count_109 (by decide) ?_
          refine ax_iadd dX12_count_110 ?_
          refine ax_istore_n (i := 2) (lv' := [(2, _), (3, _), (0, _), (1, _)]) dX12_count_111 rfl (by decide) rfl ?_
          rw [show nI (mCntP (fun x => mA M 34 x = 0) k) + 0 = nI (mCntP (fun x => mA M 34 x = 0) (k + 1)) from by rw [mCntP_s, iC_f (show ¬ (fun x => mA M 34 x = 0) k from c_102)]; exact Int32.add_zero _]
          exact NX _ rfl
        · refine ax_iconst (v := 1) dX12_count_105 (by decide) ?_
          refine ax_goto (tgt := 110) dX12_count_106 (by decide) ?_
          refine ax_iadd1 dX12_count_110 ?_
          refine ax_istore_n (i := 2) (lv' := [(2, _), (3, _), (0, _), (1, _)]) dX12_count_111 rfl (by decide) rfl ?_
          rw [show mCntP (fun x => mA M 34 x = 0) k + 1 = mCntP (fun x => mA M 34 x = 0) (k + 1) from by rw [mCntP_s, iC_t (show (fun x => mA M 34 x = 0) k from (Classical.not_not.mp c_102))]]
          exact NX _ rfl
  have L127 : ∀ (m k : Nat), k + m = mN M 63 → (mCount M wh).2 = nI (mCntP (fun l => mA M 73 l < 0) (mN M 63)) → awX b E m_X12_count 127 [(3, .int (nI k)), (2, .int (nI (mCntP (fun l => mA M 73 l < 0) k))), (0, .ref (nm 13 0)), (1, .int wh)] [] (putM S (mT0 M)) 0 0 Q := by
    intro m
    induction m with
    | zero =>
      intro k hm1 H127
      refine ax_iload_n (i := 3) dX12_count_127 rfl rfl ?_
      refine ax_aload_n (i := 0) dX12_count_128 rfl rfl rfl ?_
      refine ax_mS dX12_count_129 fl_X12_362 rfl ?_
      refine ax_icmp_ge (tgt := 158) dX12_count_132 (by decide) (fun c_132 => ?_) (fun c_132 => ?_)
      · have hk2 : k = mN M 63 := Nat.le_antisymm (by omega) (ge_of_n e127 c_132 (by omega))
        subst hk2
        refine ax_iload_n (i := 2) dX12_count_158 rfl rfl ?_
        refine ax_iret dX12_count_159 rfl rfl ?_
        exact fin2 h (Prod.ext rfl H127)
      · exact absurd (lt_of_n e127 c_132 (by omega)) (by omega)
    | succ m ih =>
      intro k hm1 H127
      have NX : ∀ lv : List (Nat × Value), [(2, Value.int (nI (mCntP (fun l => mA M 73 l < 0) (k + 1)))), (3, .int (nI k)), (0, .ref (nm 13 0)), (1, .int wh)].map (fun q => lk lv q.1) = [(2, Value.int (nI (mCntP (fun l => mA M 73 l < 0) (k + 1)))), (3, .int (nI k)), (0, .ref (nm 13 0)), (1, .int wh)].map (fun q => some q.2) → awX b E m_X12_count 152 lv [] (putM S (mT0 M)) 0 0 Q := by
        intro lv hlv
        refine ax_loc hlv ?_
        refine ax_iinc (v := _ + 1) (lv' := [(3, _), (2, _), (0, .ref (nm 13 0)), (1, _)]) dX12_count_152 rfl rfl (by decide) rfl ?_
        refine ax_goto (tgt := 127) dX12_count_155 (by decide) ?_
        rw [nI_1]
        exact ax_loc rfl (ih (k + 1) (by omega) H127)
      refine ax_iload_n (i := 3) dX12_count_127 rfl rfl ?_
      refine ax_aload_n (i := 0) dX12_count_128 rfl rfl rfl ?_
      refine ax_mS dX12_count_129 fl_X12_362 rfl ?_
      refine ax_icmp_ge (tgt := 158) dX12_count_132 (by decide) (fun c_132 => ?_) (fun c_132 => ?_)
      · exact absurd (ge_of_n e127 c_132 (by omega)) (by omega)
      · have hk2 : k < mN M 63 := lt_of_n e127 c_132 (by omega)
        refine ax_iload_n (i := 2) dX12_count_135 rfl rfl ?_
        refine ax_aload_n (i := 0) dX12_count_136 rfl rfl rfl ?_
        refine ax_mR hm dX12_count_137 fl_X12_198 rfl (by decide) ?_
        refine ax_iload_n (i := 3) dX12_count_140 rfl rfl ?_
        refine ax_mIN (N := 200) hm dX12_count_141 rfl rfl (by decide) (by omega) ?_
        refine ax_if_ge (tgt := 149) dX12_count_142 (by decide) (fun c_142 => ?_) (fun c_142 => ?_)
        · refine ax_iconst (v := 0) dX12_count_149 (by decide) ?_
          refine ax_iadd dX12_count_150 ?_
          refine ax_istore_n (i := 2) (lv' := [(2, _), (3, _), (0, _), (1, _)]) dX12_count_151 rfl (by decide) rfl ?_
          rw [show nI (mCntP (fun l => mA M 73 l < 0) k) + 0 = nI (mCntP (fun l => mA M 73 l < 0) (k + 1)) from by rw [mCntP_s, iC_f (show ¬ (fun l => mA M 73 l < 0) k from (fun z => Int32.not_lt.mpr c_142 z))]; exact Int32.add_zero _]
          exact NX _ rfl
        · refine ax_iconst (v := 1) dX12_count_145 (by decide) ?_
          refine ax_goto (tgt := 150) dX12_count_146 (by decide) ?_
          refine ax_iadd1 dX12_count_150 ?_
          refine ax_istore_n (i := 2) (lv' := [(2, _), (3, _), (0, _), (1, _)]) dX12_count_151 rfl (by decide) rfl ?_
          rw [show mCntP (fun l => mA M 73 l < 0) k + 1 = mCntP (fun l => mA M 73 l < 0) (k + 1) from by rw [mCntP_s, iC_t (show (fun l => mA M 73 l < 0) k from (Int32.not_le.mp c_142))]]
          exact NX _ rfl
  refine ax_aload_n (i := 0) dX12_count_0 rfl rfl rfl ?_
  refine ax_iconst (v := 0) dX12_count_1 (by decide) ?_
  refine ax_mPS dX12_count_2 fl_X12_228 rfl rfl ?_
  refine ax_mE (M2 := mT0 M) rfl ?_
  refine ax_iconst (v := nI 0) dX12_count_5 (by decide) ?_
  refine ax_istore_n (i := 2) (lv' := [(2, _), (0, _), (1, _)]) dX12_count_6 rfl (by decide) rfl ?_
  refine ax_iload_n (i := 1) dX12_count_7 rfl rfl ?_
  rcases (by omega : wh.toInt < 0 ∨ 0 ≤ wh.toInt) with c_8 | c_8
  · refine ax_tableOut (tgt := 165) dX12_count_8 (Or.inl c_8) (by decide) ?_
    refine ax_iconst (v := -1) dX12_count_165 (by decide) ?_
    refine ax_iret dX12_count_166 rfl rfl ?_
    exact fin2 h (Prod.ext rfl ((if_neg (fun z => by rw [z] at c_8; exact absurd c_8 (by decide))).trans ((if_neg (fun z => by rw [z] at c_8; exact absurd c_8 (by decide))).trans ((if_neg (fun z => by rw [z] at c_8; exact absurd c_8 (by decide))).trans ((if_neg (fun z => by rw [z] at c_8; exact absurd c_8 (by decide))).trans ((if_neg (fun z => by rw [z] at c_8; exact absurd c_8 (by decide))).trans ((if_neg (fun z => by rw [z] at c_8; exact absurd c_8 (by decide))).trans ((if_neg (fun z => by rw [z] at c_8; exact absurd c_8 (by decide))).trans ((if_neg (fun z => by rw [z] at c_8; exact absurd c_8 (by decide))).trans (if_neg (fun z => by rw [z] at c_8; exact absurd c_8 (by decide))))))))))))
  rcases (by omega : 8 < wh.toInt ∨ wh.toInt ≤ 8) with c2_8 | c2_8
  · refine ax_tableOut (tgt := 165) dX12_count_8 (Or.inr c2_8) (by decide) ?_
    refine ax_iconst (v := -1) dX12_count_165 (by decide) ?_
    refine ax_iret dX12_count_166 rfl rfl ?_
    exact fin2 h (Prod.ext rfl ((if_neg (fun z => by rw [z] at c2_8; exact absurd c2_8 (by decide))).trans ((if_neg (fun z => by rw [z] at c2_8; exact absurd c2_8 (by decide))).trans ((if_neg (fun z => by rw [z] at c2_8; exact absurd c2_8 (by decide))).trans ((if_neg (fun z => by rw [z] at c2_8; exact absurd c2_8 (by decide))).trans ((if_neg (fun z => by rw [z] at c2_8; exact absurd c2_8 (by decide))).trans ((if_neg (fun z => by rw [z] at c2_8; exact absurd c2_8 (by decide))).trans ((if_neg (fun z => by rw [z] at c2_8; exact absurd c2_8 (by decide))).trans ((if_neg (fun z => by rw [z] at c2_8; exact absurd c2_8 (by decide))).trans (if_neg (fun z => by rw [z] at c2_8; exact absurd c2_8 (by decide))))))))))))
  have c3_8 : wh = 0 ∨ wh = 1 ∨ wh = 2 ∨ wh = 3 ∨ wh = 4 ∨ wh = 5 ∨ wh = 6 ∨ wh = 7 ∨ wh = 8 := by have h1 := c_8; have h2 := c2_8; exact sw_9 h1 h2
  rcases c3_8 with c4_8 | c4_8 | c4_8 | c4_8 | c4_8 | c4_8 | c4_8 | c4_8 | c4_8
  · refine ax_tableIn (tgt := 60) (off := 52) dX12_count_8 (by rw [c4_8]; decide) (by rw [c4_8]; decide) (by rw [c4_8]; decide) (by decide) ?_
    refine ax_aload_n (i := 0) dX12_count_60 rfl rfl rfl ?_
    refine ax_mS dX12_count_61 fl_X12_231 rfl ?_
    refine ax_iret dX12_count_64 rfl rfl ?_
    exact fin2 h (Prod.ext rfl (if_pos c4_8))
  · refine ax_tableIn (tgt := 65) (off := 57) dX12_count_8 (by rw [c4_8]; decide) (by rw [c4_8]; decide) (by rw [c4_8]; decide) (by decide) ?_
    refine ax_aload_n (i := 0) dX12_count_65 rfl rfl rfl ?_
    refine ax_mS dX12_count_66 fl_X12_234 rfl ?_
    refine ax_iret dX12_count_69 rfl rfl ?_
    exact fin2 h (Prod.ext rfl ((if_neg (by rw [c4_8]; decide)).trans (if_pos c4_8)))
  · refine ax_tableIn (tgt := 70) (off := 62) dX12_count_8 (by rw [c4_8]; decide) (by rw [c4_8]; decide) (by rw [c4_8]; decide) (by decide) ?_
    refine ax_aload_n (i := 0) dX12_count_70 rfl rfl rfl ?_
    refine ax_mS dX12_count_71 fl_X12_237 rfl ?_
    refine ax_iret dX12_count_74 rfl rfl ?_
    exact fin2 h (Prod.ext rfl ((if_neg (by rw [c4_8]; decide)).trans ((if_neg (by rw [c4_8]; decide)).trans (if_pos c4_8))))
  · refine ax_tableIn (tgt := 75) (off := 67) dX12_count_8 (by rw [c4_8]; decide) (by rw [c4_8]; decide) (by rw [c4_8]; decide) (by decide) ?_
    refine ax_aload_n (i := 0) dX12_count_75 rfl rfl rfl ?_
    refine ax_mS dX12_count_76 fl_X12_262 rfl ?_
    refine ax_iret dX12_count_79 rfl rfl ?_
    exact fin2 h (Prod.ext rfl ((if_neg (by rw [c4_8]; decide)).trans ((if_neg (by rw [c4_8]; decide)).trans ((if_neg (by rw [c4_8]; decide)).trans (if_pos c4_8)))))
  · refine ax_tableIn (tgt := 80) (off := 72) dX12_count_8 (by rw [c4_8]; decide) (by rw [c4_8]; decide) (by rw [c4_8]; decide) (by decide) ?_
    refine ax_aload_n (i := 0) dX12_count_80 rfl rfl rfl ?_
    refine ax_mS dX12_count_81 fl_X12_284 rfl ?_
    refine ax_iret dX12_count_84 rfl rfl ?_
    exact fin2 h (Prod.ext rfl ((if_neg (by rw [c4_8]; decide)).trans ((if_neg (by rw [c4_8]; decide)).trans ((if_neg (by rw [c4_8]; decide)).trans ((if_neg (by rw [c4_8]; decide)).trans (if_pos c4_8))))))
  · refine ax_tableIn (tgt := 85) (off := 77) dX12_count_8 (by rw [c4_8]; decide) (by rw [c4_8]; decide) (by rw [c4_8]; decide) (by decide) ?_
    refine ax_iconst (v := nI 0) dX12_count_85 (by decide) ?_
    refine ax_istore_n (i := 3) (lv' := [(3, _), (2, _), (0, _), (1, _)]) dX12_count_86 rfl (by decide) rfl ?_
    exact ax_loc rfl (L87 (mN M 30) 0 (by omega) ((if_neg (by rw [c4_8]; decide)).trans ((if_neg (by rw [c4_8]; decide)).trans ((if_neg (by rw [c4_8]; decide)).trans ((if_neg (by rw [c4_8]; decide)).trans ((if_neg (by rw [c4_8]; decide)).trans (if_pos c4_8)))))))
  · refine ax_tableIn (tgt := 120) (off := 112) dX12_count_8 (by rw [c4_8]; decide) (by rw [c4_8]; decide) (by rw [c4_8]; decide) (by decide) ?_
    refine ax_aload_n (i := 0) dX12_count_120 rfl rfl rfl ?_
    refine ax_mS dX12_count_121 fl_X12_362 rfl ?_
    refine ax_iret dX12_count_124 rfl rfl ?_
    exact fin2 h (Prod.ext rfl ((if_neg (by rw [c4_8]; decide)).trans ((if_neg (by rw [c4_8]; decide)).trans ((if_neg (by rw [c4_8]; decide)).trans ((if_neg (by rw [c4_8]; decide)).trans ((if_neg (by rw [c4_8]; decide)).trans ((if_neg (by rw [c4_8]; decide)).trans (if_pos c4_8))))))))
  · refine ax_tableIn (tgt := 125) (off := 117) dX12_count_8 (by rw [c4_8]; decide) (by rw [c4_8]; decide) (by rw [c4_8]; decide) (by decide) ?_
    refine ax_iconst (v := nI 0) dX12_count_125 (by decide) ?_
    refine ax_istore_n (i := 3) (lv' := [(3, _), (2, _), (0, _), (1, _)]) dX12_count_126 rfl (by decide) rfl ?_
    exact ax_loc rfl (L127 (mN M 63) 0 (by omega) ((if_neg (by rw [c4_8]; decide)).trans ((if_neg (by rw [c4_8]; decide)).trans ((if_neg (by rw [c4_8]; decide)).trans ((if_neg (by rw [c4_8]; decide)).trans ((if_neg (by rw [c4_8]; decide)).trans ((if_neg (by rw [c4_8]; decide)).trans ((if_neg (by rw [c4_8]; decide)).trans (if_pos c4_8)))))))))
  · refine ax_tableIn (tgt := 160) (off := 152) dX12_count_8 (by rw [c4_8]; decide) (by rw [c4_8]; decide) (by rw [c4_8]; decide) (by decide) ?_
    refine ax_aload_n (i := 0) dX12_count_160 rfl rfl rfl ?_
    refine ax_mS dX12_count_161 fl_X12_333 rfl ?_
    refine ax_iret dX12_count_164 rfl rfl ?_
    exact fin2 h (Prod.ext rfl ((if_neg (by rw [c4_8]; decide)).trans ((if_neg (by rw [c4_8]; decide)).trans ((if_neg (by rw [c4_8]; decide)).trans ((if_neg (by rw [c4_8]; decide)).trans ((if_neg (by rw [c4_8]; decide)).trans ((if_neg (by rw [c4_8]; decide)).trans ((if_neg (by rw [c4_8]; decide)).trans ((if_neg (by rw [c4_8]; decide)).trans (if_pos c4_8))))))))))
