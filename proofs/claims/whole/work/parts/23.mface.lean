set_option maxHeartbeats 4000000 in
set_option maxRecDepth 100000 in
theorem t_source {b : Bool} {E : awE} {S : awS} {M : aM} {Q : Option Value → awS → Nat → Nat → Prop} (hm : mOk S) (hr : rgS M 2 16) (w : Int32) (h : Q (some (.int (mSource M w).2)) (putM S (mSource M w).1) 0 0) : awT b E m_X12_source [.ref (nm 13 0), .int w] (putM S M) Q := by
  refine awT.of (by decide) (by decide) (Nat.le_of_ble_eq_true rfl) ?_
  refine ax_aload_n (i := 0) dX12_source_0 rfl rfl rfl ?_
  refine ax_iconst (v := 0) dX12_source_1 (by decide) ?_
  refine ax_mPS dX12_source_2 fl_X12_228 rfl rfl ?_
  refine ax_iload_n (i := 1) dX12_source_5 rfl rfl ?_
  refine ax_i2l dX12_source_6 ?_
  refine ax_lconst (v := 0) dX12_source_7 (by decide) ?_
  refine ax_ldc2 dX12_source_8 kc_X12_240 ?_
  refine ax_invS (n := 3) (As := [_, _, _]) dX12_source_11 cb_X12_isIn cs_X12_242.1 cs_X12_242.2 rfl ⟨Nat.le_of_ble_eq_true rfl, Nat.le_of_ble_eq_true rfl⟩ (Nat.le_of_ble_eq_true rfl) rfl (t_isInI (lo := (0)) (hi := (9)) (fun c_11 => ?_) (fun c_11 => ?_))
  · refine ax_if_ne (tgt := 19) dX12_source_14 (by decide) (fun _ => ?_) (fun z => absurd (by decide) z)
    refine ax_aload_n (i := 0) dX12_source_19 rfl rfl rfl ?_
    refine ax_mS dX12_source_20 fl_X12_231 rfl ?_
    refine ax_bipush (v := 16) dX12_source_23 (by decide) ?_
    refine ax_icmp_ne (tgt := 31) dX12_source_25 (by decide) (fun c_25 => ?_) (fun c_25 => ?_)
    · refine ax_aload_n (i := 0) dX12_source_31 rfl rfl rfl ?_
      refine ax_mR hm dX12_source_32 fl_X12_7 rfl (by decide) ?_
      refine ax_aload_n (i := 0) dX12_source_35 rfl rfl rfl ?_
      refine ax_mS dX12_source_36 fl_X12_231 rfl ?_
      refine ax_iload_n (i := 1) dX12_source_39 rfl rfl ?_
      refine ax_mPI hm dX12_source_40 rfl (by decide) (vin_s hr c_25 rfl (by decide) (by decide)) ?_
      refine ax_aload_n (i := 0) dX12_source_41 rfl rfl rfl ?_
      refine ax_dup dX12_source_42 rfl ?_
      refine ax_mS dX12_source_43 fl_X12_231 rfl ?_
      refine ax_iconst (v := 1) dX12_source_46 (by decide) ?_
      refine ax_iadd dX12_source_47 ?_
      refine ax_mPS dX12_source_48 fl_X12_231 rfl rfl ?_
      refine ax_aload_n (i := 0) dX12_source_51 rfl rfl rfl ?_
      refine ax_mS dX12_source_52 fl_X12_231 rfl ?_
      refine ax_iconst (v := 1) dX12_source_55 (by decide) ?_
      refine ax_isub dX12_source_56 ?_
      refine ax_iret dX12_source_57 rfl rfl ?_
      exact fin2 h (by unfold mSource; grind [mT0, mN, mE, nN, = mS_pS, = mS_pA, = mS_pL, = mA_pS, = mA_pA, = mA_pL, = mL_pS, = mL_pA, = mL_pL])
    · refine ax_bipush (v := -2) dX12_source_28 (by decide) ?_
      refine ax_iret dX12_source_30 rfl rfl ?_
      exact fin2 h (by unfold mSource; grind [mT0, mN, mE, nN, = mS_pS, = mS_pA, = mS_pL, = mA_pS, = mA_pA, = mA_pL, = mL_pS, = mL_pA, = mL_pL])
  · refine ax_if_ne (tgt := 19) dX12_source_14 (by decide) (fun z => absurd z (by decide)) (fun _ => ?_)
    refine ax_iconst (v := -1) dX12_source_17 (by decide) ?_
    refine ax_iret dX12_source_18 rfl rfl ?_
    exact fin2 h (by unfold mSource; grind [mT0, mN, mE, nN, = mS_pS, = mS_pA, = mS_pL, = mA_pS, = mA_pA, = mA_pL, = mL_pS, = mL_pA, = mL_pL])
set_option maxHeartbeats 4000000 in
set_option maxRecDepth 100000 in
theorem t_silence {b : Bool} {E : awE} {S : awS} {M : aM} {Q : Option Value → awS → Nat → Nat → Prop} (hm : mOk S) (hr : rgS M 25 20) (w : Int32) (r : Int32) (fr : Int32) (to : Int32) (hd : Int32) (h : Q (some (.int (mSilence M w r fr to hd).2)) (putM S (mSilence M w r fr to hd).1) 0 0) : awT b E m_X12_silence [.ref (nm 13 0), .int w, .int r, .int fr, .int to, .int hd] (putM S M) Q := by
  refine awT.of (by decide) (by decide) (Nat.le_of_ble_eq_true rfl) ?_
  refine ax_aload_n (i := 0) dX12_silence_0 rfl rfl rfl ?_
  refine ax_iconst (v := 0) dX12_silence_1 (by decide) ?_
  refine ax_mPS dX12_silence_2 fl_X12_228 rfl rfl ?_
  refine ax_iload_n (i := 1) dX12_silence_5 rfl rfl ?_
  refine ax_i2l dX12_silence_6 ?_
  refine ax_ldc2 dX12_silence_7 kc_X12_254 ?_
  refine ax_ldc2 dX12_silence_10 kc_X12_240 ?_
  refine ax_invS (n := 3) (As := [_, _, _]) dX12_silence_13 cb_X12_isIn cs_X12_242.1 cs_X12_242.2 rfl ⟨Nat.le_of_ble_eq_true rfl, Nat.le_of_ble_eq_true rfl⟩ (Nat.le_of_ble_eq_true rfl) rfl (t_isInI (lo := (-1)) (hi := (9)) (fun c_13 => ?_) (fun c_13 => ?_))
  · refine ax_if_eq (tgt := 71) dX12_silence_16 (by decide) (fun z => absurd z (by decide)) (fun _ => ?_)
    refine ax_iload_n (i := 2) dX12_silence_19 rfl rfl ?_
    refine ax_iconst (v := -1) dX12_silence_20 (by decide) ?_
    refine ax_icmp_eq (tgt := 32) dX12_silence_21 (by decide) (fun c_21 => ?_) (fun c_21 => ?_)
    · refine ax_iload_n (i := 3) dX12_silence_32 rfl rfl ?_
      refine ax_i2l dX12_silence_33 ?_
      refine ax_lconst (v := 1) dX12_silence_34 (by decide) ?_
      refine ax_ldc2 dX12_silence_35 kc_X12_274 ?_
      refine ax_invS (n := 3) (As := [_, _, _]) dX12_silence_38 cb_X12_isIn cs_X12_242.1 cs_X12_242.2 rfl ⟨Nat.le_of_ble_eq_true rfl, Nat.le_of_ble_eq_true rfl⟩ (Nat.le_of_ble_eq_true rfl) rfl (t_isInI (lo := (1)) (hi := (1000)) (fun c_38 => ?_) (fun c_38 => ?_))
      · refine ax_if_eq (tgt := 71) dX12_silence_41 (by decide) (fun z => absurd z (by decide)) (fun _ => ?_)
        refine ax_iload dX12_silence_44 rfl ?_
        refine ax_i2l dX12_silence_46 ?_
        refine ax_iload_n (i := 3) dX12_silence_47 rfl rfl ?_
        refine ax_i2l dX12_silence_48 ?_
        refine ax_ldc2 dX12_silence_49 kc_X12_274 ?_
        refine ax_invS (n := 3) (As := [_, _, _]) dX12_silence_52 cb_X12_isIn cs_X12_242.1 cs_X12_242.2 rfl ⟨Nat.le_of_ble_eq_true rfl, Nat.le_of_ble_eq_true rfl⟩ (Nat.le_of_ble_eq_true rfl) rfl (t_isInI (lo := _) (hi := (1000)) (fun c_52 => ?_) (fun c_52 => ?_))
        · refine ax_if_eq (tgt := 71) dX12_silence_55 (by decide) (fun z => absurd z (by decide)) (fun _ => ?_)
          refine ax_aload_n (i := 0) dX12_silence_58 rfl rfl rfl ?_
          refine ax_iload dX12_silence_59 rfl ?_
          refine ax_invV (c := 13) (n := 1) (As := [_]) dX12_silence_61 cb_X12_isHand cv_X12_276.1 cv_X12_276.2.1 cv_X12_276.2.2 rfl (by decide) rfl ⟨Nat.le_of_ble_eq_true rfl, Nat.le_of_ble_eq_true rfl⟩ (Nat.le_of_ble_eq_true rfl) rfl (t_isHand (fun c_61 => ?_) (fun c_61 => ?_))
          · refine ax_if_eq (tgt := 71) dX12_silence_64 (by decide) (fun z => absurd z (by decide)) (fun _ => ?_)
            refine ax_iconst (v := 1) dX12_silence_67 (by decide) ?_
            refine ax_goto (tgt := 72) dX12_silence_68 (by decide) ?_
            refine ax_istore (lv' := [(6, _), (0, _), (1, _), (2, _), (3, _), (4, _), (5, _)]) dX12_silence_72 (by decide) rfl ?_
            refine ax_iload dX12_silence_74 rfl ?_
            refine ax_if_ne (tgt := 81) dX12_silence_76 (by decide) (fun _ => ?_) (fun z => absurd (by decide) z)
            refine ax_aload_n (i := 0) dX12_silence_81 rfl rfl rfl ?_
            refine ax_mS dX12_silence_82 fl_X12_279 rfl ?_
            refine ax_bipush (v := 20) dX12_silence_85 (by decide) ?_
            refine ax_icmp_ne (tgt := 93) dX12_silence_87 (by decide) (fun c_87 => ?_) (fun c_87 => ?_)
            · refine ax_aload_n (i := 0) dX12_silence_93 rfl rfl rfl ?_
              refine ax_mR hm dX12_silence_94 fl_X12_74 rfl (by decide) ?_
              refine ax_aload_n (i := 0) dX12_silence_97 rfl rfl rfl ?_
              refine ax_mS dX12_silence_98 fl_X12_279 rfl ?_
              refine ax_iload_n (i := 1) dX12_silence_101 rfl rfl ?_
              refine ax_mPI hm dX12_silence_102 rfl (by decide) (vin_s hr c_87 rfl (by decide) (by decide)) ?_
              refine ax_aload_n (i := 0) dX12_silence_103 rfl rfl rfl ?_
              refine ax_mR hm dX12_silence_104 fl_X12_77 rfl (by decide) ?_
              refine ax_aload_n (i := 0) dX12_silence_107 rfl rfl rfl ?_
              refine ax_mS dX12_silence_108 fl_X12_279 rfl ?_
              refine ax_iload_n (i := 2) dX12_silence_111 rfl rfl ?_
              refine ax_mPI hm dX12_silence_112 rfl (by decide) (vin_s hr c_87 rfl (by decide) (by decide)) ?_
              refine ax_aload_n (i := 0) dX12_silence_113 rfl rfl rfl ?_
              refine ax_mR hm dX12_silence_114 fl_X12_80 rfl (by decide) ?_
              refine ax_aload_n (i := 0) dX12_silence_117 rfl rfl rfl ?_
              refine ax_mS dX12_silence_118 fl_X12_279 rfl ?_
              refine ax_iload_n (i := 3) dX12_silence_121 rfl rfl ?_
              refine ax_mPI hm dX12_silence_122 rfl (by decide) (vin_s hr c_87 rfl (by decide) (by decide)) ?_
              refine ax_aload_n (i := 0) dX12_silence_123 rfl rfl rfl ?_
              refine ax_mR hm dX12_silence_124 fl_X12_83 rfl (by decide) ?_
              refine ax_aload_n (i := 0) dX12_silence_127 rfl rfl rfl ?_
              refine ax_mS dX12_silence_128 fl_X12_279 rfl ?_
              refine ax_iload dX12_silence_131 rfl ?_
              refine ax_mPI hm dX12_silence_133 rfl (by decide) (vin_s hr c_87 rfl (by decide) (by decide)) ?_
              refine ax_aload_n (i := 0) dX12_silence_134 rfl rfl rfl ?_
              refine ax_dup dX12_silence_135 rfl ?_
              refine ax_mS dX12_silence_136 fl_X12_279 rfl ?_
              refine ax_iconst (v := 1) dX12_silence_139 (by decide) ?_
              refine ax_iadd dX12_silence_140 ?_
              refine ax_mPS dX12_silence_141 fl_X12_279 rfl rfl ?_
              refine ax_aload_n (i := 0) dX12_silence_144 rfl rfl rfl ?_
              refine ax_mS dX12_silence_145 fl_X12_279 rfl ?_
              refine ax_iconst (v := 1) dX12_silence_148 (by decide) ?_
              refine ax_isub dX12_silence_149 ?_
              refine ax_iret dX12_silence_150 rfl rfl ?_
              exact fin2 h (by unfold mSilence; grind [mT0, mN, mE, nN, = mS_pS, = mS_pA, = mS_pL, = mA_pS, = mA_pA, = mA_pL, = mL_pS, = mL_pA, = mL_pL])
            · refine ax_bipush (v := -2) dX12_silence_90 (by decide) ?_
              refine ax_iret dX12_silence_92 rfl rfl ?_
              exact fin2 h (by unfold mSilence; grind [mT0, mN, mE, nN, = mS_pS, = mS_pA, = mS_pL, = mA_pS, = mA_pA, = mA_pL, = mL_pS, = mL_pA, = mL_pL])
          · refine ax_if_eq (tgt := 71) dX12_silence_64 (by decide) (fun _ => ?_) (fun z => absurd (by decide) z)
            refine ax_iconst (v := 0) dX12_silence_71 (by decide) ?_
            refine ax_istore (lv' := [(6, _), (0, _), (1, _), (2, _), (3, _), (4, _), (5, _)]) dX12_silence_72 (by decide) rfl ?_
            refine ax_iload dX12_silence_74 rfl ?_
            refine ax_if_ne (tgt := 81) dX12_silence_76 (by decide) (fun z => absurd z (by decide)) (fun _ => ?_)
            refine ax_iconst (v := -1) dX12_silence_79 (by decide) ?_
            refine ax_iret dX12_silence_80 rfl rfl ?_
            exact fin2 h (by unfold mSilence; grind [mT0, mN, mE, nN, = mS_pS, = mS_pA, = mS_pL, = mA_pS, = mA_pA, = mA_pL, = mL_pS, = mL_pA, = mL_pL])
        · refine ax_if_eq (tgt := 71) dX12_silence_55 (by decide) (fun _ => ?_) (fun z => absurd (by decide) z)
          refine ax_iconst (v := 0) dX12_silence_71 (by decide) ?_
          refine ax_istore (lv' := [(6, _), (0, _), (1, _), (2, _), (3, _), (4, _), (5, _)]) dX12_silence_72 (by decide) rfl ?_
          refine ax_iload dX12_silence_74 rfl ?_
          refine ax_if_ne (tgt := 81) dX12_silence_76 (by decide) (fun z => absurd z (by decide)) (fun _ => ?_)
          refine ax_iconst (v := -1) dX12_silence_79 (by decide) ?_
          refine ax_iret dX12_silence_80 rfl rfl ?_
          exact fin2 h (by unfold mSilence; grind [mT0, mN, mE, nN, = mS_pS, = mS_pA, = mS_pL, = mA_pS, = mA_pA, = mA_pL, = mL_pS, = mL_pA, = mL_pL])
      · refine ax_if_eq (tgt := 71) dX12_silence_41 (by decide) (fun _ => ?_) (fun z => absurd (by decide) z)
        refine ax_iconst (v := 0) dX12_silence_71 (by decide) ?_
        refine ax_istore (lv' := [(6, _), (0, _), (1, _), (2, _), (3, _), (4, _), (5, _)]) dX12_silence_72 (by decide) rfl ?_
        refine ax_iload dX12_silence_74 rfl ?_
        refine ax_if_ne (tgt := 81) dX12_silence_76 (by decide) (fun z => absurd z (by decide)) (fun _ => ?_)
        refine ax_iconst (v := -1) dX12_silence_79 (by decide) ?_
        refine ax_iret dX12_silence_80 rfl rfl ?_
        exact fin2 h (by unfold mSilence; grind [mT0, mN, mE, nN, = mS_pS, = mS_pA, = mS_pL, = mA_pS, = mA_pA, = mA_pL, = mL_pS, = mL_pA, = mL_pL])
    · refine ax_aload_n (i := 0) dX12_silence_24 rfl rfl rfl ?_
      refine ax_iload_n (i := 2) dX12_silence_25 rfl rfl ?_
      refine ax_invV (c := 13) (n := 1) (As := [_]) dX12_silence_26 cb_X12_isRule cv_X12_258.1 cv_X12_258.2.1 cv_X12_258.2.2 rfl (by decide) rfl ⟨Nat.le_of_ble_eq_true rfl, Nat.le_of_ble_eq_true rfl⟩ (Nat.le_of_ble_eq_true rfl) rfl (t_isRule (fun c_26 => ?_) (fun c_26 => ?_))
      · refine ax_if_eq (tgt := 71) dX12_silence_29 (by decide) (fun z => absurd z (by decide)) (fun _ => ?_)
        refine ax_iload_n (i := 3) dX12_silence_32 rfl rfl ?_
        refine ax_i2l dX12_silence_33 ?_
        refine ax_lconst (v := 1) dX12_silence_34 (by decide) ?_
        refine ax_ldc2 dX12_silence_35 kc_X12_274 ?_
        refine ax_invS (n := 3) (As := [_, _, _]) dX12_silence_38 cb_X12_isIn cs_X12_242.1 cs_X12_242.2 rfl ⟨Nat.le_of_ble_eq_true rfl, Nat.le_of_ble_eq_true rfl⟩ (Nat.le_of_ble_eq_true rfl) rfl (t_isInI (lo := (1)) (hi := (1000)) (fun c_38 => ?_) (fun c_38 => ?_))
        · refine ax_if_eq (tgt := 71) dX12_silence_41 (by decide) (fun z => absurd z (by decide)) (fun _ => ?_)
          refine ax_iload dX12_silence_44 rfl ?_
          refine ax_i2l dX12_silence_46 ?_
          refine ax_iload_n (i := 3) dX12_silence_47 rfl rfl ?_
          refine ax_i2l dX12_silence_48 ?_
          refine ax_ldc2 dX12_silence_49 kc_X12_274 ?_
          refine ax_invS (n := 3) (As := [_, _, _]) dX12_silence_52 cb_X12_isIn cs_X12_242.1 cs_X12_242.2 rfl ⟨Nat.le_of_ble_eq_true rfl, Nat.le_of_ble_eq_true rfl⟩ (Nat.le_of_ble_eq_true rfl) rfl (t_isInI (lo := _) (hi := (1000)) (fun c_52 => ?_) (fun c_52 => ?_))
          · refine ax_if_eq (tgt := 71) dX12_silence_55 (by decide) (fun z => absurd z (by decide)) (fun _ => ?_)
            refine ax_aload_n (i := 0) dX12_silence_58 rfl rfl rfl ?_
            refine ax_iload dX12_silence_59 rfl ?_
            refine ax_invV (c := 13) (n := 1) (As := [_]) dX12_silence_61 cb_X12_isHand cv_X12_276.1 cv_X12_276.2.1 cv_X12_276.2.2 rfl (by decide) rfl ⟨Nat.le_of_ble_eq_true rfl, Nat.le_of_ble_eq_true rfl⟩ (Nat.le_of_ble_eq_true rfl) rfl (t_isHand (fun c_61 => ?_) (fun c_61 => ?_))
            · refine ax_if_eq (tgt := 71) dX12_silence_64 (by decide) (fun z => absurd z (by decide)) (fun _ => ?_)
              refine ax_iconst (v := 1) dX12_silence_67 (by decide) ?_
              refine ax_goto (tgt := 72) dX12_silence_68 (by decide) ?_
              refine ax_istore (lv' := [(6, _), (0, _), (1, _), (2, _), (3, _), (4, _), (5, _)]) dX12_silence_72 (by decide) rfl ?_
              refine ax_iload dX12_silence_74 rfl ?_
              refine ax_if_ne (tgt := 81) dX12_silence_76 (by decide) (fun _ => ?_) (fun z => absurd (by decide) z)
              refine ax_aload_n (i := 0) dX12_silence_81 rfl rfl rfl ?_
              refine ax_mS dX12_silence_82 fl_X12_279 rfl ?_
              refine ax_bipush (v := 20) dX12_silence_85 (by decide) ?_
              refine ax_icmp_ne (tgt := 93) dX12_silence_87 (by decide) (fun c_87 => ?_) (fun c_87 => ?_)
              · refine ax_aload_n (i := 0) dX12_silence_93 rfl rfl rfl ?_
                refine ax_mR hm dX12_silence_94 fl_X12_74 rfl (by decide) ?_
                refine ax_aload_n (i := 0) dX12_silence_97 rfl rfl rfl ?_
                refine ax_mS dX12_silence_98 fl_X12_279 rfl ?_
                refine ax_iload_n (i := 1) dX12_silence_101 rfl rfl ?_
                refine ax_mPI hm dX12_silence_102 rfl (by decide) (vin_s hr c_87 rfl (by decide) (by decide)) ?_
                refine ax_aload_n (i := 0) dX12_silence_103 rfl rfl rfl ?_
                refine ax_mR hm dX12_silence_104 fl_X12_77 rfl (by decide) ?_
                refine ax_aload_n (i := 0) dX12_silence_107 rfl rfl rfl ?_
                refine ax_mS dX12_silence_108 fl_X12_279 rfl ?_
                refine ax_iload_n (i := 2) dX12_silence_111 rfl rfl ?_
                refine ax_mPI hm dX12_silence_112 rfl (by decide) (vin_s hr c_87 rfl (by decide) (by decide)) ?_
                refine ax_aload_n (i := 0) dX12_silence_113 rfl rfl rfl ?_
                refine ax_mR hm dX12_silence_114 fl_X12_80 rfl (by decide) ?_
                refine ax_aload_n (i := 0) dX12_silence_117 rfl rfl rfl ?_
                refine ax_mS dX12_silence_118 fl_X12_279 rfl ?_
                refine ax_iload_n (i := 3) dX12_silence_121 rfl rfl ?_
                refine ax_mPI hm dX12_silence_122 rfl (by decide) (vin_s hr c_87 rfl (by decide) (by decide)) ?_
                refine ax_aload_n (i := 0) dX12_silence_123 rfl rfl rfl ?_
                refine ax_mR hm dX12_silence_124 fl_X12_83 rfl (by decide) ?_
                refine ax_aload_n (i := 0) dX12_silence_127 rfl rfl rfl ?_
                refine ax_mS dX12_silence_128 fl_X12_279 rfl ?_
                refine ax_iload dX12_silence_131 rfl ?_
                refine ax_mPI hm dX12_silence_133 rfl (by decide) (vin_s hr c_87 rfl (by decide) (by decide)) ?_
                refine ax_aload_n (i := 0) dX12_silence_134 rfl rfl rfl ?_
                refine ax_dup dX12_silence_135 rfl ?_
                refine ax_mS dX12_silence_136 fl_X12_279 rfl ?_
                refine ax_iconst (v := 1) dX12_silence_139 (by decide) ?_
                refine ax_iadd dX12_silence_140 ?_
                refine ax_mPS dX12_silence_141 fl_X12_279 rfl rfl ?_
                refine ax_aload_n (i := 0) dX12_silence_144 rfl rfl rfl ?_
                refine ax_mS dX12_silence_145 fl_X12_279 rfl ?_
                refine ax_iconst (v := 1) dX12_silence_148 (by decide) ?_
                refine ax_isub dX12_silence_149 ?_
                refine ax_iret dX12_silence_150 rfl rfl ?_
                exact fin2 h (by unfold mSilence; grind [mT0, mN, mE, nN, = mS_pS, = mS_pA, = mS_pL, = mA_pS, = mA_pA, = mA_pL, = mL_pS, = mL_pA, = mL_pL])
              · refine ax_bipush (v := -2) dX12_silence_90 (by decide) ?_
                refine ax_iret dX12_silence_92 rfl rfl ?_
                exact fin2 h (by unfold mSilence; grind [mT0, mN, mE, nN, = mS_pS, = mS_pA, = mS_pL, = mA_pS, = mA_pA, = mA_pL, = mL_pS, = mL_pA, = mL_pL])
            · refine ax_if_eq (tgt := 71) dX12_silence_64 (by decide) (fun _ => ?_) (fun z => absurd (by decide) z)
              refine ax_iconst (v := 0) dX12_silence_71 (by decide) ?_
              refine ax_istore (lv' := [(6, _), (0, _), (1, _), (2, _), (3, _), (4, _), (5, _)]) dX12_silence_72 (by decide) rfl ?_
              refine ax_iload dX12_silence_74 rfl ?_
              refine ax_if_ne (tgt := 81) dX12_silence_76 (by decide) (fun z => absurd z (by decide)) (fun _ => ?_)
              refine ax_iconst (v := -1) dX12_silence_79 (by decide) ?_
              refine ax_iret dX12_silence_80 rfl rfl ?_
              exact fin2 h (by unfold mSilence; grind [mT0, mN, mE, nN, = mS_pS, = mS_pA, = mS_pL, = mA_pS, = mA_pA, = mA_pL, = mL_pS, = mL_pA, = mL_pL])
          · refine ax_if_eq (tgt := 71) dX12_silence_55 (by decide) (fun _ => ?_) (fun z => absurd (by decide) z)
            refine ax_iconst (v := 0) dX12_silence_71 (by decide) ?_
            refine ax_istore (lv' := [(6, _), (0, _), (1, _), (2, _), (3, _), (4, _), (5, _)]) dX12_silence_72 (by decide) rfl ?_
            refine ax_iload dX12_silence_74 rfl ?_
            refine ax_if_ne (tgt := 81) dX12_silence_76 (by decide) (fun z => absurd z (by decide)) (fun _ => ?_)
            refine ax_iconst (v := -1) dX12_silence_79 (by decide) ?_
            refine ax_iret dX12_silence_80 rfl rfl ?_
            exact fin2 h (by unfold mSilence; grind [mT0, mN, mE, nN, = mS_pS, = mS_pA, = mS_pL, = mA_pS, = mA_pA, = mA_pL, = mL_pS, = mL_pA, = mL_pL])
        · refine ax_if_eq (tgt := 71) dX12_silence_41 (by decide) (fun _ => ?_) (fun z => absurd (by decide) z)
          refine ax_iconst (v := 0) dX12_silence_71 (by decide) ?_
          refine ax_istore (lv' := [(6, _), (0, _), (1, _), (2, _), (3, _), (4, _), (5, _)]) dX12_silence_72 (by decide) rfl ?_
          refine ax_iload dX12_silence_74 rfl ?_
          refine ax_if_ne (tgt := 81) dX12_silence_76 (by decide) (fun z => absurd z (by decide)) (fun _ => ?_)
          refine ax_iconst (v := -1) dX12_silence_79 (by decide) ?_
          refine ax_iret dX12_silence_80 rfl rfl ?_
          exact fin2 h (by unfold mSilence; grind [mT0, mN, mE, nN, = mS_pS, = mS_pA, = mS_pL, = mA_pS, = mA_pA, = mA_pL, = mL_pS, = mL_pA, = mL_pL])
      · refine ax_if_eq (tgt := 71) dX12_silence_29 (by decide) (fun _ => ?_) (fun z => absurd (by decide) z)
        refine ax_iconst (v := 0) dX12_silence_71 (by decide) ?_
        refine ax_istore (lv' := [(6, _), (0, _), (1, _), (2, _), (3, _), (4, _), (5, _)]) dX12_silence_72 (by decide) rfl ?_
        refine ax_iload dX12_silence_74 rfl ?_
        refine ax_if_ne (tgt := 81) dX12_silence_76 (by decide) (fun z => absurd z (by decide)) (fun _ => ?_)
        refine ax_iconst (v := -1) dX12_silence_79 (by decide) ?_
        refine ax_iret dX12_silence_80 rfl rfl ?_
        exact fin2 h (by unfold mSilence; grind [mT0, mN, mE, nN, = mS_pS, = mS_pA, = mS_pL, = mA_pS, = mA_pA, = mA_pL, = mL_pS, = mL_pA, = mL_pL])
  · refine ax_if_eq (tgt := 71) dX12_silence_16 (by decide) (fun _ => ?_) (fun z => absurd (by decide) z)
    refine ax_iconst (v := 0) dX12_silence_71 (by decide) ?_
    refine ax_istore (lv' := [(6, _), (0, _), (1, _), (2, _), (3, _), (4, _), (5, _)]) dX12_silence_72 (by decide) rfl ?_
    refine ax_iload dX12_silence_74 rfl ?_
    refine ax_if_ne (tgt := 81) dX12_silence_76 (by decide) (fun z => absurd z (by decide)) (fun _ => ?_)
    refine ax_iconst (v := -1) dX12_silence_79 (by decide) ?_
    refine ax_iret dX12_silence_80 rfl rfl ?_
    exact fin2 h (by unfold mSilence; grind [mT0, mN, mE, nN, = mS_pS, = mS_pA, = mS_pL, = mA_pS, = mA_pA, = mA_pL, = mL_pS, = mL_pA, = mL_pL])
set_option maxHeartbeats 4000000 in
set_option maxRecDepth 100000 in
theorem t_mask {b : Bool} {E : awE} {S : awS} {M : aM} {Q : Option Value → awS → Nat → Nat → Prop} (hm : mOk S)  (m : Int32) (h : Q (some (.int (mMask M m).2)) (putM S (mMask M m).1) 0 0) : awT b E m_X12_mask [.ref (nm 13 0), .int m] (putM S M) Q := by
  refine awT.of (by decide) (by decide) (Nat.le_of_ble_eq_true rfl) ?_
  refine ax_aload_n (i := 0) dX12_mask_0 rfl rfl rfl ?_
  refine ax_iconst (v := 0) dX12_mask_1 (by decide) ?_
  refine ax_mPS dX12_mask_2 fl_X12_228 rfl rfl ?_
  refine ax_iload_n (i := 1) dX12_mask_5 rfl rfl ?_
  refine ax_i2l dX12_mask_6 ?_
  refine ax_lconst (v := 0) dX12_mask_7 (by decide) ?_
  refine ax_ldc2 dX12_mask_8 kc_X12_282 ?_
  refine ax_invS (n := 3) (As := [_, _, _]) dX12_mask_11 cb_X12_isIn cs_X12_242.1 cs_X12_242.2 rfl ⟨Nat.le_of_ble_eq_true rfl, Nat.le_of_ble_eq_true rfl⟩ (Nat.le_of_ble_eq_true rfl) rfl (t_isInI (lo := (0)) (hi := (7)) (fun c_11 => ?_) (fun c_11 => ?_))
  · refine ax_if_ne (tgt := 19) dX12_mask_14 (by decide) (fun _ => ?_) (fun z => absurd (by decide) z)
    refine ax_aload_n (i := 0) dX12_mask_19 rfl rfl rfl ?_
    refine ax_mS dX12_mask_20 fl_X12_284 rfl ?_
    refine ax_if_le (tgt := 29) dX12_mask_23 (by decide) (fun c_23 => ?_) (fun c_23 => ?_)
    · refine ax_aload_n (i := 0) dX12_mask_29 rfl rfl rfl ?_
      refine ax_iload_n (i := 1) dX12_mask_30 rfl rfl ?_
      refine ax_mPS dX12_mask_31 fl_X12_122 rfl rfl ?_
      refine ax_iconst (v := 0) dX12_mask_34 (by decide) ?_
      refine ax_iret dX12_mask_35 rfl rfl ?_
      exact fin2 h (by unfold mMask; grind [mT0, mN, mE, nN, = mS_pS, = mS_pA, = mS_pL, = mA_pS, = mA_pA, = mA_pL, = mL_pS, = mL_pA, = mL_pL])
    · refine ax_bipush (v := -3) dX12_mask_26 (by decide) ?_
      refine ax_iret dX12_mask_28 rfl rfl ?_
      exact fin2 h (by unfold mMask; grind [mT0, mN, mE, nN, = mS_pS, = mS_pA, = mS_pL, = mA_pS, = mA_pA, = mA_pL, = mL_pS, = mL_pA, = mL_pL])
  · refine ax_if_ne (tgt := 19) dX12_mask_14 (by decide) (fun z => absurd z (by decide)) (fun _ => ?_)
    refine ax_iconst (v := -1) dX12_mask_17 (by decide) ?_
    refine ax_iret dX12_mask_18 rfl rfl ?_
    exact fin2 h (by unfold mMask; grind [mT0, mN, mE, nN, = mS_pS, = mS_pA, = mS_pL, = mA_pS, = mA_pA, = mA_pL, = mL_pS, = mL_pA, = mL_pL])
set_option maxHeartbeats 4000000 in
set_option maxRecDepth 100000 in
theorem t_waits {b : Bool} {E : awE} {S : awS} {M : aM} {Q : Option Value → awS → Nat → Nat → Prop} (hm : mOk S)  (f : Int32) (g : Int32) (e : Int32) (u : Int32) (h : Q (some (.int (mWaits M f g e u).2)) (putM S (mWaits M f g e u).1) 0 0) : awT b E m_X12_waits [.ref (nm 13 0), .int f, .int g, .int e, .int u] (putM S M) Q := by
  refine awT.of (by decide) (by decide) (Nat.le_of_ble_eq_true rfl) ?_
  refine ax_aload_n (i := 0) dX12_waits_0 rfl rfl rfl ?_
  refine ax_iconst (v := 0) dX12_waits_1 (by decide) ?_
  refine ax_mPS dX12_waits_2 fl_X12_228 rfl rfl ?_
  refine ax_iload_n (i := 1) dX12_waits_5 rfl rfl ?_
  refine ax_i2l dX12_waits_6 ?_
  refine ax_lconst (v := 0) dX12_waits_7 (by decide) ?_
  refine ax_ldc2 dX12_waits_8 kc_X12_287 ?_
  refine ax_invS (n := 3) (As := [_, _, _]) dX12_waits_11 cb_X12_isIn cs_X12_242.1 cs_X12_242.2 rfl ⟨Nat.le_of_ble_eq_true rfl, Nat.le_of_ble_eq_true rfl⟩ (Nat.le_of_ble_eq_true rfl) rfl (t_isInI (lo := (0)) (hi := (50)) (fun c_11 => ?_) (fun c_11 => ?_))
  · refine ax_if_eq (tgt := 54) dX12_waits_14 (by decide) (fun z => absurd z (by decide)) (fun _ => ?_)
    refine ax_iload_n (i := 2) dX12_waits_17 rfl rfl ?_
    refine ax_i2l dX12_waits_18 ?_
    refine ax_lconst (v := 1) dX12_waits_19 (by decide) ?_
    refine ax_ldc2 dX12_waits_20 kc_X12_287 ?_
    refine ax_invS (n := 3) (As := [_, _, _]) dX12_waits_23 cb_X12_isIn cs_X12_242.1 cs_X12_242.2 rfl ⟨Nat.le_of_ble_eq_true rfl, Nat.le_of_ble_eq_true rfl⟩ (Nat.le_of_ble_eq_true rfl) rfl (t_isInI (lo := (1)) (hi := (50)) (fun c_23 => ?_) (fun c_23 => ?_))
    · refine ax_if_eq (tgt := 54) dX12_waits_26 (by decide) (fun z => absurd z (by decide)) (fun _ => ?_)
      refine ax_iload_n (i := 3) dX12_waits_29 rfl rfl ?_
      refine ax_i2l dX12_waits_30 ?_
      refine ax_lconst (v := 1) dX12_waits_31 (by decide) ?_
      refine ax_ldc2 dX12_waits_32 kc_X12_256 ?_
      refine ax_invS (n := 3) (As := [_, _, _]) dX12_waits_35 cb_X12_isIn cs_X12_242.1 cs_X12_242.2 rfl ⟨Nat.le_of_ble_eq_true rfl, Nat.le_of_ble_eq_true rfl⟩ (Nat.le_of_ble_eq_true rfl) rfl (t_isInI (lo := (1)) (hi := (100)) (fun c_35 => ?_) (fun c_35 => ?_))
      · refine ax_if_eq (tgt := 54) dX12_waits_38 (by decide) (fun z => absurd z (by decide)) (fun _ => ?_)
        refine ax_iload dX12_waits_41 rfl ?_
        refine ax_i2l dX12_waits_43 ?_
        refine ax_lconst (v := 1) dX12_waits_44 (by decide) ?_
        refine ax_ldc2 dX12_waits_45 kc_X12_287 ?_
        refine ax_invS (n := 3) (As := [_, _, _]) dX12_waits_48 cb_X12_isIn cs_X12_242.1 cs_X12_242.2 rfl ⟨Nat.le_of_ble_eq_true rfl, Nat.le_of_ble_eq_true rfl⟩ (Nat.le_of_ble_eq_true rfl) rfl (t_isInI (lo := (1)) (hi := (50)) (fun c_48 => ?_) (fun c_48 => ?_))
        · refine ax_if_ne (tgt := 56) dX12_waits_51 (by decide) (fun _ => ?_) (fun z => absurd (by decide) z)
          refine ax_aload_n (i := 0) dX12_waits_56 rfl rfl rfl ?_
          refine ax_iload_n (i := 1) dX12_waits_57 rfl rfl ?_
          refine ax_mPS dX12_waits_58 fl_X12_126 rfl rfl ?_
          refine ax_aload_n (i := 0) dX12_waits_61 rfl rfl rfl ?_
          refine ax_iload_n (i := 2) dX12_waits_62 rfl rfl ?_
          refine ax_mPS dX12_waits_63 fl_X12_129 rfl rfl ?_
          refine ax_aload_n (i := 0) dX12_waits_66 rfl rfl rfl ?_
          refine ax_iload_n (i := 3) dX12_waits_67 rfl rfl ?_
          refine ax_mPS dX12_waits_68 fl_X12_132 rfl rfl ?_
          refine ax_aload_n (i := 0) dX12_waits_71 rfl rfl rfl ?_
          refine ax_iload dX12_waits_72 rfl ?_
          refine ax_mPS dX12_waits_74 fl_X12_135 rfl rfl ?_
          refine ax_iconst (v := 0) dX12_waits_77 (by decide) ?_
          refine ax_iret dX12_waits_78 rfl rfl ?_
          exact fin2 h (by unfold mWaits; grind [mT0, mN, mE, nN, = mS_pS, = mS_pA, = mS_pL, = mA_pS, = mA_pA, = mA_pL, = mL_pS, = mL_pA, = mL_pL])
        · refine ax_if_ne (tgt := 56) dX12_waits_51 (by decide) (fun z => absurd z (by decide)) (fun _ => ?_)
          refine ax_iconst (v := -1) dX12_waits_54 (by decide) ?_
          refine ax_iret dX12_waits_55 rfl rfl ?_
          exact fin2 h (by unfold mWaits; grind [mT0, mN, mE, nN, = mS_pS, = mS_pA, = mS_pL, = mA_pS, = mA_pA, = mA_pL, = mL_pS, = mL_pA, = mL_pL])
      · refine ax_if_eq (tgt := 54) dX12_waits_38 (by decide) (fun _ => ?_) (fun z => absurd (by decide) z)
        refine ax_iconst (v := -1) dX12_waits_54 (by decide) ?_
        refine ax_iret dX12_waits_55 rfl rfl ?_
        exact fin2 h (by unfold mWaits; grind [mT0, mN, mE, nN, = mS_pS, = mS_pA, = mS_pL, = mA_pS, = mA_pA, = mA_pL, = mL_pS, = mL_pA, = mL_pL])
    · refine ax_if_eq (tgt := 54) dX12_waits_26 (by decide) (fun _ => ?_) (fun z => absurd (by decide) z)
      refine ax_iconst (v := -1) dX12_waits_54 (by decide) ?_
      refine ax_iret dX12_waits_55 rfl rfl ?_
      exact fin2 h (by unfold mWaits; grind [mT0, mN, mE, nN, = mS_pS, = mS_pA, = mS_pL, = mA_pS, = mA_pA, = mA_pL, = mL_pS, = mL_pA, = mL_pL])
  · refine ax_if_eq (tgt := 54) dX12_waits_14 (by decide) (fun _ => ?_) (fun z => absurd (by decide) z)
    refine ax_iconst (v := -1) dX12_waits_54 (by decide) ?_
    refine ax_iret dX12_waits_55 rfl rfl ?_
    exact fin2 h (by unfold mWaits; grind [mT0, mN, mE, nN, = mS_pS, = mS_pA, = mS_pL, = mA_pS, = mA_pA, = mA_pL, = mL_pS, = mL_pA, = mL_pL])
set_option maxHeartbeats 4000000 in
set_option maxRecDepth 100000 in
theorem t_hand {b : Bool} {E : awE} {S : awS} {M : aM} {Q : Option Value → awS → Nat → Nat → Prop} (hm : mOk S)   (h : Q (some (.int (mHand M ).2)) (putM S (mHand M ).1) 0 0) : awT b E m_X12_hand [.ref (nm 13 0)] (putM S M) Q := by
  refine awT.of (by decide) (by decide) (Nat.le_of_ble_eq_true rfl) ?_
  refine ax_aload_n (i := 0) dX12_hand_0 rfl rfl rfl ?_
  refine ax_iconst (v := 0) dX12_hand_1 (by decide) ?_
  refine ax_mPS dX12_hand_2 fl_X12_228 rfl rfl ?_
  refine ax_aload_n (i := 0) dX12_hand_5 rfl rfl rfl ?_
  refine ax_mS dX12_hand_6 fl_X12_237 rfl ?_
  refine ax_bipush (v := 8) dX12_hand_9 (by decide) ?_
  refine ax_icmp_ne (tgt := 17) dX12_hand_11 (by decide) (fun c_11 => ?_) (fun c_11 => ?_)
  · refine ax_aload_n (i := 0) dX12_hand_17 rfl rfl rfl ?_
    refine ax_dup dX12_hand_18 rfl ?_
    refine ax_mS dX12_hand_19 fl_X12_237 rfl ?_
    refine ax_iconst (v := 1) dX12_hand_22 (by decide) ?_
    refine ax_iadd dX12_hand_23 ?_
    refine ax_mPS dX12_hand_24 fl_X12_237 rfl rfl ?_
    refine ax_aload_n (i := 0) dX12_hand_27 rfl rfl rfl ?_
    refine ax_mS dX12_hand_28 fl_X12_237 rfl ?_
    refine ax_iconst (v := 1) dX12_hand_31 (by decide) ?_
    refine ax_isub dX12_hand_32 ?_
    refine ax_iret dX12_hand_33 rfl rfl ?_
    exact fin2 h (by unfold mHand; grind [mT0, mN, mE, nN, = mS_pS, = mS_pA, = mS_pL, = mA_pS, = mA_pA, = mA_pL, = mL_pS, = mL_pA, = mL_pL])
  · refine ax_bipush (v := -2) dX12_hand_14 (by decide) ?_
    refine ax_iret dX12_hand_16 rfl rfl ?_
    exact fin2 h (by unfold mHand; grind [mT0, mN, mE, nN, = mS_pS, = mS_pA, = mS_pL, = mA_pS, = mA_pA, = mA_pL, = mL_pS, = mL_pA, = mL_pL])
set_option maxHeartbeats 4000000 in
set_option maxRecDepth 100000 in
theorem t_shift {b : Bool} {E : awE} {S : awS} {M : aM} {Q : Option Value → awS → Nat → Nat → Prop} (hm : mOk S) (hr : rgS M 53 40) (h1 : Int32) (fr : Int32) (pl : Int32) (st : Int32) (h : Q (some (.int (mShift M h1 fr pl st).2)) (putM S (mShift M h1 fr pl st).1) 0 0) : awT b E m_X12_shift [.ref (nm 13 0), .int h1, .int fr, .int pl, .int st] (putM S M) Q := by
  refine awT.of (by decide) (by decide) (Nat.le_of_ble_eq_true rfl) ?_
  refine ax_aload_n (i := 0) dX12_shift_0 rfl rfl rfl ?_
  refine ax_iconst (v := 0) dX12_shift_1 (by decide) ?_
  refine ax_mPS dX12_shift_2 fl_X12_228 rfl rfl ?_
  refine ax_aload_n (i := 0) dX12_shift_5 rfl rfl rfl ?_
  refine ax_iload_n (i := 1) dX12_shift_6 rfl rfl ?_
  refine ax_invV (c := 13) (n := 1) (As := [_]) dX12_shift_7 cb_X12_isHand cv_X12_276.1 cv_X12_276.2.1 cv_X12_276.2.2 rfl (by decide) rfl ⟨Nat.le_of_ble_eq_true rfl, Nat.le_of_ble_eq_true rfl⟩ (Nat.le_of_ble_eq_true rfl) rfl (t_isHand (fun c_7 => ?_) (fun c_7 => ?_))
  · refine ax_if_eq (tgt := 50) dX12_shift_10 (by decide) (fun z => absurd z (by decide)) (fun _ => ?_)
    refine ax_iload_n (i := 2) dX12_shift_13 rfl rfl ?_
    refine ax_i2l dX12_shift_14 ?_
    refine ax_lconst (v := 0) dX12_shift_15 (by decide) ?_
    refine ax_ldc2 dX12_shift_16 kc_X12_289 ?_
    refine ax_invS (n := 3) (As := [_, _, _]) dX12_shift_19 cb_X12_isIn cs_X12_242.1 cs_X12_242.2 rfl ⟨Nat.le_of_ble_eq_true rfl, Nat.le_of_ble_eq_true rfl⟩ (Nat.le_of_ble_eq_true rfl) rfl (t_isInI (lo := (0)) (hi := (47)) (fun c_19 => ?_) (fun c_19 => ?_))
    · refine ax_if_eq (tgt := 50) dX12_shift_22 (by decide) (fun z => absurd z (by decide)) (fun _ => ?_)
      refine ax_iload_n (i := 3) dX12_shift_25 rfl rfl ?_
      refine ax_i2l dX12_shift_26 ?_
      refine ax_lconst (v := 1) dX12_shift_27 (by decide) ?_
      refine ax_ldc2 dX12_shift_28 kc_X12_291 ?_
      refine ax_invS (n := 3) (As := [_, _, _]) dX12_shift_31 cb_X12_isIn cs_X12_242.1 cs_X12_242.2 rfl ⟨Nat.le_of_ble_eq_true rfl, Nat.le_of_ble_eq_true rfl⟩ (Nat.le_of_ble_eq_true rfl) rfl (t_isInI (lo := (1)) (hi := (48)) (fun c_31 => ?_) (fun c_31 => ?_))
      · refine ax_if_eq (tgt := 50) dX12_shift_34 (by decide) (fun z => absurd z (by decide)) (fun _ => ?_)
        refine ax_iload dX12_shift_37 rfl ?_
        refine ax_i2l dX12_shift_39 ?_
        refine ax_lconst (v := 0) dX12_shift_40 (by decide) ?_
        refine ax_ldc2 dX12_shift_41 kc_X12_240 ?_
        refine ax_invS (n := 3) (As := [_, _, _]) dX12_shift_44 cb_X12_isIn cs_X12_242.1 cs_X12_242.2 rfl ⟨Nat.le_of_ble_eq_true rfl, Nat.le_of_ble_eq_true rfl⟩ (Nat.le_of_ble_eq_true rfl) rfl (t_isInI (lo := (0)) (hi := (9)) (fun c_44 => ?_) (fun c_44 => ?_))
        · refine ax_if_ne (tgt := 52) dX12_shift_47 (by decide) (fun _ => ?_) (fun z => absurd (by decide) z)
          refine ax_aload_n (i := 0) dX12_shift_52 rfl rfl rfl ?_
          refine ax_mS dX12_shift_53 fl_X12_293 rfl ?_
          refine ax_bipush (v := 40) dX12_shift_56 (by decide) ?_
          refine ax_icmp_ne (tgt := 64) dX12_shift_58 (by decide) (fun c_58 => ?_) (fun c_58 => ?_)
          · refine ax_aload_n (i := 0) dX12_shift_64 rfl rfl rfl ?_
            refine ax_mR hm dX12_shift_65 fl_X12_147 rfl (by decide) ?_
            refine ax_aload_n (i := 0) dX12_shift_68 rfl rfl rfl ?_
            refine ax_mS dX12_shift_69 fl_X12_293 rfl ?_
            refine ax_iload_n (i := 1) dX12_shift_72 rfl rfl ?_
            refine ax_mPI hm dX12_shift_73 rfl (by decide) (vin_s hr c_58 rfl (by decide) (by decide)) ?_
            refine ax_aload_n (i := 0) dX12_shift_74 rfl rfl rfl ?_
            refine ax_mR hm dX12_shift_75 fl_X12_150 rfl (by decide) ?_
            refine ax_aload_n (i := 0) dX12_shift_78 rfl rfl rfl ?_
            refine ax_mS dX12_shift_79 fl_X12_293 rfl ?_
            refine ax_iload_n (i := 2) dX12_shift_82 rfl rfl ?_
            refine ax_mPI hm dX12_shift_83 rfl (by decide) (vin_s hr c_58 rfl (by decide) (by decide)) ?_
            refine ax_aload_n (i := 0) dX12_shift_84 rfl rfl rfl ?_
            refine ax_mR hm dX12_shift_85 fl_X12_153 rfl (by decide) ?_
            refine ax_aload_n (i := 0) dX12_shift_88 rfl rfl rfl ?_
            refine ax_mS dX12_shift_89 fl_X12_293 rfl ?_
            refine ax_iload_n (i := 3) dX12_shift_92 rfl rfl ?_
            refine ax_mPI hm dX12_shift_93 rfl (by decide) (vin_s hr c_58 rfl (by decide) (by decide)) ?_
            refine ax_aload_n (i := 0) dX12_shift_94 rfl rfl rfl ?_
            refine ax_mR hm dX12_shift_95 fl_X12_156 rfl (by decide) ?_
            refine ax_aload_n (i := 0) dX12_shift_98 rfl rfl rfl ?_
            refine ax_mS dX12_shift_99 fl_X12_293 rfl ?_
            refine ax_iload dX12_shift_102 rfl ?_
            refine ax_mPI hm dX12_shift_104 rfl (by decide) (vin_s hr c_58 rfl (by decide) (by decide)) ?_
            refine ax_aload_n (i := 0) dX12_shift_105 rfl rfl rfl ?_
            refine ax_dup dX12_shift_106 rfl ?_
            refine ax_mS dX12_shift_107 fl_X12_293 rfl ?_
            refine ax_iconst (v := 1) dX12_shift_110 (by decide) ?_
            refine ax_iadd dX12_shift_111 ?_
            refine ax_mPS dX12_shift_112 fl_X12_293 rfl rfl ?_
            refine ax_aload_n (i := 0) dX12_shift_115 rfl rfl rfl ?_
            refine ax_mS dX12_shift_116 fl_X12_293 rfl ?_
            refine ax_iconst (v := 1) dX12_shift_119 (by decide) ?_
            refine ax_isub dX12_shift_120 ?_
            refine ax_iret dX12_shift_121 rfl rfl ?_
            exact fin2 h (by unfold mShift; grind [mT0, mN, mE, nN, = mS_pS, = mS_pA, = mS_pL, = mA_pS, = mA_pA, = mA_pL, = mL_pS, = mL_pA, = mL_pL])
          · refine ax_bipush (v := -2) dX12_shift_61 (by decide) ?_
            refine ax_iret dX12_shift_63 rfl rfl ?_
            exact fin2 h (by unfold mShift; grind [mT0, mN, mE, nN, = mS_pS, = mS_pA, = mS_pL, = mA_pS, = mA_pA, = mA_pL, = mL_pS, = mL_pA, = mL_pL])
        · refine ax_if_ne (tgt := 52) dX12_shift_47 (by decide) (fun z => absurd z (by decide)) (fun _ => ?_)
          refine ax_iconst (v := -1) dX12_shift_50 (by decide) ?_
          refine ax_iret dX12_shift_51 rfl rfl ?_
          exact fin2 h (by unfold mShift; grind [mT0, mN, mE, nN, = mS_pS, = mS_pA, = mS_pL, = mA_pS, = mA_pA, = mA_pL, = mL_pS, = mL_pA, = mL_pL])
      · refine ax_if_eq (tgt := 50) dX12_shift_34 (by decide) (fun _ => ?_) (fun z => absurd (by decide) z)
        refine ax_iconst (v := -1) dX12_shift_50 (by decide) ?_
        refine ax_iret dX12_shift_51 rfl rfl ?_
        exact fin2 h (by unfold mShift; grind [mT0, mN, mE, nN, = mS_pS, = mS_pA, = mS_pL, = mA_pS, = mA_pA, = mA_pL, = mL_pS, = mL_pA, = mL_pL])
    · refine ax_if_eq (tgt := 50) dX12_shift_22 (by decide) (fun _ => ?_) (fun z => absurd (by decide) z)
      refine ax_iconst (v := -1) dX12_shift_50 (by decide) ?_
      refine ax_iret dX12_shift_51 rfl rfl ?_
      exact fin2 h (by unfold mShift; grind [mT0, mN, mE, nN, = mS_pS, = mS_pA, = mS_pL, = mA_pS, = mA_pA, = mA_pL, = mL_pS, = mL_pA, = mL_pL])
  · refine ax_if_eq (tgt := 50) dX12_shift_10 (by decide) (fun _ => ?_) (fun z => absurd (by decide) z)
    refine ax_iconst (v := -1) dX12_shift_50 (by decide) ?_
    refine ax_iret dX12_shift_51 rfl rfl ?_
    exact fin2 h (by unfold mShift; grind [mT0, mN, mE, nN, = mS_pS, = mS_pA, = mS_pL, = mA_pS, = mA_pA, = mA_pL, = mL_pS, = mL_pA, = mL_pL])
set_option maxHeartbeats 4000000 in
set_option maxRecDepth 100000 in
theorem t_swap {b : Bool} {E : awE} {S : awS} {M : aM} {Q : Option Value → awS → Nat → Nat → Prop} (hm : mOk S) (hr : rgS M 58 20) (o : Int32) (t : Int32) (fr : Int32) (to : Int32) (h : Q (some (.int (mSwap M o t fr to).2)) (putM S (mSwap M o t fr to).1) 0 0) : awT b E m_X12_swap [.ref (nm 13 0), .int o, .int t, .int fr, .int to] (putM S M) Q := by
  refine awT.of (by decide) (by decide) (Nat.le_of_ble_eq_true rfl) ?_
  refine ax_aload_n (i := 0) dX12_swap_0 rfl rfl rfl ?_
  refine ax_iconst (v := 0) dX12_swap_1 (by decide) ?_
  refine ax_mPS dX12_swap_2 fl_X12_228 rfl rfl ?_
  refine ax_aload_n (i := 0) dX12_swap_5 rfl rfl rfl ?_
  refine ax_iload_n (i := 1) dX12_swap_6 rfl rfl ?_
  refine ax_invV (c := 13) (n := 1) (As := [_]) dX12_swap_7 cb_X12_isHand cv_X12_276.1 cv_X12_276.2.1 cv_X12_276.2.2 rfl (by decide) rfl ⟨Nat.le_of_ble_eq_true rfl, Nat.le_of_ble_eq_true rfl⟩ (Nat.le_of_ble_eq_true rfl) rfl (t_isHand (fun c_7 => ?_) (fun c_7 => ?_))
  · refine ax_if_eq (tgt := 52) dX12_swap_10 (by decide) (fun z => absurd z (by decide)) (fun _ => ?_)
    refine ax_aload_n (i := 0) dX12_swap_13 rfl rfl rfl ?_
    refine ax_iload_n (i := 2) dX12_swap_14 rfl rfl ?_
    refine ax_invV (c := 13) (n := 1) (As := [_]) dX12_swap_15 cb_X12_isHand cv_X12_276.1 cv_X12_276.2.1 cv_X12_276.2.2 rfl (by decide) rfl ⟨Nat.le_of_ble_eq_true rfl, Nat.le_of_ble_eq_true rfl⟩ (Nat.le_of_ble_eq_true rfl) rfl (t_isHand (fun c_15 => ?_) (fun c_15 => ?_))
    · refine ax_if_eq (tgt := 52) dX12_swap_18 (by decide) (fun z => absurd z (by decide)) (fun _ => ?_)
      refine ax_iload_n (i := 1) dX12_swap_21 rfl rfl ?_
      refine ax_iload_n (i := 2) dX12_swap_22 rfl rfl ?_
      refine ax_icmp_eq (tgt := 52) dX12_swap_23 (by decide) (fun c_23 => ?_) (fun c_23 => ?_)
      · refine ax_iconst (v := -1) dX12_swap_52 (by decide) ?_
        refine ax_iret dX12_swap_53 rfl rfl ?_
        exact fin2 h (by unfold mSwap; grind [mT0, mN, mE, nN, = mS_pS, = mS_pA, = mS_pL, = mA_pS, = mA_pA, = mA_pL, = mL_pS, = mL_pA, = mL_pL])
      · refine ax_iload_n (i := 3) dX12_swap_26 rfl rfl ?_
        refine ax_i2l dX12_swap_27 ?_
        refine ax_lconst (v := 1) dX12_swap_28 (by decide) ?_
        refine ax_ldc2 dX12_swap_29 kc_X12_274 ?_
        refine ax_invS (n := 3) (As := [_, _, _]) dX12_swap_32 cb_X12_isIn cs_X12_242.1 cs_X12_242.2 rfl ⟨Nat.le_of_ble_eq_true rfl, Nat.le_of_ble_eq_true rfl⟩ (Nat.le_of_ble_eq_true rfl) rfl (t_isInI (lo := (1)) (hi := (1000)) (fun c_32 => ?_) (fun c_32 => ?_))
        · refine ax_if_eq (tgt := 52) dX12_swap_35 (by decide) (fun z => absurd z (by decide)) (fun _ => ?_)
          refine ax_iload dX12_swap_38 rfl ?_
          refine ax_i2l dX12_swap_40 ?_
          refine ax_iload_n (i := 3) dX12_swap_41 rfl rfl ?_
          refine ax_i2l dX12_swap_42 ?_
          refine ax_ldc2 dX12_swap_43 kc_X12_274 ?_
          refine ax_invS (n := 3) (As := [_, _, _]) dX12_swap_46 cb_X12_isIn cs_X12_242.1 cs_X12_242.2 rfl ⟨Nat.le_of_ble_eq_true rfl, Nat.le_of_ble_eq_true rfl⟩ (Nat.le_of_ble_eq_true rfl) rfl (t_isInI (lo := _) (hi := (1000)) (fun c_46 => ?_) (fun c_46 => ?_))
          · refine ax_if_ne (tgt := 54) dX12_swap_49 (by decide) (fun _ => ?_) (fun z => absurd (by decide) z)
            refine ax_aload_n (i := 0) dX12_swap_54 rfl rfl rfl ?_
            refine ax_mS dX12_swap_55 fl_X12_296 rfl ?_
            refine ax_bipush (v := 20) dX12_swap_58 (by decide) ?_
            refine ax_icmp_ne (tgt := 66) dX12_swap_60 (by decide) (fun c_60 => ?_) (fun c_60 => ?_)
            · refine ax_aload_n (i := 0) dX12_swap_66 rfl rfl rfl ?_
              refine ax_mR hm dX12_swap_67 fl_X12_159 rfl (by decide) ?_
              refine ax_aload_n (i := 0) dX12_swap_70 rfl rfl rfl ?_
              refine ax_mS dX12_swap_71 fl_X12_296 rfl ?_
              refine ax_iload_n (i := 1) dX12_swap_74 rfl rfl ?_
              refine ax_mPI hm dX12_swap_75 rfl (by decide) (vin_s hr c_60 rfl (by decide) (by decide)) ?_
              refine ax_aload_n (i := 0) dX12_swap_76 rfl rfl rfl ?_
              refine ax_mR hm dX12_swap_77 fl_X12_162 rfl (by decide) ?_
              refine ax_aload_n (i := 0) dX12_swap_80 rfl rfl rfl ?_
              refine ax_mS dX12_swap_81 fl_X12_296 rfl ?_
              refine ax_iload_n (i := 2) dX12_swap_84 rfl rfl ?_
              refine ax_mPI hm dX12_swap_85 rfl (by decide) (vin_s hr c_60 rfl (by decide) (by decide)) ?_
              refine ax_aload_n (i := 0) dX12_swap_86 rfl rfl rfl ?_
              refine ax_mR hm dX12_swap_87 fl_X12_165 rfl (by decide) ?_
              refine ax_aload_n (i := 0) dX12_swap_90 rfl rfl rfl ?_
              refine ax_mS dX12_swap_91 fl_X12_296 rfl ?_
              refine ax_iload_n (i := 3) dX12_swap_94 rfl rfl ?_
              refine ax_mPI hm dX12_swap_95 rfl (by decide) (vin_s hr c_60 rfl (by decide) (by decide)) ?_
              refine ax_aload_n (i := 0) dX12_swap_96 rfl rfl rfl ?_
              refine ax_mR hm dX12_swap_97 fl_X12_168 rfl (by decide) ?_
              refine ax_aload_n (i := 0) dX12_swap_100 rfl rfl rfl ?_
              refine ax_mS dX12_swap_101 fl_X12_296 rfl ?_
              refine ax_iload dX12_swap_104 rfl ?_
              refine ax_mPI hm dX12_swap_106 rfl (by decide) (vin_s hr c_60 rfl (by decide) (by decide)) ?_
              refine ax_aload_n (i := 0) dX12_swap_107 rfl rfl rfl ?_
              refine ax_dup dX12_swap_108 rfl ?_
              refine ax_mS dX12_swap_109 fl_X12_296 rfl ?_
              refine ax_iconst (v := 1) dX12_swap_112 (by decide) ?_
              refine ax_iadd dX12_swap_113 ?_
              refine ax_mPS dX12_swap_114 fl_X12_296 rfl rfl ?_
              refine ax_aload_n (i := 0) dX12_swap_117 rfl rfl rfl ?_
              refine ax_mS dX12_swap_118 fl_X12_296 rfl ?_
              refine ax_iconst (v := 1) dX12_swap_121 (by decide) ?_
              refine ax_isub dX12_swap_122 ?_
              refine ax_iret dX12_swap_123 rfl rfl ?_
              exact fin2 h (by unfold mSwap; grind [mT0, mN, mE, nN, = mS_pS, = mS_pA, = mS_pL, = mA_pS, = mA_pA, = mA_pL, = mL_pS, = mL_pA, = mL_pL])
            · refine ax_bipush (v := -2) dX12_swap_63 (by decide) ?_
              refine ax_iret dX12_swap_65 rfl rfl ?_
              exact fin2 h (by unfold mSwap; grind [mT0, mN, mE, nN, = mS_pS, = mS_pA, = mS_pL, = mA_pS, = mA_pA, = mA_pL, = mL_pS, = mL_pA, = mL_pL])
          · refine ax_if_ne (tgt := 54) dX12_swap_49 (by decide) (fun z => absurd z (by decide)) (fun _ => ?_)
            refine ax_iconst (v := -1) dX12_swap_52 (by decide) ?_
            refine ax_iret dX12_swap_53 rfl rfl ?_
            exact fin2 h (by unfold mSwap; grind [mT0, mN, mE, nN, = mS_pS, = mS_pA, = mS_pL, = mA_pS, = mA_pA, = mA_pL, = mL_pS, = mL_pA, = mL_pL])
        · refine ax_if_eq (tgt := 52) dX12_swap_35 (by decide) (fun _ => ?_) (fun z => absurd (by decide) z)
          refine ax_iconst (v := -1) dX12_swap_52 (by decide) ?_
          refine ax_iret dX12_swap_53 rfl rfl ?_
          exact fin2 h (by unfold mSwap; grind [mT0, mN, mE, nN, = mS_pS, = mS_pA, = mS_pL, = mA_pS, = mA_pA, = mA_pL, = mL_pS, = mL_pA, = mL_pL])
    · refine ax_if_eq (tgt := 52) dX12_swap_18 (by decide) (fun _ => ?_) (fun z => absurd (by decide) z)
      refine ax_iconst (v := -1) dX12_swap_52 (by decide) ?_
      refine ax_iret dX12_swap_53 rfl rfl ?_
      exact fin2 h (by unfold mSwap; grind [mT0, mN, mE, nN, = mS_pS, = mS_pA, = mS_pL, = mA_pS, = mA_pA, = mA_pL, = mL_pS, = mL_pA, = mL_pL])
  · refine ax_if_eq (tgt := 52) dX12_swap_10 (by decide) (fun _ => ?_) (fun z => absurd (by decide) z)
    refine ax_iconst (v := -1) dX12_swap_52 (by decide) ?_
    refine ax_iret dX12_swap_53 rfl rfl ?_
    exact fin2 h (by unfold mSwap; grind [mT0, mN, mE, nN, = mS_pS, = mS_pA, = mS_pL, = mA_pS, = mA_pA, = mA_pL, = mL_pS, = mL_pA, = mL_pL])
