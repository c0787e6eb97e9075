set_option maxHeartbeats 4000000 in
set_option maxRecDepth 100000 in
theorem t_rule {b : Bool} {E : awE} {S : awS} {M : aM} {Q : Option Value → awS → Nat → Nat → Prop} (hm : mOk S) (hr : rgS M 6 16) (wh : Int32) (na : Int64) (nb : Int32) (how : Int32) (w : Int32) (h : Q (some (.int (mRule M wh na nb how w).2)) (putM S (mRule M wh na nb how w).1) 0 0) : awT b E m_X12_rule [.ref (nm 13 0), .int wh, .long na, .int nb, .int how, .int w] (putM S M) Q := by
  refine awT.of (by decide) (by decide) (Nat.le_of_ble_eq_true rfl) ?_
  refine ax_aload_n (i := 0) dX12_rule_0 rfl rfl rfl ?_
  refine ax_iconst (v := 0) dX12_rule_1 (by decide) ?_
  refine ax_mPS dX12_rule_2 fl_X12_228 rfl rfl ?_
  refine ax_iload_n (i := 1) dX12_rule_5 rfl rfl ?_
  refine ax_bipush (v := 100) dX12_rule_6 (by decide) ?_
  refine ax_irem dX12_rule_8 (by decide) ?_
  refine ax_istore (lv' := [(7, _), (0, _), (1, _), (2, _), (4, _), (5, _), (6, _)]) dX12_rule_9 (by decide) rfl ?_
  refine ax_iload_n (i := 1) dX12_rule_11 rfl rfl ?_
  refine ax_bipush (v := 100) dX12_rule_12 (by decide) ?_
  refine ax_idiv dX12_rule_14 (by decide) ?_
  refine ax_istore (lv' := [(8, _), (7, _), (0, _), (1, _), (2, _), (4, _), (5, _), (6, _)]) dX12_rule_15 (by decide) rfl ?_
  refine ax_iload dX12_rule_17 rfl ?_
  refine ax_bipush (v := 100) dX12_rule_19 (by decide) ?_
  refine ax_irem dX12_rule_21 (by decide) ?_
  refine ax_istore (lv' := [(9, _), (8, _), (7, _), (0, _), (1, _), (2, _), (4, _), (5, _), (6, _)]) dX12_rule_22 (by decide) rfl ?_
  refine ax_iload dX12_rule_24 rfl ?_
  refine ax_bipush (v := 100) dX12_rule_26 (by decide) ?_
  refine ax_idiv dX12_rule_28 (by decide) ?_
  refine ax_bipush (v := 100) dX12_rule_29 (by decide) ?_
  refine ax_irem dX12_rule_31 (by decide) ?_
  refine ax_istore (lv' := [(10, _), (9, _), (8, _), (7, _), (0, _), (1, _), (2, _), (4, _), (5, _), (6, _)]) dX12_rule_32 (by decide) rfl ?_
  refine ax_iload dX12_rule_34 rfl ?_
  refine ax_sipush (v := 10000) dX12_rule_36 (by decide) ?_
  refine ax_idiv dX12_rule_39 (by decide) ?_
  refine ax_istore (lv' := [(11, _), (10, _), (9, _), (8, _), (7, _), (0, _), (1, _), (2, _), (4, _), (5, _), (6, _)]) dX12_rule_40 (by decide) rfl ?_
  refine ax_iload_n (i := 1) dX12_rule_42 rfl rfl ?_
  refine ax_if_lt (tgt := 142) dX12_rule_43 (by decide) (fun c_43 => ?_) (fun c_43 => ?_)
  · refine ax_iconst (v := 0) dX12_rule_142 (by decide) ?_
    refine ax_istore (lv' := [(12, _), (11, _), (10, _), (9, _), (8, _), (7, _), (0, _), (1, _), (2, _), (4, _), (5, _), (6, _)]) dX12_rule_143 (by decide) rfl ?_
    refine ax_iload dX12_rule_145 rfl ?_
    refine ax_if_eq (tgt := 218) dX12_rule_147 (by decide) (fun _ => ?_) (fun z => absurd (by decide) z)
    refine ax_iconst (v := 0) dX12_rule_218 (by decide) ?_
    refine ax_istore (lv' := [(12, _), (11, _), (10, _), (9, _), (8, _), (7, _), (0, _), (1, _), (2, _), (4, _), (5, _), (6, _)]) dX12_rule_219 (by decide) rfl ?_
    refine ax_iload dX12_rule_221 rfl ?_
    refine ax_if_ne (tgt := 228) dX12_rule_223 (by decide) (fun z => absurd z (by decide)) (fun _ => ?_)
    refine ax_iconst (v := -1) dX12_rule_226 (by decide) ?_
    refine ax_iret dX12_rule_227 rfl rfl ?_
    exact fin2 h (if_pos (fun g => by
        obtain ⟨g1, g2, g3, g4, g5, g6, g7, g8, g9, g10⟩ := g
        first | exact absurd c_43 (Int32.not_lt.mpr g1) | exact c_53 g2 | exact g3.elim c_62 (fun z => z.elim c_68 c_78) | exact c_91 g4 | exact c_104 g5 | exact c_117 g6 | exact c_132 g7 | exact g8.elim c_153 (fun z => absurd z (Int64.not_le.mpr ((lg_cmp_gt _ _).mp c_161))) | exact g9.elim c_167 c_177 | exact g10.elim c_187 (fun z => c_199 z.1) | exact g10.elim c_187 (fun z => c_208 z.2)))
  · refine ax_iload dX12_rule_46 rfl ?_
    refine ax_i2l dX12_rule_48 ?_
    refine ax_lconst (v := 0) dX12_rule_49 (by decide) ?_
    refine ax_ldc2 dX12_rule_50 kc_X12_246 ?_
    refine ax_invS (n := 3) (As := [_, _, _]) dX12_rule_53 cb_X12_isIn cs_X12_242.1 cs_X12_242.2 rfl ⟨Nat.le_of_ble_eq_true rfl, Nat.le_of_ble_eq_true rfl⟩ (Nat.le_of_ble_eq_true rfl) rfl (t_isInI (lo := (0)) (hi := (6)) (fun c_53 => ?_) (fun c_53 => ?_))
    · refine ax_if_eq (tgt := 142) dX12_rule_56 (by decide) (fun z => absurd z (by decide)) (fun _ => ?_)
      refine ax_iload dX12_rule_59 rfl ?_
      refine ax_iconst (v := 2) dX12_rule_61 (by decide) ?_
      refine ax_icmp_lt (tgt := 84) dX12_rule_62 (by decide) (fun c_62 => ?_) (fun c_62 => ?_)
      · refine ax_iload dX12_rule_84 rfl ?_
        refine ax_i2l dX12_rule_86 ?_
        refine ax_lconst (v := 1) dX12_rule_87 (by decide) ?_
        refine ax_ldc2 dX12_rule_88 kc_X12_250 ?_
        refine ax_invS (n := 3) (As := [_, _, _]) dX12_rule_91 cb_X12_isIn cs_X12_242.1 cs_X12_242.2 rfl ⟨Nat.le_of_ble_eq_true rfl, Nat.le_of_ble_eq_true rfl⟩ (Nat.le_of_ble_eq_true rfl) rfl (t_isInI (lo := (1)) (hi := (10)) (fun c_91 => ?_) (fun c_91 => ?_))
        · refine ax_if_eq (tgt := 142) dX12_rule_94 (by decide) (fun z => absurd z (by decide)) (fun _ => ?_)
          refine ax_iload dX12_rule_97 rfl ?_
          refine ax_i2l dX12_rule_99 ?_
          refine ax_lconst (v := 1) dX12_rule_100 (by decide) ?_
          refine ax_ldc2 dX12_rule_101 kc_X12_250 ?_
          refine ax_invS (n := 3) (As := [_, _, _]) dX12_rule_104 cb_X12_isIn cs_X12_242.1 cs_X12_242.2 rfl ⟨Nat.le_of_ble_eq_true rfl, Nat.le_of_ble_eq_true rfl⟩ (Nat.le_of_ble_eq_true rfl) rfl (t_isInI (lo := (1)) (hi := (10)) (fun c_104 => ?_) (fun c_104 => ?_))
          · refine ax_if_eq (tgt := 142) dX12_rule_107 (by decide) (fun z => absurd z (by decide)) (fun _ => ?_)
            refine ax_iload dX12_rule_110 rfl ?_
            refine ax_i2l dX12_rule_112 ?_
            refine ax_lconst (v := 1) dX12_rule_113 (by decide) ?_
            refine ax_ldc2 dX12_rule_114 kc_X12_252 ?_
            refine ax_invS (n := 3) (As := [_, _, _]) dX12_rule_117 cb_X12_isIn cs_X12_242.1 cs_X12_242.2 rfl ⟨Nat.le_of_ble_eq_true rfl, Nat.le_of_ble_eq_true rfl⟩ (Nat.le_of_ble_eq_true rfl) rfl (t_isInI (lo := (1)) (hi := (5)) (fun c_117 => ?_) (fun c_117 => ?_))
            · refine ax_if_eq (tgt := 142) dX12_rule_120 (by decide) (fun z => absurd z (by decide)) (fun _ => ?_)
              refine ax_iload dX12_rule_123 rfl ?_
              refine ax_i2l dX12_rule_125 ?_
              refine ax_ldc2 dX12_rule_126 kc_X12_254 ?_
              refine ax_ldc2 dX12_rule_129 kc_X12_240 ?_
              refine ax_invS (n := 3) (As := [_, _, _]) dX12_rule_132 cb_X12_isIn cs_X12_242.1 cs_X12_242.2 rfl ⟨Nat.le_of_ble_eq_true rfl, Nat.le_of_ble_eq_true rfl⟩ (Nat.le_of_ble_eq_true rfl) rfl (t_isInI (lo := (-1)) (hi := (9)) (fun c_132 => ?_) (fun c_132 => ?_))
              · refine ax_if_eq (tgt := 142) dX12_rule_135 (by decide) (fun z => absurd z (by decide)) (fun _ => ?_)
                refine ax_iconst (v := 1) dX12_rule_138 (by decide) ?_
                refine ax_goto (tgt := 143) dX12_rule_139 (by decide) ?_
                refine ax_istore (lv' := [(12, _), (11, _), (10, _), (9, _), (8, _), (7, _), (0, _), (1, _), (2, _), (4, _), (5, _), (6, _)]) dX12_rule_143 (by decide) rfl ?_
                refine ax_iload dX12_rule_145 rfl ?_
                refine ax_if_eq (tgt := 218) dX12_rule_147 (by decide) (fun z => absurd z (by decide)) (fun _ => ?_)
                refine ax_iload dX12_rule_150 rfl ?_
                refine ax_iconst (v := 1) dX12_rule_152 (by decide) ?_
                refine ax_icmp_ne (tgt := 164) dX12_rule_153 (by decide) (fun c_153 => ?_) (fun c_153 => ?_)
                · refine ax_iload dX12_rule_164 rfl ?_
                  refine ax_iconst (v := 3) dX12_rule_166 (by decide) ?_
                  refine ax_icmp_ne (tgt := 183) dX12_rule_167 (by decide) (fun c_167 => ?_) (fun c_167 => ?_)
                  · refine ax_iload dX12_rule_183 rfl ?_
                    refine ax_bipush (v := 6) dX12_rule_185 (by decide) ?_
                    refine ax_icmp_ne (tgt := 214) dX12_rule_187 (by decide) (fun c_187 => ?_) (fun c_187 => ?_)
                    · refine ax_iconst (v := 1) dX12_rule_214 (by decide) ?_
                      refine ax_goto (tgt := 219) dX12_rule_215 (by decide) ?_
                      refine ax_istore (lv' := [(12, _), (11, _), (10, _), (9, _), (8, _), (7, _), (0, _), (1, _), (2, _), (4, _), (5, _), (6, _)]) dX12_rule_219 (by decide) rfl ?_
                      refine ax_iload dX12_rule_221 rfl ?_
                      refine ax_if_ne (tgt := 228) dX12_rule_223 (by decide) (fun _ => ?_) (fun z => absurd (by decide) z)
                      refine ax_aload_n (i := 0) dX12_rule_228 rfl rfl rfl ?_
                      refine ax_mS dX12_rule_229 fl_X12_234 rfl ?_
                      refine ax_bipush (v := 16) dX12_rule_232 (by decide) ?_
                      refine ax_icmp_ne (tgt := 240) dX12_rule_234 (by decide) (fun c_234 => ?_) (fun c_234 => ?_)
                      · refine ax_aload_n (i := 0) dX12_rule_240 rfl rfl rfl ?_
                        refine ax_mR hm dX12_rule_241 fl_X12_21 rfl (by decide) ?_
                        refine ax_aload_n (i := 0) dX12_rule_244 rfl rfl rfl ?_
                        refine ax_mS dX12_rule_245 fl_X12_234 rfl ?_
                        refine ax_iload dX12_rule_248 rfl ?_
                        refine ax_mPI hm dX12_rule_250 rfl (by decide) (vin_s hr c_234 rfl (by decide) (by decide)) ?_
                        refine ax_aload_n (i := 0) dX12_rule_251 rfl rfl rfl ?_
                        refine ax_mR hm dX12_rule_252 fl_X12_24 rfl (by decide) ?_
                        refine ax_aload_n (i := 0) dX12_rule_255 rfl rfl rfl ?_
                        refine ax_mS dX12_rule_256 fl_X12_234 rfl ?_
                        refine ax_iload dX12_rule_259 rfl ?_
                        refine ax_mPI hm dX12_rule_261 rfl (by decide) (vin_s hr c_234 rfl (by decide) (by decide)) ?_
                        refine ax_aload_n (i := 0) dX12_rule_262 rfl rfl rfl ?_
                        refine ax_mR hm dX12_rule_263 fl_X12_27 rfl (by decide) ?_
                        refine ax_aload_n (i := 0) dX12_rule_266 rfl rfl rfl ?_
                        refine ax_mS dX12_rule_267 fl_X12_234 rfl ?_
                        refine ax_lload_n (i := 2) dX12_rule_270 rfl rfl ?_
                        refine ax_mPJ hm dX12_rule_271 rfl (by decide) (vin_s hr c_234 rfl (by decide) (by decide)) ?_
                        refine ax_aload_n (i := 0) dX12_rule_272 rfl rfl rfl ?_
                        refine ax_mR hm dX12_rule_273 fl_X12_30 rfl (by decide) ?_
                        refine ax_aload_n (i := 0) dX12_rule_276 rfl rfl rfl ?_
                        refine ax_mS dX12_rule_277 fl_X12_234 rfl ?_
                        refine ax_iload dX12_rule_280 rfl ?_
                        refine ax_mPI hm dX12_rule_282 rfl (by decide) (vin_s hr c_234 rfl (by decide) (by decide)) ?_
                        refine ax_aload_n (i := 0) dX12_rule_283 rfl rfl rfl ?_
                        refine ax_mR hm dX12_rule_284 fl_X12_33 rfl (by decide) ?_
                        refine ax_aload_n (i := 0) dX12_rule_287 rfl rfl rfl ?_
                        refine ax_mS dX12_rule_288 fl_X12_234 rfl ?_
                        refine ax_iload dX12_rule_291 rfl ?_
                        refine ax_mPI hm dX12_rule_293 rfl (by decide) (vin_s hr c_234 rfl (by decide) (by decide)) ?_
                        refine ax_aload_n (i := 0) dX12_rule_294 rfl rfl rfl ?_
                        refine ax_mR hm dX12_rule_295 fl_X12_36 rfl (by decide) ?_
                        refine ax_aload_n (i := 0) dX12_rule_298 rfl rfl rfl ?_
                        refine ax_mS dX12_rule_299 fl_X12_234 rfl ?_
                        refine ax_iload dX12_rule_302 rfl ?_
                        refine ax_mPI hm dX12_rule_304 rfl (by decide) (vin_s hr c_234 rfl (by decide) (by decide)) ?_
                        refine ax_aload_n (i := 0) dX12_rule_305 rfl rfl rfl ?_
                        refine ax_mR hm dX12_rule_306 fl_X12_39 rfl (by decide) ?_
                        refine ax_aload_n (i := 0) dX12_rule_309 rfl rfl rfl ?_
                        refine ax_mS dX12_rule_310 fl_X12_234 rfl ?_
                        refine ax_iload dX12_rule_313 rfl ?_
                        refine ax_mPI hm dX12_rule_315 rfl (by decide) (vin_s hr c_234 rfl (by decide) (by decide)) ?_
                        refine ax_aload_n (i := 0) dX12_rule_316 rfl rfl rfl ?_
                        refine ax_mR hm dX12_rule_317 fl_X12_42 rfl (by decide) ?_
                        refine ax_aload_n (i := 0) dX12_rule_320 rfl rfl rfl ?_
                        refine ax_mS dX12_rule_321 fl_X12_234 rfl ?_
                        refine ax_iload dX12_rule_324 rfl ?_
                        refine ax_mPI hm dX12_rule_326 rfl (by decide) (vin_s hr c_234 rfl (by decide) (by decide)) ?_
                        refine ax_aload_n (i := 0) dX12_rule_327 rfl rfl rfl ?_
                        refine ax_mR hm dX12_rule_328 fl_X12_45 rfl (by decide) ?_
                        refine ax_aload_n (i := 0) dX12_rule_331 rfl rfl rfl ?_
                        refine ax_mS dX12_rule_332 fl_X12_234 rfl ?_
                        refine ax_aload_n (i := 0) dX12_rule_335 rfl rfl rfl ?_
                        refine ax_mS dX12_rule_336 fl_X12_262 rfl ?_
                        refine ax_iconst (v := 1) dX12_rule_339 (by decide) ?_
                        refine ax_iadd dX12_rule_340 ?_
                        refine ax_mPI hm dX12_rule_341 rfl (by decide) (vin_s hr c_234 rfl (by decide) (by decide)) ?_
                        refine ax_aload_n (i := 0) dX12_rule_342 rfl rfl rfl ?_
                        refine ax_dup dX12_rule_343 rfl ?_
                        refine ax_mS dX12_rule_344 fl_X12_234 rfl ?_
                        refine ax_iconst (v := 1) dX12_rule_347 (by decide) ?_
                        refine ax_iadd dX12_rule_348 ?_
                        refine ax_mPS dX12_rule_349 fl_X12_234 rfl rfl ?_
                        refine ax_aload_n (i := 0) dX12_rule_352 rfl rfl rfl ?_
                        refine ax_mS dX12_rule_353 fl_X12_234 rfl ?_
                        refine ax_iconst (v := 1) dX12_rule_356 (by decide) ?_
                        refine ax_isub dX12_rule_357 ?_
                        refine ax_iret dX12_rule_358 rfl rfl ?_
                        exact fin2 h ((if_neg (fun z => z ⟨Int32.not_lt.mp c_43, c_53, (by first | exact Or.inl c_62 | exact Or.inr (Or.inl c_68) | exact Or.inr (Or.inr c_78)), c_91, c_104, c_117, c_132, (by first | exact Or.inl c_153 | exact Or.inr (Int64.not_lt.mp (fun z => c_161 ((lg_cmp_gt _ _).mpr z)))), (by first | exact Or.inl c_167 | exact Or.inr c_177), (by first | exact Or.inl c_187 | exact Or.inr ⟨c_199, c_208⟩)⟩)).trans ((if_neg c_234).trans rfl))
                      · refine ax_bipush (v := -2) dX12_rule_237 (by decide) ?_
                        refine ax_iret dX12_rule_239 rfl rfl ?_
                        exact fin2 h ((if_neg (fun z => z ⟨Int32.not_lt.mp c_43, c_53, (by first | exact Or.inl c_62 | exact Or.inr (Or.inl c_68) | exact Or.inr (Or.inr c_78)), c_91, c_104, c_117, c_132, (by first | exact Or.inl c_153 | exact Or.inr (Int64.not_lt.mp (fun z => c_161 ((lg_cmp_gt _ _).mpr z)))), (by first | exact Or.inl c_167 | exact Or.inr c_177), (by first | exact Or.inl c_187 | exact Or.inr ⟨c_199, c_208⟩)⟩)).trans (if_pos (Classical.not_not.mp c_234)))
                    · refine ax_lload_n (i := 2) dX12_rule_190 rfl rfl ?_
                      refine ax_lconst (v := 0) dX12_rule_191 (by decide) ?_
                      refine ax_aload_n (i := 0) dX12_rule_192 rfl rfl rfl ?_
                      refine ax_mS dX12_rule_193 fl_X12_234 rfl ?_
                      refine ax_iconst (v := 1) dX12_rule_196 (by decide) ?_
                      refine ax_isub dX12_rule_197 ?_
                      refine ax_i2l dX12_rule_198 ?_
                      refine ax_invS (n := 3) (As := [_, _, _]) dX12_rule_199 cb_X12_isIn cs_X12_242.1 cs_X12_242.2 rfl ⟨Nat.le_of_ble_eq_true rfl, Nat.le_of_ble_eq_true rfl⟩ (Nat.le_of_ble_eq_true rfl) rfl (t_isIn (fun c_199 => ?_) (fun c_199 => ?_))
                      · refine ax_if_eq (tgt := 218) dX12_rule_202 (by decide) (fun z => absurd z (by decide)) (fun _ => ?_)
                        refine ax_aload_n (i := 0) dX12_rule_205 rfl rfl rfl ?_
                        refine ax_iload dX12_rule_206 rfl ?_
                        refine ax_invV (c := 13) (n := 1) (As := [_]) dX12_rule_208 cb_X12_isRule cv_X12_258.1 cv_X12_258.2.1 cv_X12_258.2.2 rfl (by decide) rfl ⟨Nat.le_of_ble_eq_true rfl, Nat.le_of_ble_eq_true rfl⟩ (Nat.le_of_ble_eq_true rfl) rfl (t_isRule (fun c_208 => ?_) (fun c_208 => ?_))
                        · refine ax_if_eq (tgt := 218) dX12_rule_211 (by decide) (fun z => absurd z (by decide)) (fun _ => ?_)
                          refine ax_iconst (v := 1) dX12_rule_214 (by decide) ?_
                          refine ax_goto (tgt := 219) dX12_rule_215 (by decide) ?_
                          refine ax_istore (lv' := [(12, _), (11, _), (10, _), (9, _), (8, _), (7, _), (0, _), (1, _), (2, _), (4, _), (5, _), (6, _)]) dX12_rule_219 (by decide) rfl ?_
                          refine ax_iload dX12_rule_221 rfl ?_
                          refine ax_if_ne (tgt := 228) dX12_rule_223 (by decide) (fun _ => ?_) (fun z => absurd (by decide) z)
                          refine ax_aload_n (i := 0) dX12_rule_228 rfl rfl rfl ?_
                          refine ax_mS dX12_rule_229 fl_X12_234 rfl ?_
                          refine ax_bipush (v := 16) dX12_rule_232 (by decide) ?_
                          refine ax_icmp_ne (tgt := 240) dX12_rule_234 (by decide) (fun c_234 => ?_) (fun c_234 => ?_)
                          · refine ax_aload_n (i := 0) dX12_rule_240 rfl rfl rfl ?_
                            refine ax_mR hm dX12_rule_241 fl_X12_21 rfl (by decide) ?_
                            refine ax_aload_n (i := 0) dX12_rule_244 rfl rfl rfl ?_
                            refine ax_mS dX12_rule_245 fl_X12_234 rfl ?_
                            refine ax_iload dX12_rule_248 rfl ?_
                            refine ax_mPI hm dX12_rule_250 rfl (by decide) (vin_s hr c_234 rfl (by decide) (by decide)) ?_
                            refine ax_aload_n (i := 0) dX12_rule_251 rfl rfl rfl ?_
                            refine ax_mR hm dX12_rule_252 fl_X12_24 rfl (by decide) ?_
                            refine ax_aload_n (i := 0) dX12_rule_255 rfl rfl rfl ?_
                            refine ax_mS dX12_rule_256 fl_X12_234 rfl ?_
                            refine ax_iload dX12_rule_259 rfl ?_
                            refine ax_mPI hm dX12_rule_261 rfl (by decide) (vin_s hr c_234 rfl (by decide) (by decide)) ?_
                            refine ax_aload_n (i := 0) dX12_rule_262 rfl rfl rfl ?_
                            refine ax_mR hm dX12_rule_263 fl_X12_27 rfl (by decide) ?_
                            refine ax_aload_n (i := 0) dX12_rule_266 rfl rfl rfl ?_
                            refine ax_mS dX12_rule_267 fl_X12_234 rfl ?_
                            refine ax_lload_n (i := 2) dX12_rule_270 rfl rfl ?_
                            refine ax_mPJ hm dX12_rule_271 rfl (by decide) (vin_s hr c_234 rfl (by decide) (by decide)) ?_
                            refine ax_aload_n (i := 0) dX12_rule_272 rfl rfl rfl ?_
                            refine ax_mR hm dX12_rule_273 fl_X12_30 rfl (by decide) ?_
                            refine ax_aload_n (i := 0) dX12_rule_276 rfl rfl rfl ?_
                            refine ax_mS dX12_rule_277 fl_X12_234 rfl ?_
                            refine ax_iload dX12_rule_280 rfl ?_
                            refine ax_mPI hm dX12_rule_282 rfl (by decide) (vin_s hr c_234 rfl (by decide) (by decide)) ?_
                            refine ax_aload_n (i := 0) dX12_rule_283 rfl rfl rfl ?_
                            refine ax_mR hm dX12_rule_284 fl_X12_33 rfl (by decide) ?_
                            refine ax_aload_n (i := 0) dX12_rule_287 rfl rfl rfl ?_
                            refine ax_mS dX12_rule_288 fl_X12_234 rfl ?_
                            refine ax_iload dX12_rule_291 rfl ?_
                            refine ax_mPI hm dX12_rule_293 rfl (by decide) (vin_s hr c_234 rfl (by decide) (by decide)) ?_
                            refine ax_aload_n (i := 0) dX12_rule_294 rfl rfl rfl ?_
                            refine ax_mR hm dX12_rule_295 fl_X12_36 rfl (by decide) ?_
                            refine ax_aload_n (i := 0) dX12_rule_298 rfl rfl rfl ?_
                            refine ax_mS dX12_rule_299 fl_X12_234 rfl ?_
                            refine ax_iload dX12_rule_302 rfl ?_
                            refine ax_mPI hm dX12_rule_304 rfl (by decide) (vin_s hr c_234 rfl (by decide) (by decide)) ?_
                            refine ax_aload_n (i := 0) dX12_rule_305 rfl rfl rfl ?_
                            refine ax_mR hm dX12_rule_306 fl_X12_39 rfl (by decide) ?_
                            refine ax_aload_n (i := 0) dX12_rule_309 rfl rfl rfl ?_
                            refine ax_mS dX12_rule_310 fl_X12_234 rfl ?_
                            refine ax_iload dX12_rule_313 rfl ?_
                            refine ax_mPI hm dX12_rule_315 rfl (by decide) (vin_s hr c_234 rfl (by decide) (by decide)) ?_
                            refine ax_aload_n (i := 0) dX12_rule_316 rfl rfl rfl ?_
                            refine ax_mR hm dX12_rule_317 fl_X12_42 rfl (by decide) ?_
                            refine ax_aload_n (i := 0) dX12_rule_320 rfl rfl rfl ?_
                            refine ax_mS dX12_rule_321 fl_X12_234 rfl ?_
                            refine ax_iload dX12_rule_324 rfl ?_
                            refine ax_mPI hm dX12_rule_326 rfl (by decide) (vin_s hr c_234 rfl (by decide) (by decide)) ?_
                            refine ax_aload_n (i := 0) dX12_rule_327 rfl rfl rfl ?_
                            refine ax_mR hm dX12_rule_328 fl_X12_45 rfl (by decide) ?_
                            refine ax_aload_n (i := 0) dX12_rule_331 rfl rfl rfl ?_
                            refine ax_mS dX12_rule_332 fl_X12_234 rfl ?_
                            refine ax_aload_n (i := 0) dX12_rule_335 rfl rfl rfl ?_
                            refine ax_mS dX12_rule_336 fl_X12_262 rfl ?_
                            refine ax_iconst (v := 1) dX12_rule_339 (by decide) ?_
                            refine ax_iadd dX12_rule_340 ?_
                            refine ax_mPI hm dX12_rule_341 rfl (by decide) (vin_s hr c_234 rfl (by decide) (by decide)) ?_
                            refine ax_aload_n (i := 0) dX12_rule_342 rfl rfl rfl ?_
                            refine ax_dup dX12_rule_343 rfl ?_
                            refine ax_mS dX12_rule_344 fl_X12_234 rfl ?_
                            refine ax_iconst (v := 1) dX12_rule_347 (by decide) ?_
                            refine ax_iadd dX12_rule_348 ?_
                            refine ax_mPS dX12_rule_349 fl_X12_234 rfl rfl ?_
                            refine ax_aload_n (i := 0) dX12_rule_352 rfl rfl rfl ?_
                            refine ax_mS dX12_rule_353 fl_X12_234 rfl ?_
                            refine ax_iconst (v := 1) dX12_rule_356 (by decide) ?_
                            refine ax_isub dX12_rule_357 ?_
                            refine ax_iret dX12_rule_358 rfl rfl ?_
                            exact fin2 h ((if_neg (fun z => z ⟨Int32.not_lt.mp c_43, c_53, (by first | exact Or.inl c_62 | exact Or.inr (Or.inl c_68) | exact Or.inr (Or.inr c_78)), c_91, c_104, c_117, c_132, (by first | exact Or.inl c_153 | exact Or.inr (Int64.not_lt.mp (fun z => c_161 ((lg_cmp_gt _ _).mpr z)))), (by first | exact Or.inl c_167 | exact Or.inr c_177), (by first | exact Or.inl c_187 | exact Or.inr ⟨c_199, c_208⟩)⟩)).trans ((if_neg c_234).trans rfl))
                          · refine ax_bipush (v := -2) dX12_rule_237 (by decide) ?_
                            refine ax_iret dX12_rule_239 rfl rfl ?_
                            exact fin2 h ((if_neg (fun z => z ⟨Int32.not_lt.mp c_43, c_53, (by first | exact Or.inl c_62 | exact Or.inr (Or.inl c_68) | exact Or.inr (Or.inr c_78)), c_91, c_104, c_117, c_132, (by first | exact Or.inl c_153 | exact Or.inr (Int64.not_lt.mp (fun z => c_161 ((lg_cmp_gt _ _).mpr z)))), (by first | exact Or.inl c_167 | exact Or.inr c_177), (by first | exact Or.inl c_187 | exact Or.inr ⟨c_199, c_208⟩)⟩)).trans (if_pos (Classical.not_not.mp c_234)))
                        · refine ax_if_eq (tgt := 218) dX12_rule_211 (by decide) (fun _ => ?_) (fun z => absurd (by decide) z)
                          refine ax_iconst (v := 0) dX12_rule_218 (by decide) ?_
                          refine ax_istore (lv' := [(12, _), (11, _), (10, _), (9, _), (8, _), (7, _), (0, _), (1, _), (2, _), (4, _), (5, _), (6, _)]) dX12_rule_219 (by decide) rfl ?_
                          refine ax_iload dX12_rule_221 rfl ?_
                          refine ax_if_ne (tgt := 228) dX12_rule_223 (by decide) (fun z => absurd z (by decide)) (fun _ => ?_)
                          refine ax_iconst (v := -1) dX12_rule_226 (by decide) ?_
                          refine ax_iret dX12_rule_227 rfl rfl ?_
                          exact fin2 h (if_pos (fun g => by
                              obtain ⟨g1, g2, g3, g4, g5, g6, g7, g8, g9, g10⟩ := g
                              first | exact absurd c_43 (Int32.not_lt.mpr g1) | exact c_53 g2 | exact g3.elim c_62 (fun z => z.elim c_68 c_78) | exact c_91 g4 | exact c_104 g5 | exact c_117 g6 | exact c_132 g7 | exact g8.elim c_153 (fun z => absurd z (Int64.not_le.mpr ((lg_cmp_gt _ _).mp c_161))) | exact g9.elim c_167 c_177 | exact g10.elim c_187 (fun z => c_199 z.1) | exact g10.elim c_187 (fun z => c_208 z.2)))
                      · refine ax_if_eq (tgt := 218) dX12_rule_202 (by decide) (fun _ => ?_) (fun z => absurd (by decide) z)
                        refine ax_iconst (v := 0) dX12_rule_218 (by decide) ?_
                        refine ax_istore (lv' := [(12, _), (11, _), (10, _), (9, _), (8, _), (7, _), (0, _), (1, _), (2, _), (4, _), (5, _), (6, _)]) dX12_rule_219 (by decide) rfl ?_
                        refine ax_iload dX12_rule_221 rfl ?_
                        refine ax_if_ne (tgt := 228) dX12_rule_223 (by decide) (fun z => absurd z (by decide)) (fun _ => ?_)
                        refine ax_iconst (v := -1) dX12_rule_226 (by decide) ?_
                        refine ax_iret dX12_rule_227 rfl rfl ?_
                        exact fin2 h (if_pos (fun g => by
                            obtain ⟨g1, g2, g3, g4, g5, g6, g7, g8, g9, g10⟩ := g
                            first | exact absurd c_43 (Int32.not_lt.mpr g1) | exact c_53 g2 | exact g3.elim c_62 (fun z => z.elim c_68 c_78) | exact c_91 g4 | exact c_104 g5 | exact c_117 g6 | exact c_132 g7 | exact g8.elim c_153 (fun z => absurd z (Int64.not_le.mpr ((lg_cmp_gt _ _).mp c_161))) | exact g9.elim c_167 c_177 | exact g10.elim c_187 (fun z => c_199 z.1) | exact g10.elim c_187 (fun z => c_208 z.2)))
                  · refine ax_iload dX12_rule_170 rfl ?_
                    refine ax_i2l dX12_rule_172 ?_
                    refine ax_lconst (v := 1) dX12_rule_173 (by decide) ?_
                    refine ax_ldc2 dX12_rule_174 kc_X12_256 ?_
                    refine ax_invS (n := 3) (As := [_, _, _]) dX12_rule_177 cb_X12_isIn cs_X12_242.1 cs_X12_242.2 rfl ⟨Nat.le_of_ble_eq_true rfl, Nat.le_of_ble_eq_true rfl⟩ (Nat.le_of_ble_eq_true rfl) rfl (t_isInI (lo := (1)) (hi := (100)) (fun c_177 => ?_) (fun c_177 => ?_))
                    · refine ax_if_eq (tgt := 218) dX12_rule_180 (by decide) (fun z => absurd z (by decide)) (fun _ => ?_)
                      refine ax_iload dX12_rule_183 rfl ?_
                      refine ax_bipush (v := 6) dX12_rule_185 (by decide) ?_
                      refine ax_icmp_ne (tgt := 214) dX12_rule_187 (by decide) (fun c_187 => ?_) (fun c_187 => ?_)
                      · refine ax_iconst (v := 1) dX12_rule_214 (by decide) ?_
                        refine ax_goto (tgt := 219) dX12_rule_215 (by decide) ?_
                        refine ax_istore (lv' := [(12, _), (11, _), (10, _), (9, _), (8, _), (7, _), (0, _), (1, _), (2, _), (4, _), (5, _), (6, _)]) dX12_rule_219 (by decide) rfl ?_
                        refine ax_iload dX12_rule_221 rfl ?_
                        refine ax_if_ne (tgt := 228) dX12_rule_223 (by decide) (fun _ => ?_) (fun z => absurd (by decide) z)
                        refine ax_aload_n (i := 0) dX12_rule_228 rfl rfl rfl ?_
                        refine ax_mS dX12_rule_229 fl_X12_234 rfl ?_
                        refine ax_bipush (v := 16) dX12_rule_232 (by decide) ?_
                        refine ax_icmp_ne (tgt := 240) dX12_rule_234 (by decide) (fun c_234 => ?_) (fun c_234 => ?_)
                        · refine ax_aload_n (i := 0) dX12_rule_240 rfl rfl rfl ?_
                          refine ax_mR hm dX12_rule_241 fl_X12_21 rfl (by decide) ?_
                          refine ax_aload_n (i := 0) dX12_rule_244 rfl rfl rfl ?_
                          refine ax_mS dX12_rule_245 fl_X12_234 rfl ?_
                          refine ax_iload dX12_rule_248 rfl ?_
                          refine ax_mPI hm dX12_rule_250 rfl (by decide) (vin_s hr c_234 rfl (by decide) (by decide)) ?_
                          refine ax_aload_n (i := 0) dX12_rule_251 rfl rfl rfl ?_
                          refine ax_mR hm dX12_rule_252 fl_X12_24 rfl (by decide) ?_
                          refine ax_aload_n (i := 0) dX12_rule_255 rfl rfl rfl ?_
                          refine ax_mS dX12_rule_256 fl_X12_234 rfl ?_
                          refine ax_iload dX12_rule_259 rfl ?_
                          refine ax_mPI hm dX12_rule_261 rfl (by decide) (vin_s hr c_234 rfl (by decide) (by decide)) ?_
                          refine ax_aload_n (i := 0) dX12_rule_262 rfl rfl rfl ?_
                          refine ax_mR hm dX12_rule_263 fl_X12_27 rfl (by decide) ?_
                          refine ax_aload_n (i := 0) dX12_rule_266 rfl rfl rfl ?_
                          refine ax_mS dX12_rule_267 fl_X12_234 rfl ?_
                          refine ax_lload_n (i := 2) dX12_rule_270 rfl rfl ?_
                          refine ax_mPJ hm dX12_rule_271 rfl (by decide) (vin_s hr c_234 rfl (by decide) (by decide)) ?_
                          refine ax_aload_n (i := 0) dX12_rule_272 rfl rfl rfl ?_
                          refine ax_mR hm dX12_rule_273 fl_X12_30 rfl (by decide) ?_
                          refine ax_aload_n (i := 0) dX12_rule_276 rfl rfl rfl ?_
                          refine ax_mS dX12_rule_277 fl_X12_234 rfl ?_
                          refine ax_iload dX12_rule_280 rfl ?_
                          refine ax_mPI hm dX12_rule_282 rfl (by decide) (vin_s hr c_234 rfl (by decide) (by decide)) ?_
                          refine ax_aload_n (i := 0) dX12_rule_283 rfl rfl rfl ?_
                          refine ax_mR hm dX12_rule_284 fl_X12_33 rfl (by decide) ?_
                          refine ax_aload_n (i := 0) dX12_rule_287 rfl rfl rfl ?_
                          refine ax_mS dX12_rule_288 fl_X12_234 rfl ?_
                          refine ax_iload dX12_rule_291 rfl ?_
                          refine ax_mPI hm dX12_rule_293 rfl (by decide) (vin_s hr c_234 rfl (by decide) (by decide)) ?_
                          refine ax_aload_n (i := 0) dX12_rule_294 rfl rfl rfl ?_
                          refine ax_mR hm dX12_rule_295 fl_X12_36 rfl (by decide) ?_
                          refine ax_aload_n (i := 0) dX12_rule_298 rfl rfl rfl ?_
                          refine ax_mS dX12_rule_299 fl_X12_234 rfl ?_
                          refine ax_iload dX12_rule_302 rfl ?_
                          refine ax_mPI hm dX12_rule_304 rfl (by decide) (vin_s hr c_234 rfl (by decide) (by decide)) ?_
                          refine ax_aload_n (i := 0) dX12_rule_305 rfl rfl rfl ?_
                          refine ax_mR hm dX12_rule_306 fl_X12_39 rfl (by decide) ?_
                          refine ax_aload_n (i := 0) dX12_rule_309 rfl rfl rfl ?_
                          refine ax_mS dX12_rule_310 fl_X12_234 rfl ?_
                          refine ax_iload dX12_rule_313 rfl ?_
                          refine ax_mPI hm dX12_rule_315 rfl (by decide) (vin_s hr c_234 rfl (by decide) (by decide)) ?_
                          refine ax_aload_n (i := 0) dX12_rule_316 rfl rfl rfl ?_
                          refine ax_mR hm dX12_rule_317 fl_X12_42 rfl (by decide) ?_
                          refine ax_aload_n (i := 0) dX12_rule_320 rfl rfl rfl ?_
                          refine ax_mS dX12_rule_321 fl_X12_234 rfl ?_
                          refine ax_iload dX12_rule_324 rfl ?_
                          refine ax_mPI hm dX12_rule_326 rfl (by decide) (vin_s hr c_234 rfl (by decide) (by decide)) ?_
                          refine ax_aload_n (i := 0) dX12_rule_327 rfl rfl rfl ?_
                          refine ax_mR hm dX12_rule_328 fl_X12_45 rfl (by decide) ?_
                          refine ax_aload_n (i := 0) dX12_rule_331 rfl rfl rfl ?_
                          refine ax_mS dX12_rule_332 fl_X12_234 rfl ?_
                          refine ax_aload_n (i := 0) dX12_rule_335 rfl rfl rfl ?_
                          refine ax_mS dX12_rule_336 fl_X12_262 rfl ?_
                          refine ax_iconst (v := 1) dX12_rule_339 (by decide) ?_
                          refine ax_iadd dX12_rule_340 ?_
                          refine ax_mPI hm dX12_rule_341 rfl (by decide) (vin_s hr c_234 rfl (by decide) (by decide)) ?_
                          refine ax_aload_n (i := 0) dX12_rule_342 rfl rfl rfl ?_
                          refine ax_dup dX12_rule_343 rfl ?_
                          refine ax_mS dX12_rule_344 fl_X12_234 rfl ?_
                          refine ax_iconst (v := 1) dX12_rule_347 (by decide) ?_
                          refine ax_iadd dX12_rule_348 ?_
                          refine ax_mPS dX12_rule_349 fl_X12_234 rfl rfl ?_
                          refine ax_aload_n (i := 0) dX12_rule_352 rfl rfl rfl ?_
                          refine ax_mS dX12_rule_353 fl_X12_234 rfl ?_
                          refine ax_iconst (v := 1) dX12_rule_356 (by decide) ?_
                          refine ax_isub dX12_rule_357 ?_
                          refine ax_iret dX12_rule_358 rfl rfl ?_
                          exact fin2 h ((if_neg (fun z => z ⟨Int32.not_lt.mp c_43, c_53, (by first | exact Or.inl c_62 | exact Or.inr (Or.inl c_68) | exact Or.inr (Or.inr c_78)), c_91, c_104, c_117, c_132, (by first | exact Or.inl c_153 | exact Or.inr (Int64.not_lt.mp (fun z => c_161 ((lg_cmp_gt _ _).mpr z)))), (by first | exact Or.inl c_167 | exact Or.inr c_177), (by first | exact Or.inl c_187 | exact Or.inr ⟨c_199, c_208⟩)⟩)).trans ((if_neg c_234).trans rfl))
                        · refine ax_bipush (v := -2) dX12_rule_237 (by decide) ?_
                          refine ax_iret dX12_rule_239 rfl rfl ?_
                          exact fin2 h ((if_neg (fun z => z ⟨Int32.not_lt.mp c_43, c_53, (by first | exact Or.inl c_62 | exact Or.inr (Or.inl c_68) | exact Or.inr (Or.inr c_78)), c_91, c_104, c_117, c_132, (by first | exact Or.inl c_153 | exact Or.inr (Int64.not_lt.mp (fun z => c_161 ((lg_cmp_gt _ _).mpr z)))), (by first | exact Or.inl c_167 | exact Or.inr c_177), (by first | exact Or.inl c_187 | exact Or.inr ⟨c_199, c_208⟩)⟩)).trans (if_pos (Classical.not_not.mp c_234)))
                      · refine ax_lload_n (i := 2) dX12_rule_190 rfl rfl ?_
                        refine ax_lconst (v := 0) dX12_rule_191 (by decide) ?_
                        refine ax_aload_n (i := 0) dX12_rule_192 rfl rfl rfl ?_
                        refine ax_mS dX12_rule_193 fl_X12_234 rfl ?_
                        refine ax_iconst (v := 1) dX12_rule_196 (by decide) ?_
                        refine ax_isub dX12_rule_197 ?_
                        refine ax_i2l dX12_rule_198 ?_
                        refine ax_invS (n := 3) (As := [_, _, _]) dX12_rule_199 cb_X12_isIn cs_X12_242.1 cs_X12_242.2 rfl ⟨Nat.le_of_ble_eq_true rfl, Nat.le_of_ble_eq_true rfl⟩ (Nat.le_of_ble_eq_true rfl) rfl (t_isIn (fun c_199 => ?_) (fun c_199 => ?_))
                        · refine ax_if_eq (tgt := 218) dX12_rule_202 (by decide) (fun z => absurd z (by decide)) (fun _ => ?_)
                          refine ax_aload_n (i := 0) dX12_rule_205 rfl rfl rfl ?_
                          refine ax_iload dX12_rule_206 rfl ?_
                          refine ax_invV (c := 13) (n := 1) (As := [_]) dX12_rule_208 cb_X12_isRule cv_X12_258.1 cv_X12_258.2.1 cv_X12_258.2.2 rfl (by decide) rfl ⟨Nat.le_of_ble_eq_true rfl, Nat.le_of_ble_eq_true rfl⟩ (Nat.le_of_ble_eq_true rfl) rfl (t_isRule (fun c_208 => ?_) (fun c_208 => ?_))
                          · refine ax_if_eq (tgt := 218) dX12_rule_211 (by decide) (fun z => absurd z (by decide)) (fun _ => ?_)
                            refine ax_iconst (v := 1) dX12_rule_214 (by decide) ?_
                            refine ax_goto (tgt := 219) dX12_rule_215 (by decide) ?_
                            refine ax_istore (lv' := [(12, _), (11, _), (10, _), (9, _), (8, _), (7, _), (0, _), (1, _), (2, _), (4, _), (5, _), (6, _)]) dX12_rule_219 (by decide) rfl ?_
                            refine ax_iload dX12_rule_221 rfl ?_
                            refine ax_if_ne (tgt := 228) dX12_rule_223 (by decide) (fun _ => ?_) (fun z => absurd (by decide) z)
                            refine ax_aload_n (i := 0) dX12_rule_228 rfl rfl rfl ?_
                            refine ax_mS dX12_rule_229 fl_X12_234 rfl ?_
                            refine ax_bipush (v := 16) dX12_rule_232 (by decide) ?_
                            refine ax_icmp_ne (tgt := 240) dX12_rule_234 (by decide) (fun c_234 => ?_) (fun c_234 => ?_)
                            · refine ax_aload_n (i := 0) dX12_rule_240 rfl rfl rfl ?_
                              refine ax_mR hm dX12_rule_241 fl_X12_21 rfl (by decide) ?_
                              refine ax_aload_n (i := 0) dX12_rule_244 rfl rfl rfl ?_
                              refine ax_mS dX12_rule_245 fl_X12_234 rfl ?_
                              refine ax_iload dX12_rule_248 rfl ?_
                              refine ax_mPI hm dX12_rule_250 rfl (by decide) (vin_s hr c_234 rfl (by decide) (by decide)) ?_
                              refine ax_aload_n (i := 0) dX12_rule_251 rfl rfl rfl ?_
                              refine ax_mR hm dX12_rule_252 fl_X12_24 rfl (by decide) ?_
                              refine ax_aload_n (i := 0) dX12_rule_255 rfl rfl rfl ?_
                              refine ax_mS dX12_rule_256 fl_X12_234 rfl ?_
                              refine ax_iload dX12_rule_259 rfl ?_
                              refine ax_mPI hm dX12_rule_261 rfl (by decide) (vin_s hr c_234 rfl (by decide) (by decide)) ?_
                              refine ax_aload_n (i := 0) dX12_rule_262 rfl rfl rfl ?_
                              refine ax_mR hm dX12_rule_263 fl_X12_27 rfl (by decide) ?_
                              refine ax_aload_n (i := 0) dX12_rule_266 rfl rfl rfl ?_
                              refine ax_mS dX12_rule_267 fl_X12_234 rfl ?_
                              refine ax_lload_n (i := 2) dX12_rule_270 rfl rfl ?_
                              refine ax_mPJ hm dX12_rule_271 rfl (by decide) (vin_s hr c_234 rfl (by decide) (by decide)) ?_
                              refine ax_aload_n (i := 0) dX12_rule_272 rfl rfl rfl ?_
                              refine ax_mR hm dX12_rule_273 fl_X12_30 rfl (by decide) ?_
                              refine ax_aload_n (i := 0) dX12_rule_276 rfl rfl rfl ?_
                              refine ax_mS dX12_rule_277 fl_X12_234 rfl ?_
                              refine ax_iload dX12_rule_280 rfl ?_
                              refine ax_mPI hm dX12_rule_282 rfl (by decide) (vin_s hr c_234 rfl (by decide) (by decide)) ?_
                              refine ax_aload_n (i := 0) dX12_rule_283 rfl rfl rfl ?_
                              refine ax_mR hm dX12_rule_284 fl_X12_33 rfl (by decide) ?_
                              refine ax_aload_n (i := 0) dX12_rule_287 rfl rfl rfl ?_
                              refine ax_mS dX12_rule_288 fl_X12_234 rfl ?_
                              refine ax_iload dX12_rule_291 rfl ?_
                              refine ax_mPI hm dX12_rule_293 rfl (by decide) (vin_s hr c_234 rfl (by decide) (by decide)) ?_
                              refine ax_aload_n (i := 0) dX12_rule_294 rfl rfl rfl ?_
                              refine ax_mR hm dX12_rule_295 fl_X12_36 rfl (by decide) ?_
                              refine ax_aload_n (i := 0) dX12_rule_298 rfl rfl rfl ?_
                              refine ax_mS dX12_rule_299 fl_X12_234 rfl ?_
                              refine ax_iload dX12_rule_302 rfl ?_
                              refine ax_mPI hm dX12_rule_304 rfl (by decide) (vin_s hr c_234 rfl (by decide) (by decide)) ?_
                              refine ax_aload_n (i := 0) dX12_rule_305 rfl rfl rfl ?_
                              refine ax_mR hm dX12_rule_306 fl_X12_39 rfl (by decide) ?_
                              refine ax_aload_n (i := 0) dX12_rule_309 rfl rfl rfl ?_
                              refine ax_mS dX12_rule_310 fl_X12_234 rfl ?_
                              refine ax_iload dX12_rule_313 rfl ?_
                              refine ax_mPI hm dX12_rule_315 rfl (by decide) (vin_s hr c_234 rfl (by decide) (by decide)) ?_
                              refine ax_aload_n (i := 0) dX12_rule_316 rfl rfl rfl ?_
                              refine ax_mR hm dX12_rule_317 fl_X12_42 rfl (by decide) ?_
                              refine ax_aload_n (i := 0) dX12_rule_320 rfl rfl rfl ?_
                              refine ax_mS dX12_rule_321 fl_X12_234 rfl ?_
                              refine ax_iload dX12_rule_324 rfl ?_
                              refine ax_mPI hm dX12_rule_326 rfl (by decide) (vin_s hr c_234 rfl (by decide) (by decide)) ?_
                              refine ax_aload_n (i := 0) dX12_rule_327 rfl rfl rfl ?_
                              refine ax_mR hm dX12_rule_328 fl_X12_45 rfl (by decide) ?_
                              refine ax_aload_n (i := 0) dX12_rule_331 rfl rfl rfl ?_
                              refine ax_mS dX12_rule_332 fl_X12_234 rfl ?_
                              refine ax_aload_n (i := 0) dX12_rule_335 rfl rfl rfl ?_
                              refine ax_mS dX12_rule_336 fl_X12_262 rfl ?_
                              refine ax_iconst (v := 1) dX12_rule_339 (by decide) ?_
                              refine ax_iadd dX12_rule_340 ?_
                              refine ax_mPI hm dX12_rule_341 rfl (by decide) (vin_s hr c_234 rfl (by decide) (by decide)) ?_
                              refine ax_aload_n (i := 0) dX12_rule_342 rfl rfl rfl ?_
                              refine ax_dup dX12_rule_343 rfl ?_
                              refine ax_mS dX12_rule_344 fl_X12_234 rfl ?_
                              refine ax_iconst (v := 1) dX12_rule_347 (by decide) ?_
                              refine ax_iadd dX12_rule_348 ?_
                              refine ax_mPS dX12_rule_349 fl_X12_234 rfl rfl ?_
                              refine ax_aload_n (i := 0) dX12_rule_352 rfl rfl rfl ?_
                              refine ax_mS dX12_rule_353 fl_X12_234 rfl ?_
                              refine ax_iconst (v := 1) dX12_rule_356 (by decide) ?_
                              refine ax_isub dX12_rule_357 ?_
                              refine ax_iret dX12_rule_358 rfl rfl ?_
                              exact fin2 h ((if_neg (fun z => z ⟨Int32.not_lt.mp c_43, c_53, (by first | exact Or.inl c_62 | exact Or.inr (Or.inl c_68) | exact Or.inr (Or.inr c_78)), c_91, c_104, c_117, c_132, (by first | exact Or.inl c_153 | exact Or.inr (Int64.not_lt.mp (fun z => c_161 ((lg_cmp_gt _ _).mpr z)))), (by first | exact Or.inl c_167 | exact Or.inr c_177), (by first | exact Or.inl c_187 | exact Or.inr ⟨c_199, c_208⟩)⟩)).trans ((if_neg c_234).trans rfl))
                            · refine ax_bipush (v := -2) dX12_rule_237 (by decide) ?_
                              refine ax_iret dX12_rule_239 rfl rfl ?_
                              exact fin2 h ((if_neg (fun z => z ⟨Int32.not_lt.mp c_43, c_53, (by first | exact Or.inl c_62 | exact Or.inr (Or.inl c_68) | exact Or.inr (Or.inr c_78)), c_91, c_104, c_117, c_132, (by first | exact Or.inl c_153 | exact Or.inr (Int64.not_lt.mp (fun z => c_161 ((lg_cmp_gt _ _).mpr z)))), (by first | exact Or.inl c_167 | exact Or.inr c_177), (by first | exact Or.inl c_187 | exact Or.inr ⟨c_199, c_208⟩)⟩)).trans (if_pos (Classical.not_not.mp c_234)))
                          · refine ax_if_eq (tgt := 218) dX12_rule_211 (by decide) (fun _ => ?_) (fun z => absurd (by decide) z)
                            refine ax_iconst (v := 0) dX12_rule_218 (by decide) ?_
                            refine ax_istore (lv' := [(12, _), (11, _), (10, _), (9, _), (8, _), (7, _), (0, _), (1, _), (2, _), (4, _), (5, _), (6, _)]) dX12_rule_219 (by decide) rfl ?_
                            refine ax_iload dX12_rule_221 rfl ?_
                            refine ax_if_ne (tgt := 228) dX12_rule_223 (by decide) (fun z => absurd z (by decide)) (fun _ => ?_)
                            refine ax_iconst (v := -1) dX12_rule_226 (by decide) ?_
                            refine ax_iret dX12_rule_227 rfl rfl ?_
                            exact fin2 h (if_pos (fun g => by
                                obtain ⟨g1, g2, g3, g4, g5, g6, g7, g8, g9, g10⟩ := g
                                first | exact absurd c_43 (Int32.not_lt.mpr g1) | exact c_53 g2 | exact g3.elim c_62 (fun z => z.elim c_68 c_78) | exact c_91 g4 | exact c_104 g5 | exact c_117 g6 | exact c_132 g7 | exact g8.elim c_153 (fun z => absurd z (Int64.not_le.mpr ((lg_cmp_gt _ _).mp c_161))) | exact g9.elim c_167 c_177 | exact g10.elim c_187 (fun z => c_199 z.1) | exact g10.elim c_187 (fun z => c_208 z.2)))
                        · refine ax_if_eq (tgt := 218) dX12_rule_202 (by decide) (fun _ => ?_) (fun z => absurd (by decide) z)
                          refine ax_iconst (v := 0) dX12_rule_218 (by decide) ?_
                          refine ax_istore (lv' := [(12, _), (11, _), (10, _), (9, _), (8, _), (7, _), (0, _), (1, _), (2, _), (4, _), (5, _), (6, _)]) dX12_rule_219 (by decide) rfl ?_
                          refine ax_iload dX12_rule_221 rfl ?_
                          refine ax_if_ne (tgt := 228) dX12_rule_223 (by decide) (fun z => absurd z (by decide)) (fun _ => ?_)
                          refine ax_iconst (v := -1) dX12_rule_226 (by decide) ?_
                          refine ax_iret dX12_rule_227 rfl rfl ?_
                          exact fin2 h (if_pos (fun g => by
                              obtain ⟨g1, g2, g3, g4, g5, g6, g7, g8, g9, g10⟩ := g
                              first | exact absurd c_43 (Int32.not_lt.mpr g1) | exact c_53 g2 | exact g3.elim c_62 (fun z => z.elim c_68 c_78) | exact c_91 g4 | exact c_104 g5 | exact c_117 g6 | exact c_132 g7 | exact g8.elim c_153 (fun z => absurd z (Int64.not_le.mpr ((lg_cmp_gt _ _).mp c_161))) | exact g9.elim c_167 c_177 | exact g10.elim c_187 (fun z => c_199 z.1) | exact g10.elim c_187 (fun z => c_208 z.2)))
                    · refine ax_if_eq (tgt := 218) dX12_rule_180 (by decide) (fun _ => ?_) (fun z => absurd (by decide) z)
                      refine ax_iconst (v := 0) dX12_rule_218 (by decide) ?_
                      refine ax_istore (lv' := [(12, _), (11, _), (10, _), (9, _), (8, _), (7, _), (0, _), (1, _), (2, _), (4, _), (5, _), (6, _)]) dX12_rule_219 (by decide) rfl ?_
                      refine ax_iload dX12_rule_221 rfl ?_
                      refine ax_if_ne (tgt := 228) dX12_rule_223 (by decide) (fun z => absurd z (by decide)) (fun _ => ?_)
                      refine ax_iconst (v := -1) dX12_rule_226 (by decide) ?_
                      refine ax_iret dX12_rule_227 rfl rfl ?_
                      exact fin2 h (if_pos (fun g => by
                          obtain ⟨g1, g2, g3, g4, g5, g6, g7, g8, g9, g10⟩ := g
                          first | exact absurd c_43 (Int32.not_lt.mpr g1) | exact c_53 g2 | exact g3.elim c_62 (fun z => z.elim c_68 c_78) | exact c_91 g4 | exact c_104 g5 | exact c_117 g6 | exact c_132 g7 | exact g8.elim c_153 (fun z => absurd z (Int64.not_le.mpr ((lg_cmp_gt _ _).mp c_161))) | exact g9.elim c_167 c_177 | exact g10.elim c_187 (fun z => c_199 z.1) | exact g10.elim c_187 (fun z => c_208 z.2)))
                · refine ax_iload dX12_rule_156 rfl ?_
                  refine ax_i2l dX12_rule_158 ?_
                  refine ax_lload_n (i := 2) dX12_rule_159 rfl rfl ?_
                  refine ax_lcmp dX12_rule_160 ?_
                  refine ax_if_gt (tgt := 218) dX12_rule_161 (by decide) (fun c_161 => ?_) (fun c_161 => ?_)
                  · refine ax_iconst (v := 0) dX12_rule_218 (by decide) ?_
                    refine ax_istore (lv' := [(12, _), (11, _), (10, _), (9, _), (8, _), (7, _), (0, _), (1, _), (2, _), (4, _), (5, _), (6, _)]) dX12_rule_219 (by decide) rfl ?_
                    refine ax_iload dX12_rule_221 rfl ?_
                    refine ax_if_ne (tgt := 228) dX12_rule_223 (by decide) (fun z => absurd z (by decide)) (fun _ => ?_)
                    refine ax_iconst (v := -1) dX12_rule_226 (by decide) ?_
                    refine ax_iret dX12_rule_227 rfl rfl ?_
                    exact fin2 h (if_pos (fun g => by
                        obtain ⟨g1, g2, g3, g4, g5, g6, g7, g8, g9, g10⟩ := g
                        first | exact absurd c_43 (Int32.not_lt.mpr g1) | exact c_53 g2 | exact g3.elim c_62 (fun z => z.elim c_68 c_78) | exact c_91 g4 | exact c_104 g5 | exact c_117 g6 | exact c_132 g7 | exact g8.elim c_153 (fun z => absurd z (Int64.not_le.mpr ((lg_cmp_gt _ _).mp c_161))) | exact g9.elim c_167 c_177 | exact g10.elim c_187 (fun z => c_199 z.1) | exact g10.elim c_187 (fun z => c_208 z.2)))
                  · refine ax_iload dX12_rule_164 rfl ?_
                    refine ax_iconst (v := 3) dX12_rule_166 (by decide) ?_
                    refine ax_icmp_ne (tgt := 183) dX12_rule_167 (by decide) (fun c_167 => ?_) (fun c_167 => ?_)
                    · refine ax_iload dX12_rule_183 rfl ?_
                      refine ax_bipush (v := 6) dX12_rule_185 (by decide) ?_
                      refine ax_icmp_ne (tgt := 214) dX12_rule_187 (by decide) (fun c_187 => ?_) (fun c_187 => ?_)
                      · refine ax_iconst (v := 1) dX12_rule_214 (by decide) ?_
                        refine ax_goto (tgt := 219) dX12_rule_215 (by decide) ?_
                        refine ax_istore (lv' := [(12, _), (11, _), (10, _), (9, _), (8, _), (7, _), (0, _), (1, _), (2, _), (4, _), (5, _), (6, _)]) dX12_rule_219 (by decide) rfl ?_
                        refine ax_iload dX12_rule_221 rfl ?_
                        refine ax_if_ne (tgt := 228) dX12_rule_223 (by decide) (fun _ => ?_) (fun z => absurd (by decide) z)
                        refine ax_aload_n (i := 0) dX12_rule_228 rfl rfl rfl ?_
                        refine ax_mS dX12_rule_229 fl_X12_234 rfl ?_
                        refine ax_bipush (v := 16) dX12_rule_232 (by decide) ?_
                        refine ax_icmp_ne (tgt := 240) dX12_rule_234 (by decide) (fun c_234 => ?_) (fun c_234 => ?_)
                        · refine ax_aload_n (i := 0) dX12_rule_240 rfl rfl rfl ?_
                          refine ax_mR hm dX12_rule_241 fl_X12_21 rfl (by decide) ?_
                          refine ax_aload_n (i := 0) dX12_rule_244 rfl rfl rfl ?_
                          refine ax_mS dX12_rule_245 fl_X12_234 rfl ?_
                          refine ax_iload dX12_rule_248 rfl ?_
                          refine ax_mPI hm dX12_rule_250 rfl (by decide) (vin_s hr c_234 rfl (by decide) (by decide)) ?_
                          refine ax_aload_n (i := 0) dX12_rule_251 rfl rfl rfl ?_
                          refine ax_mR hm dX12_rule_252 fl_X12_24 rfl (by decide) ?_
                          refine ax_aload_n (i := 0) dX12_rule_255 rfl rfl rfl ?_
                          refine ax_mS dX12_rule_256 fl_X12_234 rfl ?_
                          refine ax_iload dX12_rule_259 rfl ?_
                          refine ax_mPI hm dX12_rule_261 rfl (by decide) (vin_s hr c_234 rfl (by decide) (by decide)) ?_
                          refine ax_aload_n (i := 0) dX12_rule_262 rfl rfl rfl ?_
                          refine ax_mR hm dX12_rule_263 fl_X12_27 rfl (by decide) ?_
                          refine ax_aload_n (i := 0) dX12_rule_266 rfl rfl rfl ?_
                          refine ax_mS dX12_rule_267 fl_X12_234 rfl ?_
                          refine ax_lload_n (i := 2) dX12_rule_270 rfl rfl ?_
                          refine ax_mPJ hm dX12_rule_271 rfl (by decide) (vin_s hr c_234 rfl (by decide) (by decide)) ?_
                          refine ax_aload_n (i := 0) dX12_rule_272 rfl rfl rfl ?_
                          refine ax_mR hm dX12_rule_273 fl_X12_30 rfl (by decide) ?_
                          refine ax_aload_n (i := 0) dX12_rule_276 rfl rfl rfl ?_
                          refine ax_mS dX12_rule_277 fl_X12_234 rfl ?_
                          refine ax_iload dX12_rule_280 rfl ?_
                          refine ax_mPI hm dX12_rule_282 rfl (by decide) (vin_s hr c_234 rfl (by decide) (by decide)) ?_
                          refine ax_aload_n (i := 0) dX12_rule_283 rfl rfl rfl ?_
                          refine ax_mR hm dX12_rule_284 fl_X12_33 rfl (by decide) ?_
                          refine ax_aload_n (i := 0) dX12_rule_287 rfl rfl rfl ?_
                          refine ax_mS dX12_rule_288 fl_X12_234 rfl ?_
                          refine ax_iload dX12_rule_291 rfl ?_
                          refine ax_mPI hm dX12_rule_293 rfl (by decide) (vin_s hr c_234 rfl (by decide) (by decide)) ?_
                          refine ax_aload_n (i := 0) dX12_rule_294 rfl rfl rfl ?_
                          refine ax_mR hm dX12_rule_295 fl_X12_36 rfl (by decide) ?_
                          refine ax_aload_n (i := 0) dX12_rule_298 rfl rfl rfl ?_
                          refine ax_mS dX12_rule_299 fl_X12_234 rfl ?_
                          refine ax_iload dX12_rule_302 rfl ?_
                          refine ax_mPI hm dX12_rule_304 rfl (by decide) (vin_s hr c_234 rfl (by decide) (by decide)) ?_
                          refine ax_aload_n (i := 0) dX12_rule_305 rfl rfl rfl ?_
                          refine ax_mR hm dX12_rule_306 fl_X12_39 rfl (by decide) ?_
                          refine ax_aload_n (i := 0) dX12_rule_309 rfl rfl rfl ?_
                          refine ax_mS dX12_rule_310 fl_X12_234 rfl ?_
                          refine ax_iload dX12_rule_313 rfl ?_
                          refine ax_mPI hm dX12_rule_315 rfl (by decide) (vin_s hr c_234 rfl (by decide) (by decide)) ?_
                          refine ax_aload_n (i := 0) dX12_rule_316 rfl rfl rfl ?_
                          refine ax_mR hm dX12_rule_317 fl_X12_42 rfl (by decide) ?_
                          refine ax_aload_n (i := 0) dX12_rule_320 rfl rfl rfl ?_
                          refine ax_mS dX12_rule_321 fl_X12_234 rfl ?_
                          refine ax_iload dX12_rule_324 rfl ?_
                          refine ax_mPI hm dX12_rule_326 rfl (by decide) (vin_s hr c_234 rfl (by decide) (by decide)) ?_
                          refine ax_aload_n (i := 0) dX12_rule_327 rfl rfl rfl ?_
                          refine ax_mR hm dX12_rule_328 fl_X12_45 rfl (by decide) ?_
                          refine ax_aload_n (i := 0) dX12_rule_331 rfl rfl rfl ?_
                          refine ax_mS dX12_rule_332 fl_X12_234 rfl ?_
                          refine ax_aload_n (i := 0) dX12_rule_335 rfl rfl rfl ?_
                          refine ax_mS dX12_rule_336 fl_X12_262 rfl ?_
                          refine ax_iconst (v := 1) dX12_rule_339 (by decide) ?_
                          refine ax_iadd dX12_rule_340 ?_
                          refine ax_mPI hm dX12_rule_341 rfl (by decide) (vin_s hr c_234 rfl (by decide) (by decide)) ?_
                          refine ax_aload_n (i := 0) dX12_rule_342 rfl rfl rfl ?_
                          refine ax_dup dX12_rule_343 rfl ?_
                          refine ax_mS dX12_rule_344 fl_X12_234 rfl ?_
                          refine ax_iconst (v := 1) dX12_rule_347 (by decide) ?_
                          refine ax_iadd dX12_rule_348 ?_
                          refine ax_mPS dX12_rule_349 fl_X12_234 rfl rfl ?_
                          refine ax_aload_n (i := 0) dX12_rule_352 rfl rfl rfl ?_
                          refine ax_mS dX12_rule_353 fl_X12_234 rfl ?_
                          refine ax_iconst (v := 1) dX12_rule_356 (by decide) ?_
                          refine ax_isub dX12_rule_357 ?_
                          refine ax_iret dX12_rule_358 rfl rfl ?_
                          exact fin2 h ((if_neg (fun z => z ⟨Int32.not_lt.mp c_43, c_53, (by first | exact Or.inl c_62 | exact Or.inr (Or.inl c_68) | exact Or.inr (Or.inr c_78)), c_91, c_104, c_117, c_132, (by first | exact Or.inl c_153 | exact Or.inr (Int64.not_lt.mp (fun z => c_161 ((lg_cmp_gt _ _).mpr z)))), (by first | exact Or.inl c_167 | exact Or.inr c_177), (by first | exact Or.inl c_187 | exact Or.inr ⟨c_199, c_208⟩)⟩)).trans ((if_neg c_234).trans rfl))
                        · refine ax_bipush (v := -2) dX12_rule_237 (by decide) ?_
                          refine ax_iret dX12_rule_239 rfl rfl ?_
                          exact fin2 h ((if_neg (fun z => z ⟨Int32.not_lt.mp c_43, c_53, (by first | exact Or.inl c_62 | exact Or.inr (Or.inl c_68) | exact Or.inr (Or.inr c_78)), c_91, c_104, c_117, c_132, (by first | exact Or.inl c_153 | exact Or.inr (Int64.not_lt.mp (fun z => c_161 ((lg_cmp_gt _ _).mpr z)))), (by first | exact Or.inl c_167 | exact Or.inr c_177), (by first | exact Or.inl c_187 | exact Or.inr ⟨c_199, c_208⟩)⟩)).trans (if_pos (Classical.not_not.mp c_234)))
                      · refine ax_lload_n (i := 2) dX12_rule_190 rfl rfl ?_
                        refine ax_lconst (v := 0) dX12_rule_191 (by decide) ?_
                        refine ax_aload_n (i := 0) dX12_rule_192 rfl rfl rfl ?_
                        refine ax_mS dX12_rule_193 fl_X12_234 rfl ?_
                        refine ax_iconst (v := 1) dX12_rule_196 (by decide) ?_
                        refine ax_isub dX12_rule_197 ?_
                        refine ax_i2l dX12_rule_198 ?_
                        refine ax_invS (n := 3) (As := [_, _, _]) dX12_rule_199 cb_X12_isIn cs_X12_242.1 cs_X12_242.2 rfl ⟨Nat.le_of_ble_eq_true rfl, Nat.le_of_ble_eq_true rfl⟩ (Nat.le_of_ble_eq_true rfl) rfl (t_isIn (fun c_199 => ?_) (fun c_199 => ?_))
                        · refine ax_if_eq (tgt := 218) dX12_rule_202 (by decide) (fun z => absurd z (by decide)) (fun _ => ?_)
                          refine ax_aload_n (i := 0) dX12_rule_205 rfl rfl rfl ?_
                          refine ax_iload dX12_rule_206 rfl ?_
                          refine ax_invV (c := 13) (n := 1) (As := [_]) dX12_rule_208 cb_X12_isRule cv_X12_258.1 cv_X12_258.2.1 cv_X12_258.2.2 rfl (by decide) rfl ⟨Nat.le_of_ble_eq_true rfl, Nat.le_of_ble_eq_true rfl⟩ (Nat.le_of_ble_eq_true rfl) rfl (t_isRule (fun c_208 => ?_) (fun c_208 => ?_))
                          · refine ax_if_eq (tgt := 218) dX12_rule_211 (by decide) (fun z => absurd z (by decide)) (fun _ => ?_)
                            refine ax_iconst (v := 1) dX12_rule_214 (by decide) ?_
                            refine ax_goto (tgt := 219) dX12_rule_215 (by decide) ?_
                            refine ax_istore (lv' := [(12, _), (11, _), (10, _), (9, _), (8, _), (7, _), (0, _), (1, _), (2, _), (4, _), (5, _), (6, _)]) dX12_rule_219 (by decide) rfl ?_
                            refine ax_iload dX12_rule_221 rfl ?_
                            refine ax_if_ne (tgt := 228) dX12_rule_223 (by decide) (fun _ => ?_) (fun z => absurd (by decide) z)
                            refine ax_aload_n (i := 0) dX12_rule_228 rfl rfl rfl ?_
                            refine ax_mS dX12_rule_229 fl_X12_234 rfl ?_
                            refine ax_bipush (v := 16) dX12_rule_232 (by decide) ?_
                            refine ax_icmp_ne (tgt := 240) dX12_rule_234 (by decide) (fun c_234 => ?_) (fun c_234 => ?_)
                            · refine ax_aload_n (i := 0) dX12_rule_240 rfl rfl rfl ?_
                              refine ax_mR hm dX12_rule_241 fl_X12_21 rfl (by decide) ?_
                              refine ax_aload_n (i := 0) dX12_rule_244 rfl rfl rfl ?_
                              refine ax_mS dX12_rule_245 fl_X12_234 rfl ?_
                              refine ax_iload dX12_rule_248 rfl ?_
                              refine ax_mPI hm dX12_rule_250 rfl (by decide) (vin_s hr c_234 rfl (by decide) (by decide)) ?_
                              refine ax_aload_n (i := 0) dX12_rule_251 rfl rfl rfl ?_
                              refine ax_mR hm dX12_rule_252 fl_X12_24 rfl (by decide) ?_
                              refine ax_aload_n (i := 0) dX12_rule_255 rfl rfl rfl ?_
                              refine ax_mS dX12_rule_256 fl_X12_234 rfl ?_
                              refine ax_iload dX12_rule_259 rfl ?_
                              refine ax_mPI hm dX12_rule_261 rfl (by decide) (vin_s hr c_234 rfl (by decide) (by decide)) ?_
                              refine ax_aload_n (i := 0) dX12_rule_262 rfl rfl rfl ?_
                              refine ax_mR hm dX12_rule_263 fl_X12_27 rfl (by decide) ?_
                              refine ax_aload_n (i := 0) dX12_rule_266 rfl rfl rfl ?_
                              refine ax_mS dX12_rule_267 fl_X12_234 rfl ?_
                              refine ax_lload_n (i := 2) dX12_rule_270 rfl rfl ?_
                              refine ax_mPJ hm dX12_rule_271 rfl (by decide) (vin_s hr c_234 rfl (by decide) (by decide)) ?_
                              refine ax_aload_n (i := 0) dX12_rule_272 rfl rfl rfl ?_
                              refine ax_mR hm dX12_rule_273 fl_X12_30 rfl (by decide) ?_
                              refine ax_aload_n (i := 0) dX12_rule_276 rfl rfl rfl ?_
                              refine ax_mS dX12_rule_277 fl_X12_234 rfl ?_
                              refine ax_iload dX12_rule_280 rfl ?_
                              refine ax_mPI hm dX12_rule_282 rfl (by decide) (vin_s hr c_234 rfl (by decide) (by decide)) ?_
                              refine ax_aload_n (i := 0) dX12_rule_283 rfl rfl rfl ?_
                              refine ax_mR hm dX12_rule_284 fl_X12_33 rfl (by decide) ?_
                              refine ax_aload_n (i := 0) dX12_rule_287 rfl rfl rfl ?_
                              refine ax_mS dX12_rule_288 fl_X12_234 rfl ?_
                              refine ax_iload dX12_rule_291 rfl ?_
                              refine ax_mPI hm dX12_rule_293 rfl (by decide) (vin_s hr c_234 rfl (by decide) (by decide)) ?_
                              refine ax_aload_n (i := 0) dX12_rule_294 rfl rfl rfl ?_
                              refine ax_mR hm dX12_rule_295 fl_X12_36 rfl (by decide) ?_
                              refine ax_aload_n (i := 0) dX12_rule_298 rfl rfl rfl ?_
                              refine ax_mS dX12_rule_299 fl_X12_234 rfl ?_
                              refine ax_iload dX12_rule_302 rfl ?_
                              refine ax_mPI hm dX12_rule_304 rfl (by decide) (vin_s hr c_234 rfl (by decide) (by decide)) ?_
                              refine ax_aload_n (i := 0) dX12_rule_305 rfl rfl rfl ?_
                              refine ax_mR hm dX12_rule_306 fl_X12_39 rfl (by decide) ?_
                              refine ax_aload_n (i := 0) dX12_rule_309 rfl rfl rfl ?_
                              refine ax_mS dX12_rule_310 fl_X12_234 rfl ?_
                              refine ax_iload dX12_rule_313 rfl ?_
                              refine ax_mPI hm dX12_rule_315 rfl (by decide) (vin_s hr c_234 rfl (by decide) (by decide)) ?_
                              refine ax_aload_n (i := 0) dX12_rule_316 rfl rfl rfl ?_
                              refine ax_mR hm dX12_rule_317 fl_X12_42 rfl (by decide) ?_
                              refine ax_aload_n (i := 0) dX12_rule_320 rfl rfl rfl ?_
                              refine ax_mS dX12_rule_321 fl_X12_234 rfl ?_
                              refine ax_iload dX12_rule_324 rfl ?_
                              refine ax_mPI hm dX12_rule_326 rfl (by decide) (vin_s hr c_234 rfl (by decide) (by decide)) ?_
                              refine ax_aload_n (i := 0) dX12_rule_327 rfl rfl rfl ?_
                              refine ax_mR hm dX12_rule_328 fl_X12_45 rfl (by decide) ?_
                              refine ax_aload_n (i := 0) dX12_rule_331 rfl rfl rfl ?_
                              refine ax_mS dX12_rule_332 fl_X12_234 rfl ?_
                              refine ax_aload_n (i := 0) dX12_rule_335 rfl rfl rfl ?_
                              refine ax_mS dX12_rule_336 fl_X12_262 rfl ?_
                              refine ax_iconst (v := 1) dX12_rule_339 (by decide) ?_
                              refine ax_iadd dX12_rule_340 ?_
                              refine ax_mPI hm dX12_rule_341 rfl (by decide) (vin_s hr c_234 rfl (by decide) (by decide)) ?_
                              refine ax_aload_n (i := 0) dX12_rule_342 rfl rfl rfl ?_
                              refine ax_dup dX12_rule_343 rfl ?_
                              refine ax_mS dX12_rule_344 fl_X12_234 rfl ?_
                              refine ax_iconst (v := 1) dX12_rule_347 (by decide) ?_
                              refine ax_iadd dX12_rule_348 ?_
                              refine ax_mPS dX12_rule_349 fl_X12_234 rfl rfl ?_
                              refine ax_aload_n (i := 0) dX12_rule_352 rfl rfl rfl ?_
                              refine ax_mS dX12_rule_353 fl_X12_234 rfl ?_
                              refine ax_iconst (v := 1) dX12_rule_356 (by decide) ?_
                              refine ax_isub dX12_rule_357 ?_
                              refine ax_iret dX12_rule_358 rfl rfl ?_
                              exact fin2 h ((if_neg (fun z => z ⟨Int32.not_lt.mp c_43, c_53, (by first | exact Or.inl c_62 | exact Or.inr (Or.inl c_68) | exact Or.inr (Or.inr c_78)), c_91, c_104, c_117, c_132, (by first | exact Or.inl c_153 | exact Or.inr (Int64.not_lt.mp (fun z => c_161 ((lg_cmp_gt _ _).mpr z)))), (by first | exact Or.inl c_167 | exact Or.inr c_177), (by first | exact Or.inl c_187 | exact Or.inr ⟨c_199, c_208⟩)⟩)).trans ((if_neg c_234).trans rfl))
                            · refine ax_bipush (v := -2) dX12_rule_237 (by decide) ?_
                              refine ax_iret dX12_rule_239 rfl rfl ?_
                              exact fin2 h ((if_neg (fun z => z ⟨Int32.not_lt.mp c_43, c_53, (by first | exact Or.inl c_62 | exact Or.inr (Or.inl c_68) | exact Or.inr (Or.inr c_78)), c_91, c_104, c_117, c_132, (by first | exact Or.inl c_153 | exact Or.inr (Int64.not_lt.mp (fun z => c_161 ((lg_cmp_gt _ _).mpr z)))), (by first | exact Or.inl c_167 | exact Or.inr c_177), (by first | exact Or.inl c_187 | exact Or.inr ⟨c_199, c_208⟩)⟩)).trans (if_pos (Classical.not_not.mp c_234)))
                          · refine ax_if_eq (tgt := 218) dX12_rule_211 (by decide) (fun _ => ?_) (fun z => absurd (by decide) z)
                            refine ax_iconst (v := 0) dX12_rule_218 (by decide) ?_
                            refine ax_istore (lv' := [(12, _), (11, _), (10, _), (9, _), (8, _), (7, _), (0, _), (1, _), (2, _), (4, _), (5, _), (6, _)]) dX12_rule_219 (by decide) rfl ?_
                            refine ax_iload dX12_rule_221 rfl ?_
                            refine ax_if_ne (tgt := 228) dX12_rule_223 (by decide) (fun z => absurd z (by decide)) (fun _ => ?_)
                            refine ax_iconst (v := -1) dX12_rule_226 (by decide) ?_
                            refine ax_iret dX12_rule_227 rfl rfl ?_
                            exact fin2 h (if_pos (fun g => by
                                obtain ⟨g1, g2, g3, g4, g5, g6, g7, g8, g9, g10⟩ := g
                                first | exact absurd c_43 (Int32.not_lt.mpr g1) | exact c_53 g2 | exact g3.elim c_62 (fun z => z.elim c_68 c_78) | exact c_91 g4 | exact c_104 g5 | exact c_117 g6 | exact c_132 g7 | exact g8.elim c_153 (fun z => absurd z (Int64.not_le.mpr ((lg_cmp_gt _ _).mp c_161))) | exact g9.elim c_167 c_177 | exact g10.elim c_187 (fun z => c_199 z.1) | exact g10.elim c_187 (fun z => c_208 z.2)))
                        · refine ax_if_eq (tgt := 218) dX12_rule_202 (by decide) (fun _ => ?_) (fun z => absurd (by decide) z)
                          refine ax_iconst (v := 0) dX12_rule_218 (by decide) ?_
                          refine ax_istore (lv' := [(12, _), (11, _), (10, _), (9, _), (8, _), (7, _), (0, _), (1, _), (2, _), (4, _), (5, _), (6, _)]) dX12_rule_219 (by decide) rfl ?_
                          refine ax_iload dX12_rule_221 rfl ?_
                          refine ax_if_ne (tgt := 228) dX12_rule_223 (by decide) (fun z => absurd z (by decide)) (fun _ => ?_)
                          refine ax_iconst (v := -1) dX12_rule_226 (by decide) ?_
                          refine ax_iret dX12_rule_227 rfl rfl ?_
                          exact fin2 h (if_pos (fun g => by
                              obtain ⟨g1, g2, g3, g4, g5, g6, g7, g8, g9, g10⟩ := g
                              first | exact absurd c_43 (Int32.not_lt.mpr g1) | exact c_53 g2 | exact g3.elim c_62 (fun z => z.elim c_68 c_78) | exact c_91 g4 | exact c_104 g5 | exact c_117 g6 | exact c_132 g7 | exact g8.elim c_153 (fun z => absurd z (Int64.not_le.mpr ((lg_cmp_gt _ _).mp c_161))) | exact g9.elim c_167 c_177 | exact g10.elim c_187 (fun z => c_199 z.1) | exact g10.elim c_187 (fun z => c_208 z.2)))
                    · refine ax_iload dX12_rule_170 rfl ?_
                      refine ax_i2l dX12_rule_172 ?_
                      refine ax_lconst (v := 1) dX12_rule_173 (by decide) ?_
                      refine ax_ldc2 dX12_rule_174 kc_X12_256 ?_
                      refine ax_invS (n := 3) (As := [_, _, _]) dX12_rule_177 cb_X12_isIn cs_X12_242.1 cs_X12_242.2 rfl ⟨Nat.le_of_ble_eq_true rfl, Nat.le_of_ble_eq_true rfl⟩ (Nat.le_of_ble_eq_true rfl) rfl (t_isInI (lo := (1)) (hi := (100)) (fun c_177 => ?_) (fun c_177 => ?_))
                      · refine ax_if_eq (tgt := 218) dX12_rule_180 (by decide) (fun z => absurd z (by decide)) (fun _ => ?_)
                        refine ax_iload dX12_rule_183 rfl ?_
                        refine ax_bipush (v := 6) dX12_rule_185 (by decide) ?_
                        refine ax_icmp_ne (tgt := 214) dX12_rule_187 (by decide) (fun c_187 => ?_) (fun c_187 => ?_)
                        · refine ax_iconst (v := 1) dX12_rule_214 (by decide) ?_
                          refine ax_goto (tgt := 219) dX12_rule_215 (by decide) ?_
                          refine ax_istore (lv' := [(12, _), (11, _), (10, _), (9, _), (8, _), (7, _), (0, _), (1, _), (2, _), (4, _), (5, _), (6, _)]) dX12_rule_219 (by decide) rfl ?_
                          refine ax_iload dX12_rule_221 rfl ?_
                          refine ax_if_ne (tgt := 228) dX12_rule_223 (by decide) (fun _ => ?_) (fun z => absurd (by decide) z)
                          refine ax_aload_n (i := 0) dX12_rule_228 rfl rfl rfl ?_
                          refine ax_mS dX12_rule_229 fl_X12_234 rfl ?_
                          refine ax_bipush (v := 16) dX12_rule_232 (by decide) ?_
                          refine ax_icmp_ne (tgt := 240) dX12_rule_234 (by decide) (fun c_234 => ?_) (fun c_234 => ?_)
                          · refine ax_aload_n (i := 0) dX12_rule_240 rfl rfl rfl ?_
                            refine ax_mR hm dX12_rule_241 fl_X12_21 rfl (by decide) ?_
                            refine ax_aload_n (i := 0) dX12_rule_244 rfl rfl rfl ?_
                            refine ax_mS dX12_rule_245 fl_X12_234 rfl ?_
                            refine ax_iload dX12_rule_248 rfl ?_
                            refine ax_mPI hm dX12_rule_250 rfl (by decide) (vin_s hr c_234 rfl (by decide) (by decide)) ?_
                            refine ax_aload_n (i := 0) dX12_rule_251 rfl rfl rfl ?_
                            refine ax_mR hm dX12_rule_252 fl_X12_24 rfl (by decide) ?_
                            refine ax_aload_n (i := 0) dX12_rule_255 rfl rfl rfl ?_
                            refine ax_mS dX12_rule_256 fl_X12_234 rfl ?_
                            refine ax_iload dX12_rule_259 rfl ?_
                            refine ax_mPI hm dX12_rule_261 rfl (by decide) (vin_s hr c_234 rfl (by decide) (by decide)) ?_
                            refine ax_aload_n (i := 0) dX12_rule_262 rfl rfl rfl ?_
                            refine ax_mR hm dX12_rule_263 fl_X12_27 rfl (by decide) ?_
                            refine ax_aload_n (i := 0) dX12_rule_266 rfl rfl rfl ?_
                            refine ax_mS dX12_rule_267 fl_X12_234 rfl ?_
                            refine ax_lload_n (i := 2) dX12_rule_270 rfl rfl ?_
                            refine ax_mPJ hm dX12_rule_271 rfl (by decide) (vin_s hr c_234 rfl (by decide) (by decide)) ?_
                            refine ax_aload_n (i := 0) dX12_rule_272 rfl rfl rfl ?_
                            refine ax_mR hm dX12_rule_273 fl_X12_30 rfl (by decide) ?_
                            refine ax_aload_n (i := 0) dX12_rule_276 rfl rfl rfl ?_
                            refine ax_mS dX12_rule_277 fl_X12_234 rfl ?_
                            refine ax_iload dX12_rule_280 rfl ?_
                            refine ax_mPI hm dX12_rule_282 rfl (by decide) (vin_s hr c_234 rfl (by decide) (by decide)) ?_
                            refine ax_aload_n (i := 0) dX12_rule_283 rfl rfl rfl ?_
                            refine ax_mR hm dX12_rule_284 fl_X12_33 rfl (by decide) ?_
                            refine ax_aload_n (i := 0) dX12_rule_287 rfl rfl rfl ?_
                            refine ax_mS dX12_rule_288 fl_X12_234 rfl ?_
                            refine ax_iload dX12_rule_291 rfl ?_
                            refine ax_mPI hm dX12_rule_293 rfl (by decide) (vin_s hr c_234 rfl (by decide) (by decide)) ?_
                            refine ax_aload_n (i := 0) dX12_rule_294 rfl rfl rfl ?_
                            refine ax_mR hm dX12_rule_295 fl_X12_36 rfl (by decide) ?_
                            refine ax_aload_n (i := 0) dX12_rule_298 rfl rfl rfl ?_
                            refine ax_mS dX12_rule_299 fl_X12_234 rfl ?_
                            refine ax_iload dX12_rule_302 rfl ?_
                            refine ax_mPI hm dX12_rule_304 rfl (by decide) (vin_s hr c_234 rfl (by decide) (by decide)) ?_
                            refine ax_aload_n (i := 0) dX12_rule_305 rfl rfl rfl ?_
                            refine ax_mR hm dX12_rule_306 fl_X12_39 rfl (by decide) ?_
                            refine ax_aload_n (i := 0) dX12_rule_309 rfl rfl rfl ?_
                            refine ax_mS dX12_rule_310 fl_X12_234 rfl ?_
                            refine ax_iload dX12_rule_313 rfl ?_
                            refine ax_mPI hm dX12_rule_315 rfl (by decide) (vin_s hr c_234 rfl (by decide) (by decide)) ?_
                            refine ax_aload_n (i := 0) dX12_rule_316 rfl rfl rfl ?_
                            refine ax_mR hm dX12_rule_317 fl_X12_42 rfl (by decide) ?_
                            refine ax_aload_n (i := 0) dX12_rule_320 rfl rfl rfl ?_
                            refine ax_mS dX12_rule_321 fl_X12_234 rfl ?_
                            refine ax_iload dX12_rule_324 rfl ?_
                            refine ax_mPI hm dX12_rule_326 rfl (by decide) (vin_s hr c_234 rfl (by decide) (by decide)) ?_
                            refine ax_aload_n (i := 0) dX12_rule_327 rfl rfl rfl ?_
                            refine ax_mR hm dX12_rule_328 fl_X12_45 rfl (by decide) ?_
                            refine ax_aload_n (i := 0) dX12_rule_331 rfl rfl rfl ?_
                            refine ax_mS dX12_rule_332 fl_X12_234 rfl ?_
                            refine ax_aload_n (i := 0) dX12_rule_335 rfl rfl rfl ?_
                            refine ax_mS dX12_rule_336 fl_X12_262 rfl ?_
                            refine ax_iconst (v := 1) dX12_rule_339 (by decide) ?_
                            refine ax_iadd dX12_rule_340 ?_
                            refine ax_mPI hm dX12_rule_341 rfl (by decide) (vin_s hr c_234 rfl (by decide) (by decide)) ?_
                            refine ax_aload_n (i := 0) dX12_rule_342 rfl rfl rfl ?_
                            refine ax_dup dX12_rule_343 rfl ?_
                            refine ax_mS dX12_rule_344 fl_X12_234 rfl ?_
                            refine ax_iconst (v := 1) dX12_rule_347 (by decide) ?_
                            refine ax_iadd dX12_rule_348 ?_
                            refine ax_mPS dX12_rule_349 fl_X12_234 rfl rfl ?_
                            refine ax_aload_n (i := 0) dX12_rule_352 rfl rfl rfl ?_
                            refine ax_mS dX12_rule_353 fl_X12_234 rfl ?_
                            refine ax_iconst (v := 1) dX12_rule_356 (by decide) ?_
                            refine ax_isub dX12_rule_357 ?_
                            refine ax_iret dX12_rule_358 rfl rfl ?_
                            exact fin2 h ((if_neg (fun z => z ⟨Int32.not_lt.mp c_43, c_53, (by first | exact Or.inl c_62 | exact Or.inr (Or.inl c_68) | exact Or.inr (Or.inr c_78)), c_91, c_104, c_117, c_132, (by first | exact Or.inl c_153 | exact Or.inr (Int64.not_lt.mp (fun z => c_161 ((lg_cmp_gt _ _).mpr z)))), (by first | exact Or.inl c_167 | exact Or.inr c_177), (by first | exact Or.inl c_187 | exact Or.inr ⟨c_199, c_208⟩)⟩)).trans ((if_neg c_234).trans rfl))
                          · refine ax_bipush (v := -2) dX12_rule_237 (by decide) ?_
                            refine ax_iret dX12_rule_239 rfl rfl ?_
                            exact fin2 h ((if_neg (fun z => z ⟨Int32.not_lt.mp c_43, c_53, (by first | exact Or.inl c_62 | exact Or.inr (Or.inl c_68) | exact Or.inr (Or.inr c_78)), c_91, c_104, c_117, c_132, (by first | exact Or.inl c_153 | exact Or.inr (Int64.not_lt.mp (fun z => c_161 ((lg_cmp_gt _ _).mpr z)))), (by first | exact Or.inl c_167 | exact Or.inr c_177), (by first | exact Or.inl c_187 | exact Or.inr ⟨c_199, c_208⟩)⟩)).trans (if_pos (Classical.not_not.mp c_234)))
                        · refine ax_lload_n (i := 2) dX12_rule_190 rfl rfl ?_
                          refine ax_lconst (v := 0) dX12_rule_191 (by decide) ?_
                          refine ax_aload_n (i := 0) dX12_rule_192 rfl rfl rfl ?_
                          refine ax_mS dX12_rule_193 fl_X12_234 rfl ?_
                          refine ax_iconst (v := 1) dX12_rule_196 (by decide) ?_
                          refine ax_isub dX12_rule_197 ?_
                          refine ax_i2l dX12_rule_198 ?_
                          refine ax_invS (n := 3) (As := [_, _, _]) dX12_rule_199 cb_X12_isIn cs_X12_242.1 cs_X12_242.2 rfl ⟨Nat.le_of_ble_eq_true rfl, Nat.le_of_ble_eq_true rfl⟩ (Nat.le_of_ble_eq_true rfl) rfl (t_isIn (fun c_199 => ?_) (fun c_199 => ?_))
                          · refine ax_if_eq (tgt := 218) dX12_rule_202 (by decide) (fun z => absurd z (by decide)) (fun _ => ?_)
                            refine ax_aload_n (i := 0) dX12_rule_205 rfl rfl rfl ?_
                            refine ax_iload dX12_rule_206 rfl ?_
                            refine ax_invV (c := 13) (n := 1) (As := [_]) dX12_rule_208 cb_X12_isRule cv_X12_258.1 cv_X12_258.2.1 cv_X12_258.2.2 rfl (by decide) rfl ⟨Nat.le_of_ble_eq_true rfl, Nat.le_of_ble_eq_true rfl⟩ (Nat.le_of_ble_eq_true rfl) rfl (t_isRule (fun c_208 => ?_) (fun c_208 => ?_))
                            · refine ax_if_eq (tgt := 218) dX12_rule_211 (by decide) (fun z => absurd z (by decide)) (fun _ => ?_)
                              refine ax_iconst (v := 1) dX12_rule_214 (by decide) ?_
                              refine ax_goto (tgt := 219) dX12_rule_215 (by decide) ?_
                              refine ax_istore (lv' := [(12, _), (11, _), (10, _), (9, _), (8, _), (7, _), (0, _), (1, _), (2, _), (4, _), (5, _), (6, _)]) dX12_rule_219 (by decide) rfl ?_
                              refine ax_iload dX12_rule_221 rfl ?_
                              refine ax_if_ne (tgt := 228) dX12_rule_223 (by decide) (fun _ => ?_) (fun z => absurd (by decide) z)
                              refine ax_aload_n (i := 0) dX12_rule_228 rfl rfl rfl ?_
                              refine ax_mS dX12_rule_229 fl_X12_234 rfl ?_
                              refine ax_bipush (v := 16) dX12_rule_232 (by decide) ?_
                              refine ax_icmp_ne (tgt := 240) dX12_rule_234 (by decide) (fun c_234 => ?_) (fun c_234 => ?_)
                              · refine ax_aload_n (i := 0) dX12_rule_240 rfl rfl rfl ?_
                                refine ax_mR hm dX12_rule_241 fl_X12_21 rfl (by decide) ?_
                                refine ax_aload_n (i := 0) dX12_rule_244 rfl rfl rfl ?_
                                refine ax_mS dX12_rule_245 fl_X12_234 rfl ?_
                                refine ax_iload dX12_rule_248 rfl ?_
                                refine ax_mPI hm dX12_rule_250 rfl (by decide) (vin_s hr c_234 rfl (by decide) (by decide)) ?_
                                refine ax_aload_n (i := 0) dX12_rule_251 rfl rfl rfl ?_
                                refine ax_mR hm dX12_rule_252 fl_X12_24 rfl (by decide) ?_
                                refine ax_aload_n (i := 0) dX12_rule_255 rfl rfl rfl ?_
                                refine ax_mS dX12_rule_256 fl_X12_234 rfl ?_
                                refine ax_iload dX12_rule_259 rfl ?_
                                refine ax_mPI hm dX12_rule_261 rfl (by decide) (vin_s hr c_234 rfl (by decide) (by decide)) ?_
                                refine ax_aload_n (i := 0) dX12_rule_262 rfl rfl rfl ?_
                                refine ax_mR hm dX12_rule_263 fl_X12_27 rfl (by decide) ?_
                                refine ax_aload_n (i := 0) dX12_rule_266 rfl rfl rfl ?_
                                refine ax_mS dX12_rule_267 fl_X12_234 rfl ?_
                                refine ax_lload_n (i := 2) dX12_rule_270 rfl rfl ?_
                                refine ax_mPJ hm dX12_rule_271 rfl (by decide) (vin_s hr c_234 rfl (by decide) (by decide)) ?_
                                refine ax_aload_n (i := 0) dX12_rule_272 rfl rfl rfl ?_
                                refine ax_mR hm dX12_rule_273 fl_X12_30 rfl (by decide) ?_
                                refine ax_aload_n (i := 0) dX12_rule_276 rfl rfl rfl ?_
                                refine ax_mS dX12_rule_277 fl_X12_234 rfl ?_
                                refine ax_iload dX12_rule_280 rfl ?_
                                refine ax_mPI hm dX12_rule_282 rfl (by decide) (vin_s hr c_234 rfl (by decide) (by decide)) ?_
                                refine ax_aload_n (i := 0) dX12_rule_283 rfl rfl rfl ?_
                                refine ax_mR hm dX12_rule_284 fl_X12_33 rfl (by decide) ?_
                                refine ax_aload_n (i := 0) dX12_rule_287 rfl rfl rfl ?_
                                refine ax_mS dX12_rule_288 fl_X12_234 rfl ?_
                                refine ax_iload dX12_rule_291 rfl ?_
                                refine ax_mPI hm dX12_rule_293 rfl (by decide) (vin_s hr c_234 rfl (by decide) (by decide)) ?_
                                refine ax_aload_n (i := 0) dX12_rule_294 rfl rfl rfl ?_
                                refine ax_mR hm dX12_rule_295 fl_X12_36 rfl (by decide) ?_
                                refine ax_aload_n (i := 0) dX12_rule_298 rfl rfl rfl ?_
                                refine ax_mS dX12_rule_299 fl_X12_234 rfl ?_
                                refine ax_iload dX12_rule_302 rfl ?_
                                refine ax_mPI hm dX12_rule_304 rfl (by decide) (vin_s hr c_234 rfl (by decide) (by decide)) ?_
                                refine ax_aload_n (i := 0) dX12_rule_305 rfl rfl rfl ?_
                                refine ax_mR hm dX12_rule_306 fl_X12_39 rfl (by decide) ?_
                                refine ax_aload_n (i := 0) dX12_rule_309 rfl rfl rfl ?_
                                refine ax_mS dX12_rule_310 fl_X12_234 rfl ?_
                                refine ax_iload dX12_rule_313 rfl ?_
                                refine ax_mPI hm dX12_rule_315 rfl (by decide) (vin_s hr c_234 rfl (by decide) (by decide)) ?_
                                refine ax_aload_n (i := 0) dX12_rule_316 rfl rfl rfl ?_
                                refine ax_mR hm dX12_rule_317 fl_X12_42 rfl (by decide) ?_
                                refine ax_aload_n (i := 0) dX12_rule_320 rfl rfl rfl ?_
                                refine ax_mS dX12_rule_321 fl_X12_234 rfl ?_
                                refine ax_iload dX12_rule_324 rfl ?_
                                refine ax_mPI hm dX12_rule_326 rfl (by decide) (vin_s hr c_234 rfl (by decide) (by decide)) ?_
                                refine ax_aload_n (i := 0) dX12_rule_327 rfl rfl rfl ?_
                                refine ax_mR hm dX12_rule_328 fl_X12_45 rfl (by decide) ?_
                                refine ax_aload_n (i := 0) dX12_rule_331 rfl rfl rfl ?_
                                refine ax_mS dX12_rule_332 fl_X12_234 rfl ?_
                                refine ax_aload_n (i := 0) dX12_rule_335 rfl rfl rfl ?_
                                refine ax_mS dX12_rule_336 fl_X12_262 rfl ?_
                                refine ax_iconst (v := 1) dX12_rule_339 (by decide) ?_
                                refine ax_iadd dX12_rule_340 ?_
                                refine ax_mPI hm dX12_rule_341 rfl (by decide) (vin_s hr c_234 rfl (by decide) (by decide)) ?_
                                refine ax_aload_n (i := 0) dX12_rule_342 rfl rfl rfl ?_
                                refine ax_dup dX12_rule_343 rfl ?_
                                refine ax_mS dX12_rule_344 fl_X12_234 rfl ?_
                                refine ax_iconst (v := 1) dX12_rule_347 (by decide) ?_
                                refine ax_iadd dX12_rule_348 ?_
                                refine ax_mPS dX12_rule_349 fl_X12_234 rfl rfl ?_
                                refine ax_aload_n (i := 0) dX12_rule_352 rfl rfl rfl ?_
                                refine ax_mS dX12_rule_353 fl_X12_234 rfl ?_
                                refine ax_iconst (v := 1) dX12_rule_356 (by decide) ?_
                                refine ax_isub dX12_rule_357 ?_
                                refine ax_iret dX12_rule_358 rfl rfl ?_
                                exact fin2 h ((if_neg (fun z => z ⟨Int32.not_lt.mp c_43, c_53, (by first | exact Or.inl c_62 | exact Or.inr (Or.inl c_68) | exact Or.inr (Or.inr c_78)), c_91, c_104, c_117, c_132, (by first | exact Or.inl c_153 | exact Or.inr (Int64.not_lt.mp (fun z => c_161 ((lg_cmp_gt _ _).mpr z)))), (by first | exact Or.inl c_167 | exact Or.inr c_177), (by first | exact Or.inl c_187 | exact Or.inr ⟨c_199, c_208⟩)⟩)).trans ((if_neg c_234).trans rfl))
                              · refine ax_bipush (v := -2) dX12_rule_237 (by decide) ?_
                                refine ax_iret dX12_rule_239 rfl rfl ?_
                                exact fin2 h ((if_neg (fun z => z ⟨Int32.not_lt.mp c_43, c_53, (by first | exact Or.inl c_62 | exact Or.inr (Or.inl c_68) | exact Or.inr (Or.inr c_78)), c_91, c_104, c_117, c_132, (by first | exact Or.inl c_153 | exact Or.inr (Int64.not_lt.mp (fun z => c_161 ((lg_cmp_gt _ _).mpr z)))), (by first | exact Or.inl c_167 | exact Or.inr c_177), (by first | exact Or.inl c_187 | exact Or.inr ⟨c_199, c_208⟩)⟩)).trans (if_pos (Classical.not_not.mp c_234)))
                            · refine ax_if_eq (tgt := 218) dX12_rule_211 (by decide) (fun _ => ?_) (fun z => absurd (by decide) z)
                              refine ax_iconst (v := 0) dX12_rule_218 (by decide) ?_
                              refine ax_istore (lv' := [(12, _), (11, _), (10, _), (9, _), (8, _), (7, _), (0, _), (1, _), (2, _), (4, _), (5, _), (6, _)]) dX12_rule_219 (by decide) rfl ?_
                              refine ax_iload dX12_rule_221 rfl ?_
                              refine ax_if_ne (tgt := 228) dX12_rule_223 (by decide) (fun z => absurd z (by decide)) (fun _ => ?_)
                              refine ax_iconst (v := -1) dX12_rule_226 (by decide) ?_
                              refine ax_iret dX12_rule_227 rfl rfl ?_
                              exact fin2 h (if_pos (fun g => by
                                  obtain ⟨g1, g2, g3, g4, g5, g6, g7, g8, g9, g10⟩ := g
                                  first | exact absurd c_43 (Int32.not_lt.mpr g1) | exact c_53 g2 | exact g3.elim c_62 (fun z => z.elim c_68 c_78) | exact c_91 g4 | exact c_104 g5 | exact c_117 g6 | exact c_132 g7 | exact g8.elim c_153 (fun z => absurd z (Int64.not_le.mpr ((lg_cmp_gt _ _).mp c_161))) | exact g9.elim c_167 c_177 | exact g10.elim c_187 (fun z => c_199 z.1) | exact g10.elim c_187 (fun z => c_208 z.2)))
                          · refine ax_if_eq (tgt := 218) dX12_rule_202 (by decide) (fun _ => ?_) (fun z => absurd (by decide) z)
                            refine ax_iconst (v := 0) dX12_rule_218 (by decide) ?_
                            refine ax_istore (lv' := [(12, _), (11, _), (10, _), (9, _), (8, _), (7, _), (0, _), (1, _), (2, _), (4, _), (5, _), (6, _)]) dX12_rule_219 (by decide) rfl ?_
                            refine ax_iload dX12_rule_221 rfl ?_
                            refine ax_if_ne (tgt := 228) dX12_rule_223 (by decide) (fun z => absurd z (by decide)) (fun _ => ?_)
                            refine ax_iconst (v := -1) dX12_rule_226 (by decide) ?_
                            refine ax_iret dX12_rule_227 rfl rfl ?_
                            exact fin2 h (if_pos (fun g => by
                                obtain ⟨g1, g2, g3, g4, g5, g6, g7, g8, g9, g10⟩ := g
                                first | exact absurd c_43 (Int32.not_lt.mpr g1) | exact c_53 g2 | exact g3.elim c_62 (fun z => z.elim c_68 c_78) | exact c_91 g4 | exact c_104 g5 | exact c_117 g6 | exact c_132 g7 | exact g8.elim c_153 (fun z => absurd z (Int64.not_le.mpr ((lg_cmp_gt _ _).mp c_161))) | exact g9.elim c_167 c_177 | exact g10.elim c_187 (fun z => c_199 z.1) | exact g10.elim c_187 (fun z => c_208 z.2)))
                      · refine ax_if_eq (tgt := 218) dX12_rule_180 (by decide) (fun _ => ?_) (fun z => absurd (by decide) z)
                        refine ax_iconst (v := 0) dX12_rule_218 (by decide) ?_
                        refine ax_istore (lv' := [(12, _), (11, _), (10, _), (9, _), (8, _), (7, _), (0, _), (1, _), (2, _), (4, _), (5, _), (6, _)]) dX12_rule_219 (by decide) rfl ?_
                        refine ax_iload dX12_rule_221 rfl ?_
                        refine ax_if_ne (tgt := 228) dX12_rule_223 (by decide) (fun z => absurd z (by decide)) (fun _ => ?_)
                        refine ax_iconst (v := -1) dX12_rule_226 (by decide) ?_
                        refine ax_iret dX12_rule_227 rfl rfl ?_
                        exact fin2 h (if_pos (fun g => by
                            obtain ⟨g1, g2, g3, g4, g5, g6, g7, g8, g9, g10⟩ := g
                            first | exact absurd c_43 (Int32.not_lt.mpr g1) | exact c_53 g2 | exact g3.elim c_62 (fun z => z.elim c_68 c_78) | exact c_91 g4 | exact c_104 g5 | exact c_117 g6 | exact c_132 g7 | exact g8.elim c_153 (fun z => absurd z (Int64.not_le.mpr ((lg_cmp_gt _ _).mp c_161))) | exact g9.elim c_167 c_177 | exact g10.elim c_187 (fun z => c_199 z.1) | exact g10.elim c_187 (fun z => c_208 z.2)))
              · refine ax_if_eq (tgt := 142) dX12_rule_135 (by decide) (fun _ => ?_) (fun z => absurd (by decide) z)
                refine ax_iconst (v := 0) dX12_rule_142 (by decide) ?_
                refine ax_istore (lv' := [(12, _), (11, _), (10, _), (9, _), (8, _), (7, _), (0, _), (1, _), (2, _), (4, _), (5, _), (6, _)]) dX12_rule_143 (by decide) rfl ?_
                refine ax_iload dX12_rule_145 rfl ?_
                refine ax_if_eq (tgt := 218) dX12_rule_147 (by decide) (fun _ => ?_) (fun z => absurd (by decide) z)
                refine ax_iconst (v := 0) dX12_rule_218 (by decide) ?_
                refine ax_istore (lv' := [(12, _), (11, _), (10, _), (9, _), (8, _), (7, _), (0, _), (1, _), (2, _), (4, _), (5, _), (6, _)]) dX12_rule_219 (by decide) rfl ?_
                refine ax_iload dX12_rule_221 rfl ?_
                refine ax_if_ne (tgt := 228) dX12_rule_223 (by decide) (fun z => absurd z (by decide)) (fun _ => ?_)
                refine ax_iconst (v := -1) dX12_rule_226 (by decide) ?_
                refine ax_iret dX12_rule_227 rfl rfl ?_
                exact fin2 h (if_pos (fun g => by
                    obtain ⟨g1, g2, g3, g4, g5, g6, g7, g8, g9, g10⟩ := g
                    first | exact absurd c_43 (Int32.not_lt.mpr g1) | exact c_53 g2 | exact g3.elim c_62 (fun z => z.elim c_68 c_78) | exact c_91 g4 | exact c_104 g5 | exact c_117 g6 | exact c_132 g7 | exact g8.elim c_153 (fun z => absurd z (Int64.not_le.mpr ((lg_cmp_gt _ _).mp c_161))) | exact g9.elim c_167 c_177 | exact g10.elim c_187 (fun z => c_199 z.1) | exact g10.elim c_187 (fun z => c_208 z.2)))
            · refine ax_if_eq (tgt := 142) dX12_rule_120 (by decide) (fun _ => ?_) (fun z => absurd (by decide) z)
              refine ax_iconst (v := 0) dX12_rule_142 (by decide) ?_
              refine ax_istore (lv' := [(12, _), (11, _), (10, _), (9, _), (8, _), (7, _), (0, _), (1, _), (2, _), (4, _), (5, _), (6, _)]) dX12_rule_143 (by decide) rfl ?_
              refine ax_iload dX12_rule_145 rfl ?_
              refine ax_if_eq (tgt := 218) dX12_rule_147 (by decide) (fun _ => ?_) (fun z => absurd (by decide) z)
              refine ax_iconst (v := 0) dX12_rule_218 (by decide) ?_
              refine ax_istore (lv' := [(12, _), (11, _), (10, _), (9, _), (8, _), (7, _), (0, _), (1, _), (2, _), (4, _), (5, _), (6, _)]) dX12_rule_219 (by decide) rfl ?_
              refine ax_iload dX12_rule_221 rfl ?_
              refine ax_if_ne (tgt := 228) dX12_rule_223 (by decide) (fun z => absurd z (by decide)) (fun _ => ?_)
              refine ax_iconst (v := -1) dX12_rule_226 (by decide) ?_
              refine ax_iret dX12_rule_227 rfl rfl ?_
              exact fin2 h (if_pos (fun g => by
                  obtain ⟨g1, g2, g3, g4, g5, g6, g7, g8, g9, g10⟩ := g
                  first | exact absurd c_43 (Int32.not_lt.mpr g1) | exact c_53 g2 | exact g3.elim c_62 (fun z => z.elim c_68 c_78) | exact c_91 g4 | exact c_104 g5 | exact c_117 g6 | exact c_132 g7 | exact g8.elim c_153 (fun z => absurd z (Int64.not_le.mpr ((lg_cmp_gt _ _).mp c_161))) | exact g9.elim c_167 c_177 | exact g10.elim c_187 (fun z => c_199 z.1) | exact g10.elim c_187 (fun z => c_208 z.2)))
          · refine ax_if_eq (tgt := 142) dX12_rule_107 (by decide) (fun _ => ?_) (fun z => absurd (by decide) z)
            refine ax_iconst (v := 0) dX12_rule_142 (by decide) ?_
            refine ax_istore (lv' := [(12, _), (11, _), (10, _), (9, _), (8, _), (7, _), (0, _), (1, _), (2, _), (4, _), (5, _), (6, _)]) dX12_rule_143 (by decide) rfl ?_
            refine ax_iload dX12_rule_145 rfl ?_
            refine ax_if_eq (tgt := 218) dX12_rule_147 (by decide) (fun _ => ?_) (fun z => absurd (by decide) z)
            refine ax_iconst (v := 0) dX12_rule_218 (by decide) ?_
            refine ax_istore (lv' := [(12, _), (11, _), (10, _), (9, _), (8, _), (7, _), (0, _), (1, _), (2, _), (4, _), (5, _), (6, _)]) dX12_rule_219 (by decide) rfl ?_
            refine ax_iload dX12_rule_221 rfl ?_
            refine ax_if_ne (tgt := 228) dX12_rule_223 (by decide) (fun z => absurd z (by decide)) (fun _ => ?_)
            refine ax_iconst (v := -1) dX12_rule_226 (by decide) ?_
            refine ax_iret dX12_rule_227 rfl rfl ?_
            exact fin2 h (if_pos (fun g => by
                obtain ⟨g1, g2, g3, g4, g5, g6, g7, g8, g9, g10⟩ := g
                first | exact absurd c_43 (Int32.not_lt.mpr g1) | exact c_53 g2 | exact g3.elim c_62 (fun z => z.elim c_68 c_78) | exact c_91 g4 | exact c_104 g5 | exact c_117 g6 | exact c_132 g7 | exact g8.elim c_153 (fun z => absurd z (Int64.not_le.mpr ((lg_cmp_gt _ _).mp c_161))) | exact g9.elim c_167 c_177 | exact g10.elim c_187 (fun z => c_199 z.1) | exact g10.elim c_187 (fun z => c_208 z.2)))
        · refine ax_if_eq (tgt := 142) dX12_rule_94 (by decide) (fun _ => ?_) (fun z => absurd (by decide) z)
          refine ax_iconst (v := 0) dX12_rule_142 (by decide) ?_
          refine ax_istore (lv' := [(12, _), (11, _), (10, _), (9, _), (8, _), (7, _), (0, _), (1, _), (2, _), (4, _), (5, _), (6, _)]) dX12_rule_143 (by decide) rfl ?_
          refine ax_iload dX12_rule_145 rfl ?_
          refine ax_if_eq (tgt := 218) dX12_rule_147 (by decide) (fun _ => ?_) (fun z => absurd (by decide) z)
          refine ax_iconst (v := 0) dX12_rule_218 (by decide) ?_
          refine ax_istore (lv' := [(12, _), (11, _), (10, _), (9, _), (8, _), (7, _), (0, _), (1, _), (2, _), (4, _), (5, _), (6, _)]) dX12_rule_219 (by decide) rfl ?_
          refine ax_iload dX12_rule_221 rfl ?_
          refine ax_if_ne (tgt := 228) dX12_rule_223 (by decide) (fun z => absurd z (by decide)) (fun _ => ?_)
          refine ax_iconst (v := -1) dX12_rule_226 (by decide) ?_
          refine ax_iret dX12_rule_227 rfl rfl ?_
          exact fin2 h (if_pos (fun g => by
              obtain ⟨g1, g2, g3, g4, g5, g6, g7, g8, g9, g10⟩ := g
              first | exact absurd c_43 (Int32.not_lt.mpr g1) | exact c_53 g2 | exact g3.elim c_62 (fun z => z.elim c_68 c_78) | exact c_91 g4 | exact c_104 g5 | exact c_117 g6 | exact c_132 g7 | exact g8.elim c_153 (fun z => absurd z (Int64.not_le.mpr ((lg_cmp_gt _ _).mp c_161))) | exact g9.elim c_167 c_177 | exact g10.elim c_187 (fun z => c_199 z.1) | exact g10.elim c_187 (fun z => c_208 z.2)))
      · refine ax_iload dX12_rule_65 rfl ?_
        refine ax_iconst (v := 5) dX12_rule_67 (by decide) ?_
        refine ax_icmp_gt (tgt := 84) dX12_rule_68 (by decide) (fun c_68 => ?_) (fun c_68 => ?_)
        · refine ax_iload dX12_rule_84 rfl ?_
          refine ax_i2l dX12_rule_86 ?_
          refine ax_lconst (v := 1) dX12_rule_87 (by decide) ?_
          refine ax_ldc2 dX12_rule_88 kc_X12_250 ?_
          refine ax_invS (n := 3) (As := [_, _, _]) dX12_rule_91 cb_X12_isIn cs_X12_242.1 cs_X12_242.2 rfl ⟨Nat.le_of_ble_eq_true rfl, Nat.le_of_ble_eq_true rfl⟩ (Nat.le_of_ble_eq_true rfl) rfl (t_isInI (lo := (1)) (hi := (10)) (fun c_91 => ?_) (fun c_91 => ?_))
          · refine ax_if_eq (tgt := 142) dX12_rule_94 (by decide) (fun z => absurd z (by decide)) (fun _ => ?_)
            refine ax_iload dX12_rule_97 rfl ?_
            refine ax_i2l dX12_rule_99 ?_
            refine ax_lconst (v := 1) dX12_rule_100 (by decide) ?_
            refine ax_ldc2 dX12_rule_101 kc_X12_250 ?_
            refine ax_invS (n := 3) (As := [_, _, _]) dX12_rule_104 cb_X12_isIn cs_X12_242.1 cs_X12_242.2 rfl ⟨Nat.le_of_ble_eq_true rfl, Nat.le_of_ble_eq_true rfl⟩ (Nat.le_of_ble_eq_true rfl) rfl (t_isInI (lo := (1)) (hi := (10)) (fun c_104 => ?_) (fun c_104 => ?_))
            · refine ax_if_eq (tgt := 142) dX12_rule_107 (by decide) (fun z => absurd z (by decide)) (fun _ => ?_)
              refine ax_iload dX12_rule_110 rfl ?_
              refine ax_i2l dX12_rule_112 ?_
              refine ax_lconst (v := 1) dX12_rule_113 (by decide) ?_
              refine ax_ldc2 dX12_rule_114 kc_X12_252 ?_
              refine ax_invS (n := 3) (As := [_, _, _]) dX12_rule_117 cb_X12_isIn cs_X12_242.1 cs_X12_242.2 rfl ⟨Nat.le_of_ble_eq_true rfl, Nat.le_of_ble_eq_true rfl⟩ (Nat.le_of_ble_eq_true rfl) rfl (t_isInI (lo := (1)) (hi := (5)) (fun c_117 => ?_) (fun c_117 => ?_))
              · refine ax_if_eq (tgt := 142) dX12_rule_120 (by decide) (fun z => absurd z (by decide)) (fun _ => ?_)
                refine ax_iload dX12_rule_123 rfl ?_
                refine ax_i2l dX12_rule_125 ?_
                refine ax_ldc2 dX12_rule_126 kc_X12_254 ?_
                refine ax_ldc2 dX12_rule_129 kc_X12_240 ?_
                refine ax_invS (n := 3) (As := [_, _, _]) dX12_rule_132 cb_X12_isIn cs_X12_242.1 cs_X12_242.2 rfl ⟨Nat.le_of_ble_eq_true rfl, Nat.le_of_ble_eq_true rfl⟩ (Nat.le_of_ble_eq_true rfl) rfl (t_isInI (lo := (-1)) (hi := (9)) (fun c_132 => ?_) (fun c_132 => ?_))
                · refine ax_if_eq (tgt := 142) dX12_rule_135 (by decide) (fun z => absurd z (by decide)) (fun _ => ?_)
                  refine ax_iconst (v := 1) dX12_rule_138 (by decide) ?_
                  refine ax_goto (tgt := 143) dX12_rule_139 (by decide) ?_
                  refine ax_istore (lv' := [(12, _), (11, _), (10, _), (9, _), (8, _), (7, _), (0, _), (1, _), (2, _), (4, _), (5, _), (6, _)]) dX12_rule_143 (by decide) rfl ?_
                  refine ax_iload dX12_rule_145 rfl ?_
                  refine ax_if_eq (tgt := 218) dX12_rule_147 (by decide) (fun z => absurd z (by decide)) (fun _ => ?_)
                  refine ax_iload dX12_rule_150 rfl ?_
                  refine ax_iconst (v := 1) dX12_rule_152 (by decide) ?_
                  refine ax_icmp_ne (tgt := 164) dX12_rule_153 (by decide) (fun c_153 => ?_) (fun c_153 => ?_)
                  · refine ax_iload dX12_rule_164 rfl ?_
                    refine ax_iconst (v := 3) dX12_rule_166 (by decide) ?_
                    refine ax_icmp_ne (tgt := 183) dX12_rule_167 (by decide) (fun c_167 => ?_) (fun c_167 => ?_)
                    · refine ax_iload dX12_rule_183 rfl ?_
                      refine ax_bipush (v := 6) dX12_rule_185 (by decide) ?_
                      refine ax_icmp_ne (tgt := 214) dX12_rule_187 (by decide) (fun c_187 => ?_) (fun c_187 => ?_)
                      · refine ax_iconst (v := 1) dX12_rule_214 (by decide) ?_
                        refine ax_goto (tgt := 219) dX12_rule_215 (by decide) ?_
                        refine ax_istore (lv' := [(12, _), (11, _), (10, _), (9, _), (8, _), (7, _), (0, _), (1, _), (2, _), (4, _), (5, _), (6, _)]) dX12_rule_219 (by decide) rfl ?_
                        refine ax_iload dX12_rule_221 rfl ?_
                        refine ax_if_ne (tgt := 228) dX12_rule_223 (by decide) (fun _ => ?_) (fun z => absurd (by decide) z)
                        refine ax_aload_n (i := 0) dX12_rule_228 rfl rfl rfl ?_
                        refine ax_mS dX12_rule_229 fl_X12_234 rfl ?_
                        refine ax_bipush (v := 16) dX12_rule_232 (by decide) ?_
                        refine ax_icmp_ne (tgt := 240) dX12_rule_234 (by decide) (fun c_234 => ?_) (fun c_234 => ?_)
                        · refine ax_aload_n (i := 0) dX12_rule_240 rfl rfl rfl ?_
                          refine ax_mR hm dX12_rule_241 fl_X12_21 rfl (by decide) ?_
                          refine ax_aload_n (i := 0) dX12_rule_244 rfl rfl rfl ?_
                          refine ax_mS dX12_rule_245 fl_X12_234 rfl ?_
                          refine ax_iload dX12_rule_248 rfl ?_
                          refine ax_mPI hm dX12_rule_250 rfl (by decide) (vin_s hr c_234 rfl (by decide) (by decide)) ?_
                          refine ax_aload_n (i := 0) dX12_rule_251 rfl rfl rfl ?_
                          refine ax_mR hm dX12_rule_252 fl_X12_24 rfl (by decide) ?_
                          refine ax_aload_n (i := 0) dX12_rule_255 rfl rfl rfl ?_
                          refine ax_mS dX12_rule_256 fl_X12_234 rfl ?_
                          refine ax_iload dX12_rule_259 rfl ?_
                          refine ax_mPI hm dX12_rule_261 rfl (by decide) (vin_s hr c_234 rfl (by decide) (by decide)) ?_
                          refine ax_aload_n (i := 0) dX12_rule_262 rfl rfl rfl ?_
                          refine ax_mR hm dX12_rule_263 fl_X12_27 rfl (by decide) ?_
                          refine ax_aload_n (i := 0) dX12_rule_266 rfl rfl rfl ?_
                          refine ax_mS dX12_rule_267 fl_X12_234 rfl ?_
                          refine ax_lload_n (i := 2) dX12_rule_270 rfl rfl ?_
                          refine ax_mPJ hm dX12_rule_271 rfl (by decide) (vin_s hr c_234 rfl (by decide) (by decide)) ?_
                          refine ax_aload_n (i := 0) dX12_rule_272 rfl rfl rfl ?_
                          refine ax_mR hm dX12_rule_273 fl_X12_30 rfl (by decide) ?_
                          refine ax_aload_n (i := 0) dX12_rule_276 rfl rfl rfl ?_
                          refine ax_mS dX12_rule_277 fl_X12_234 rfl ?_
                          refine ax_iload dX12_rule_280 rfl ?_
                          refine ax_mPI hm dX12_rule_282 rfl (by decide) (vin_s hr c_234 rfl (by decide) (by decide)) ?_
                          refine ax_aload_n (i := 0) dX12_rule_283 rfl rfl rfl ?_
                          refine ax_mR hm dX12_rule_284 fl_X12_33 rfl (by decide) ?_
                          refine ax_aload_n (i := 0) dX12_rule_287 rfl rfl rfl ?_
                          refine ax_mS dX12_rule_288 fl_X12_234 rfl ?_
                          refine ax_iload dX12_rule_291 rfl ?_
                          refine ax_mPI hm dX12_rule_293 rfl (by decide) (vin_s hr c_234 rfl (by decide) (by decide)) ?_
                          refine ax_aload_n (i := 0) dX12_rule_294 rfl rfl rfl ?_
                          refine ax_mR hm dX12_rule_295 fl_X12_36 rfl (by decide) ?_
                          refine ax_aload_n (i := 0) dX12_rule_298 rfl rfl rfl ?_
                          refine ax_mS dX12_rule_299 fl_X12_234 rfl ?_
                          refine ax_iload dX12_rule_302 rfl ?_
                          refine ax_mPI hm dX12_rule_304 rfl (by decide) (vin_s hr c_234 rfl (by decide) (by decide)) ?_
                          refine ax_aload_n (i := 0) dX12_rule_305 rfl rfl rfl ?_
                          refine ax_mR hm dX12_rule_306 fl_X12_39 rfl (by decide) ?_
                          refine ax_aload_n (i := 0) dX12_rule_309 rfl rfl rfl ?_
                          refine ax_mS dX12_rule_310 fl_X12_234 rfl ?_
                          refine ax_iload dX12_rule_313 rfl ?_
                          refine ax_mPI hm dX12_rule_315 rfl (by decide) (vin_s hr c_234 rfl (by decide) (by decide)) ?_
                          refine ax_aload_n (i := 0) dX12_rule_316 rfl rfl rfl ?_
                          refine ax_mR hm dX12_rule_317 fl_X12_42 rfl (by decide) ?_
                          refine ax_aload_n (i := 0) dX12_rule_320 rfl rfl rfl ?_
                          refine ax_mS dX12_rule_321 fl_X12_234 rfl ?_
                          refine ax_iload dX12_rule_324 rfl ?_
                          refine ax_mPI hm dX12_rule_326 rfl (by decide) (vin_s hr c_234 rfl (by decide) (by decide)) ?_
                          refine ax_aload_n (i := 0) dX12_rule_327 rfl rfl rfl ?_
                          refine ax_mR hm dX12_rule_328 fl_X12_45 rfl (by decide) ?_
                          refine ax_aload_n (i := 0) dX12_rule_331 rfl rfl rfl ?_
                          refine ax_mS dX12_rule_332 fl_X12_234 rfl ?_
                          refine ax_aload_n (i := 0) dX12_rule_335 rfl rfl rfl ?_
                          refine ax_mS dX12_rule_336 fl_X12_262 rfl ?_
                          refine ax_iconst (v := 1) dX12_rule_339 (by decide) ?_
                          refine ax_iadd dX12_rule_340 ?_
                          refine ax_mPI hm dX12_rule_341 rfl (by decide) (vin_s hr c_234 rfl (by decide) (by decide)) ?_
                          refine ax_aload_n (i := 0) dX12_rule_342 rfl rfl rfl ?_
                          refine ax_dup dX12_rule_343 rfl ?_
                          refine ax_mS dX12_rule_344 fl_X12_234 rfl ?_
                          refine ax_iconst (v := 1) dX12_rule_347 (by decide) ?_
                          refine ax_iadd dX12_rule_348 ?_
                          refine ax_mPS dX12_rule_349 fl_X12_234 rfl rfl ?_
                          refine ax_aload_n (i := 0) dX12_rule_352 rfl rfl rfl ?_
                          refine ax_mS dX12_rule_353 fl_X12_234 rfl ?_
                          refine ax_iconst (v := 1) dX12_rule_356 (by decide) ?_
                          refine ax_isub dX12_rule_357 ?_
                          refine ax_iret dX12_rule_358 rfl rfl ?_
                          exact fin2 h ((if_neg (fun z => z ⟨Int32.not_lt.mp c_43, c_53, (by first | exact Or.inl c_62 | exact Or.inr (Or.inl c_68) | exact Or.inr (Or.inr c_78)), c_91, c_104, c_117, c_132, (by first | exact Or.inl c_153 | exact Or.inr (Int64.not_lt.mp (fun z => c_161 ((lg_cmp_gt _ _).mpr z)))), (by first | exact Or.inl c_167 | exact Or.inr c_177), (by first | exact Or.inl c_187 | exact Or.inr ⟨c_199, c_208⟩)⟩)).trans ((if_neg c_234).trans rfl))
                        · refine ax_bipush (v := -2) dX12_rule_237 (by decide) ?_
                          refine ax_iret dX12_rule_239 rfl rfl ?_
                          exact fin2 h ((if_neg (fun z => z ⟨Int32.not_lt.mp c_43, c_53, (by first | exact Or.inl c_62 | exact Or.inr (Or.inl c_68) | exact Or.inr (Or.inr c_78)), c_91, c_104, c_117, c_132, (by first | exact Or.inl c_153 | exact Or.inr (Int64.not_lt.mp (fun z => c_161 ((lg_cmp_gt _ _).mpr z)))), (by first | exact Or.inl c_167 | exact Or.inr c_177), (by first | exact Or.inl c_187 | exact Or.inr ⟨c_199, c_208⟩)⟩)).trans (if_pos (Classical.not_not.mp c_234)))
                      · refine ax_lload_n (i := 2) dX12_rule_190 rfl rfl ?_
                        refine ax_lconst (v := 0) dX12_rule_191 (by decide) ?_
                        refine ax_aload_n (i := 0) dX12_rule_192 rfl rfl rfl ?_
                        refine ax_mS dX12_rule_193 fl_X12_234 rfl ?_
                        refine ax_iconst (v := 1) dX12_rule_196 (by decide) ?_
                        refine ax_isub dX12_rule_197 ?_
                        refine ax_i2l dX12_rule_198 ?_
                        refine ax_invS (n := 3) (As := [_, _, _]) dX12_rule_199 cb_X12_isIn cs_X12_242.1 cs_X12_242.2 rfl ⟨Nat.le_of_ble_eq_true rfl, Nat.le_of_ble_eq_true rfl⟩ (Nat.le_of_ble_eq_true rfl) rfl (t_isIn (fun c_199 => ?_) (fun c_199 => ?_))
                        · refine ax_if_eq (tgt := 218) dX12_rule_202 (by decide) (fun z => absurd z (by decide)) (fun _ => ?_)
                          refine ax_aload_n (i := 0) dX12_rule_205 rfl rfl rfl ?_
                          refine ax_iload dX12_rule_206 rfl ?_
                          refine ax_invV (c := 13) (n := 1) (As := [_]) dX12_rule_208 cb_X12_isRule cv_X12_258.1 cv_X12_258.2.1 cv_X12_258.2.2 rfl (by decide) rfl ⟨Nat.le_of_ble_eq_true rfl, Nat.le_of_ble_eq_true rfl⟩ (Nat.le_of_ble_eq_true rfl) rfl (t_isRule (fun c_208 => ?_) (fun c_208 => ?_))
                          · refine ax_if_eq (tgt := 218) dX12_rule_211 (by decide) (fun z => absurd z (by decide)) (fun _ => ?_)
                            refine ax_iconst (v := 1) dX12_rule_214 (by decide) ?_
                            refine ax_goto (tgt := 219) dX12_rule_215 (by decide) ?_
                            refine ax_istore (lv' := [(12, _), (11, _), (10, _), (9, _), (8, _), (7, _), (0, _), (1, _), (2, _), (4, _), (5, _), (6, _)]) dX12_rule_219 (by decide) rfl ?_
                            refine ax_iload dX12_rule_221 rfl ?_
                            refine ax_if_ne (tgt := 228) dX12_rule_223 (by decide) (fun _ => ?_) (fun z => absurd (by decide) z)
                            refine ax_aload_n (i := 0) dX12_rule_228 rfl rfl rfl ?_
                            refine ax_mS dX12_rule_229 fl_X12_234 rfl ?_
                            refine ax_bipush (v := 16) dX12_rule_232 (by decide) ?_
                            refine ax_icmp_ne (tgt := 240) dX12_rule_234 (by decide) (fun c_234 => ?_) (fun c_234 => ?_)
                            · refine ax_aload_n (i := 0) dX12_rule_240 rfl rfl rfl ?_
                              refine ax_mR hm dX12_rule_241 fl_X12_21 rfl (by decide) ?_
                              refine ax_aload_n (i := 0) dX12_rule_244 rfl rfl rfl ?_
                              refine ax_mS dX12_rule_245 fl_X12_234 rfl ?_
                              refine ax_iload dX12_rule_248 rfl ?_
                              refine ax_mPI hm dX12_rule_250 rfl (by decide) (vin_s hr c_234 rfl (by decide) (by decide)) ?_
                              refine ax_aload_n (i := 0) dX12_rule_251 rfl rfl rfl ?_
                              refine ax_mR hm dX12_rule_252 fl_X12_24 rfl (by decide) ?_
                              refine ax_aload_n (i := 0) dX12_rule_255 rfl rfl rfl ?_
                              refine ax_mS dX12_rule_256 fl_X12_234 rfl ?_
                              refine ax_iload dX12_rule_259 rfl ?_
                              refine ax_mPI hm dX12_rule_261 rfl (by decide) (vin_s hr c_234 rfl (by decide) (by decide)) ?_
                              refine ax_aload_n (i := 0) dX12_rule_262 rfl rfl rfl ?_
                              refine ax_mR hm dX12_rule_263 fl_X12_27 rfl (by decide) ?_
                              refine ax_aload_n (i := 0) dX12_rule_266 rfl rfl rfl ?_
                              refine ax_mS dX12_rule_267 fl_X12_234 rfl ?_
                              refine ax_lload_n (i := 2) dX12_rule_270 rfl rfl ?_
                              refine ax_mPJ hm dX12_rule_271 rfl (by decide) (vin_s hr c_234 rfl (by decide) (by decide)) ?_
                              refine ax_aload_n (i := 0) dX12_rule_272 rfl rfl rfl ?_
                              refine ax_mR hm dX12_rule_273 fl_X12_30 rfl (by decide) ?_
                              refine ax_aload_n (i := 0) dX12_rule_276 rfl rfl rfl ?_
                              refine ax_mS dX12_rule_277 fl_X12_234 rfl ?_
                              refine ax_iload dX12_rule_280 rfl ?_
                              refine ax_mPI hm dX12_rule_282 rfl (by decide) (vin_s hr c_234 rfl (by decide) (by decide)) ?_
                              refine ax_aload_n (i := 0) dX12_rule_283 rfl rfl rfl ?_
                              refine ax_mR hm dX12_rule_284 fl_X12_33 rfl (by decide) ?_
                              refine ax_aload_n (i := 0) dX12_rule_287 rfl rfl rfl ?_
                              refine ax_mS dX12_rule_288 fl_X12_234 rfl ?_
                              refine ax_iload dX12_rule_291 rfl ?_
                              refine ax_mPI hm dX12_rule_293 rfl (by decide) (vin_s hr c_234 rfl (by decide) (by decide)) ?_
                              refine ax_aload_n (i := 0) dX12_rule_294 rfl rfl rfl ?_
                              refine ax_mR hm dX12_rule_295 fl_X12_36 rfl (by decide) ?_
                              refine ax_aload_n (i := 0) dX12_rule_298 rfl rfl rfl ?_
                              refine ax_mS dX12_rule_299 fl_X12_234 rfl ?_
                              refine ax_iload dX12_rule_302 rfl ?_
                              refine ax_mPI hm dX12_rule_304 rfl (by decide) (vin_s hr c_234 rfl (by decide) (by decide)) ?_
                              refine ax_aload_n (i := 0) dX12_rule_305 rfl rfl rfl ?_
                              refine ax_mR hm dX12_rule_306 fl_X12_39 rfl (by decide) ?_
                              refine ax_aload_n (i := 0) dX12_rule_309 rfl rfl rfl ?_
                              refine ax_mS dX12_rule_310 fl_X12_234 rfl ?_
                              refine ax_iload dX12_rule_313 rfl ?_
                              refine ax_mPI hm dX12_rule_315 rfl (by decide) (vin_s hr c_234 rfl (by decide) (by decide)) ?_
                              refine ax_aload_n (i := 0) dX12_rule_316 rfl rfl rfl ?_
                              refine ax_mR hm dX12_rule_317 fl_X12_42 rfl (by decide) ?_
                              refine ax_aload_n (i := 0) dX12_rule_320 rfl rfl rfl ?_
                              refine ax_mS dX12_rule_321 fl_X12_234 rfl ?_
                              refine ax_iload dX12_rule_324 rfl ?_
                              refine ax_mPI hm dX12_rule_326 rfl (by decide) (vin_s hr c_234 rfl (by decide) (by decide)) ?_
                              refine ax_aload_n (i := 0) dX12_rule_327 rfl rfl rfl ?_
                              refine ax_mR hm dX12_rule_328 fl_X12_45 rfl (by decide) ?_
                              refine ax_aload_n (i := 0) dX12_rule_331 rfl rfl rfl ?_
                              refine ax_mS dX12_rule_332 fl_X12_234 rfl ?_
                              refine ax_aload_n (i := 0) dX12_rule_335 rfl rfl rfl ?_
                              refine ax_mS dX12_rule_336 fl_X12_262 rfl ?_
                              refine ax_iconst (v := 1) dX12_rule_339 (by decide) ?_
                              refine ax_iadd dX12_rule_340 ?_
                              refine ax_mPI hm dX12_rule_341 rfl (by decide) (vin_s hr c_234 rfl (by decide) (by decide)) ?_
                              refine ax_aload_n (i := 0) dX12_rule_342 rfl rfl rfl ?_
                              refine ax_dup dX12_rule_343 rfl ?_
                              refine ax_mS dX12_rule_344 fl_X12_234 rfl ?_
                              refine ax_iconst (v := 1) dX12_rule_347 (by decide) ?_
                              refine ax_iadd dX12_rule_348 ?_
                              refine ax_mPS dX12_rule_349 fl_X12_234 rfl rfl ?_
                              refine ax_aload_n (i := 0) dX12_rule_352 rfl rfl rfl ?_
                              refine ax_mS dX12_rule_353 fl_X12_234 rfl ?_
                              refine ax_iconst (v := 1) dX12_rule_356 (by decide) ?_
                              refine ax_isub dX12_rule_357 ?_
                              refine ax_iret dX12_rule_358 rfl rfl ?_
                              exact fin2 h ((if_neg (fun z => z ⟨Int32.not_lt.mp c_43, c_53, (by first | exact Or.inl c_62 | exact Or.inr (Or.inl c_68) | exact Or.inr (Or.inr c_78)), c_91, c_104, c_117, c_132, (by first | exact Or.inl c_153 | exact Or.inr (Int64.not_lt.mp (fun z => c_161 ((lg_cmp_gt _ _).mpr z)))), (by first | exact Or.inl c_167 | exact Or.inr c_177), (by first | exact Or.inl c_187 | exact Or.inr ⟨c_199, c_208⟩)⟩)).trans ((if_neg c_234).trans rfl))
                            · refine ax_bipush (v := -2) dX12_rule_237 (by decide) ?_
                              refine ax_iret dX12_rule_239 rfl rfl ?_
                              exact fin2 h ((if_neg (fun z => z ⟨Int32.not_lt.mp c_43, c_53, (by first | exact Or.inl c_62 | exact Or.inr (Or.inl c_68) | exact Or.inr (Or.inr c_78)), c_91, c_104, c_117, c_132, (by first | exact Or.inl c_153 | exact Or.inr (Int64.not_lt.mp (fun z => c_161 ((lg_cmp_gt _ _).mpr z)))), (by first | exact Or.inl c_167 | exact Or.inr c_177), (by first | exact Or.inl c_187 | exact Or.inr ⟨c_199, c_208⟩)⟩)).trans (if_pos (Classical.not_not.mp c_234)))
                          · refine ax_if_eq (tgt := 218) dX12_rule_211 (by decide) (fun _ => ?_) (fun z => absurd (by decide) z)
                            refine ax_iconst (v := 0) dX12_rule_218 (by decide) ?_
                            refine ax_istore (lv' := [(12, _), (11, _), (10, _), (9, _), (8, _), (7, _), (0, _), (1, _), (2, _), (4, _), (5, _), (6, _)]) dX12_rule_219 (by decide) rfl ?_
                            refine ax_iload dX12_rule_221 rfl ?_
                            refine ax_if_ne (tgt := 228) dX12_rule_223 (by decide) (fun z => absurd z (by decide)) (fun _ => ?_)
                            refine ax_iconst (v := -1) dX12_rule_226 (by decide) ?_
                            refine ax_iret dX12_rule_227 rfl rfl ?_
                            exact fin2 h (if_pos (fun g => by
                                obtain ⟨g1, g2, g3, g4, g5, g6, g7, g8, g9, g10⟩ := g
                                first | exact absurd c_43 (Int32.not_lt.mpr g1) | exact c_53 g2 | exact g3.elim c_62 (fun z => z.elim c_68 c_78) | exact c_91 g4 | exact c_104 g5 | exact c_117 g6 | exact c_132 g7 | exact g8.elim c_153 (fun z => absurd z (Int64.not_le.mpr ((lg_cmp_gt _ _).mp c_161))) | exact g9.elim c_167 c_177 | exact g10.elim c_187 (fun z => c_199 z.1) | exact g10.elim c_187 (fun z => c_208 z.2)))
                        · refine ax_if_eq (tgt := 218) dX12_rule_202 (by decide) (fun _ => ?_) (fun z => absurd (by decide) z)
                          refine ax_iconst (v := 0) dX12_rule_218 (by decide) ?_
                          refine ax_istore (lv' := [(12, _), (11, _), (10, _), (9, _), (8, _), (7, _), (0, _), (1, _), (2, _), (4, _), (5, _), (6, _)]) dX12_rule_219 (by decide) rfl ?_
                          refine ax_iload dX12_rule_221 rfl ?_
                          refine ax_if_ne (tgt := 228) dX12_rule_223 (by decide) (fun z => absurd z (by decide)) (fun _ => ?_)
                          refine ax_iconst (v := -1) dX12_rule_226 (by decide) ?_
                          refine ax_iret dX12_rule_227 rfl rfl ?_
                          exact fin2 h (if_pos (fun g => by
                              obtain ⟨g1, g2, g3, g4, g5, g6, g7, g8, g9, g10⟩ := g
                              first | exact absurd c_43 (Int32.not_lt.mpr g1) | exact c_53 g2 | exact g3.elim c_62 (fun z => z.elim c_68 c_78) | exact c_91 g4 | exact c_104 g5 | exact c_117 g6 | exact c_132 g7 | exact g8.elim c_153 (fun z => absurd z (Int64.not_le.mpr ((lg_cmp_gt _ _).mp c_161))) | exact g9.elim c_167 c_177 | exact g10.elim c_187 (fun z => c_199 z.1) | exact g10.elim c_187 (fun z => c_208 z.2)))
                    · refine ax_iload dX12_rule_170 rfl ?_
                      refine ax_i2l dX12_rule_172 ?_
                      refine ax_lconst (v := 1) dX12_rule_173 (by decide) ?_
                      refine ax_ldc2 dX12_rule_174 kc_X12_256 ?_
                      refine ax_invS (n := 3) (As := [_, _, _]) dX12_rule_177 cb_X12_isIn cs_X12_242.1 cs_X12_242.2 rfl ⟨Nat.le_of_ble_eq_true rfl, Nat.le_of_ble_eq_true rfl⟩ (Nat.le_of_ble_eq_true rfl) rfl (t_isInI (lo := (1)) (hi := (100)) (fun c_177 => ?_) (fun c_177 => ?_))
                      · refine ax_if_eq (tgt := 218) dX12_rule_180 (by decide) (fun z => absurd z (by decide)) (fun _ => ?_)
                        refine ax_iload dX12_rule_183 rfl ?_
                        refine ax_bipush (v := 6) dX12_rule_185 (by decide) ?_
                        refine ax_icmp_ne (tgt := 214) dX12_rule_187 (by decide) (fun c_187 => ?_) (fun c_187 => ?_)
                        · refine ax_iconst (v := 1) dX12_rule_214 (by decide) ?_
                          refine ax_goto (tgt := 219) dX12_rule_215 (by decide) ?_
                          refine ax_istore (lv' := [(12, _), (11, _), (10, _), (9, _), (8, _), (7, _), (0, _), (1, _), (2, _), (4, _), (5, _), (6, _)]) dX12_rule_219 (by decide) rfl ?_
                          refine ax_iload dX12_rule_221 rfl ?_
                          refine ax_if_ne (tgt := 228) dX12_rule_223 (by decide) (fun _ => ?_) (fun z => absurd (by decide) z)
                          refine ax_aload_n (i := 0) dX12_rule_228 rfl rfl rfl ?_
                          refine ax_mS dX12_rule_229 fl_X12_234 rfl ?_
                          refine ax_bipush (v := 16) dX12_rule_232 (by decide) ?_
                          refine ax_icmp_ne (tgt := 240) dX12_rule_234 (by decide) (fun c_234 => ?_) (fun c_234 => ?_)
                          · refine ax_aload_n (i := 0) dX12_rule_240 rfl rfl rfl ?_
                            refine ax_mR hm dX12_rule_241 fl_X12_21 rfl (by decide) ?_
                            refine ax_aload_n (i := 0) dX12_rule_244 rfl rfl rfl ?_
                            refine ax_mS dX12_rule_245 fl_X12_234 rfl ?_
                            refine ax_iload dX12_rule_248 rfl ?_
                            refine ax_mPI hm dX12_rule_250 rfl (by decide) (vin_s hr c_234 rfl (by decide) (by decide)) ?_
                            refine ax_aload_n (i := 0) dX12_rule_251 rfl rfl rfl ?_
                            refine ax_mR hm dX12_rule_252 fl_X12_24 rfl (by decide) ?_
                            refine ax_aload_n (i := 0) dX12_rule_255 rfl rfl rfl ?_
                            refine ax_mS dX12_rule_256 fl_X12_234 rfl ?_
                            refine ax_iload dX12_rule_259 rfl ?_
                            refine ax_mPI hm dX12_rule_261 rfl (by decide) (vin_s hr c_234 rfl (by decide) (by decide)) ?_
                            refine ax_aload_n (i := 0) dX12_rule_262 rfl rfl rfl ?_
                            refine ax_mR hm dX12_rule_263 fl_X12_27 rfl (by decide) ?_
                            refine ax_aload_n (i := 0) dX12_rule_266 rfl rfl rfl ?_
                            refine ax_mS dX12_rule_267 fl_X12_234 rfl ?_
                            refine ax_lload_n (i := 2) dX12_rule_270 rfl rfl ?_
                            refine ax_mPJ hm dX12_rule_271 rfl (by decide) (vin_s hr c_234 rfl (by decide) (by decide)) ?_
                            refine ax_aload_n (i := 0) dX12_rule_272 rfl rfl rfl ?_
                            refine ax_mR hm dX12_rule_273 fl_X12_30 rfl (by decide) ?_
                            refine ax_aload_n (i := 0) dX12_rule_276 rfl rfl rfl ?_
                            refine ax_mS dX12_rule_277 fl_X12_234 rfl ?_
                            refine ax_iload dX12_rule_280 rfl ?_
                            refine ax_mPI hm dX12_rule_282 rfl (by decide) (vin_s hr c_234 rfl (by decide) (by decide)) ?_
                            refine ax_aload_n (i := 0) dX12_rule_283 rfl rfl rfl ?_
                            refine ax_mR hm dX12_rule_284 fl_X12_33 rfl (by decide) ?_
                            refine ax_aload_n (i := 0) dX12_rule_287 rfl rfl rfl ?_
                            refine ax_mS dX12_rule_288 fl_X12_234 rfl ?_
                            refine ax_iload dX12_rule_291 rfl ?_
                            refine ax_mPI hm dX12_rule_293 rfl (by decide) (vin_s hr c_234 rfl (by decide) (by decide)) ?_
                            refine ax_aload_n (i := 0) dX12_rule_294 rfl rfl rfl ?_
                            refine ax_mR hm dX12_rule_295 fl_X12_36 rfl (by decide) ?_
                            refine ax_aload_n (i := 0) dX12_rule_298 rfl rfl rfl ?_
                            refine ax_mS dX12_rule_299 fl_X12_234 rfl ?_
                            refine ax_iload dX12_rule_302 rfl ?_
                            refine ax_mPI hm dX12_rule_304 rfl (by decide) (vin_s hr c_234 rfl (by decide) (by decide)) ?_
                            refine ax_aload_n (i := 0) dX12_rule_305 rfl rfl rfl ?_
                            refine ax_mR hm dX12_rule_306 fl_X12_39 rfl (by decide) ?_
                            refine ax_aload_n (i := 0) dX12_rule_309 rfl rfl rfl ?_
                            refine ax_mS dX12_rule_310 fl_X12_234 rfl ?_
                            refine ax_iload dX12_rule_313 rfl ?_
                            refine ax_mPI hm dX12_rule_315 rfl (by decide) (vin_s hr c_234 rfl (by decide) (by decide)) ?_
                            refine ax_aload_n (i := 0) dX12_rule_316 rfl rfl rfl ?_
                            refine ax_mR hm dX12_rule_317 fl_X12_42 rfl (by decide) ?_
                            refine ax_aload_n (i := 0) dX12_rule_320 rfl rfl rfl ?_
                            refine ax_mS dX12_rule_321 fl_X12_234 rfl ?_
                            refine ax_iload dX12_rule_324 rfl ?_
                            refine ax_mPI hm dX12_rule_326 rfl (by decide) (vin_s hr c_234 rfl (by decide) (by decide)) ?_
                            refine ax_aload_n (i := 0) dX12_rule_327 rfl rfl rfl ?_
                            refine ax_mR hm dX12_rule_328 fl_X12_45 rfl (by decide) ?_
                            refine ax_aload_n (i := 0) dX12_rule_331 rfl rfl rfl ?_
                            refine ax_mS dX12_rule_332 fl_X12_234 rfl ?_
                            refine ax_aload_n (i := 0) dX12_rule_335 rfl rfl rfl ?_
                            refine ax_mS dX12_rule_336 fl_X12_262 rfl ?_
                            refine ax_iconst (v := 1) dX12_rule_339 (by decide) ?_
                            refine ax_iadd dX12_rule_340 ?_
                            refine ax_mPI hm dX12_rule_341 rfl (by decide) (vin_s hr c_234 rfl (by decide) (by decide)) ?_
                            refine ax_aload_n (i := 0) dX12_rule_342 rfl rfl rfl ?_
                            refine ax_dup dX12_rule_343 rfl ?_
                            refine ax_mS dX12_rule_344 fl_X12_234 rfl ?_
                            refine ax_iconst (v := 1) dX12_rule_347 (by decide) ?_
                            refine ax_iadd dX12_rule_348 ?_
                            refine ax_mPS dX12_rule_349 fl_X12_234 rfl rfl ?_
                            refine ax_aload_n (i := 0) dX12_rule_352 rfl rfl rfl ?_
                            refine ax_mS dX12_rule_353 fl_X12_234 rfl ?_
                            refine ax_iconst (v := 1) dX12_rule_356 (by decide) ?_
                            refine ax_isub dX12_rule_357 ?_
                            refine ax_iret dX12_rule_358 rfl rfl ?_
                            exact fin2 h ((if_neg (fun z => z ⟨Int32.not_lt.mp c_43, c_53, (by first | exact Or.inl c_62 | exact Or.inr (Or.inl c_68) | exact Or.inr (Or.inr c_78)), c_91, c_104, c_117, c_132, (by first | exact Or.inl c_153 | exact Or.inr (Int64.not_lt.mp (fun z => c_161 ((lg_cmp_gt _ _).mpr z)))), (by first | exact Or.inl c_167 | exact Or.inr c_177), (by first | exact Or.inl c_187 | exact Or.inr ⟨c_199, c_208⟩)⟩)).trans ((if_neg c_234).trans rfl))
                          · refine ax_bipush (v := -2) dX12_rule_237 (by decide) ?_
                            refine ax_iret dX12_rule_239 rfl rfl ?_
                            exact fin2 h ((if_neg (fun z => z ⟨Int32.not_lt.mp c_43, c_53, (by first | exact Or.inl c_62 | exact Or.inr (Or.inl c_68) | exact Or.inr (Or.inr c_78)), c_91, c_104, c_117, c_132, (by first | exact Or.inl c_153 | exact Or.inr (Int64.not_lt.mp (fun z => c_161 ((lg_cmp_gt _ _).mpr z)))), (by first | exact Or.inl c_167 | exact Or.inr c_177), (by first | exact Or.inl c_187 | exact Or.inr ⟨c_199, c_208⟩)⟩)).trans (if_pos (Classical.not_not.mp c_234)))
                        · refine ax_lload_n (i := 2) dX12_rule_190 rfl rfl ?_
                          refine ax_lconst (v := 0) dX12_rule_191 (by decide) ?_
                          refine ax_aload_n (i := 0) dX12_rule_192 rfl rfl rfl ?_
                          refine ax_mS dX12_rule_193 fl_X12_234 rfl ?_
                          refine ax_iconst (v := 1) dX12_rule_196 (by decide) ?_
                          refine ax_isub dX12_rule_197 ?_
                          refine ax_i2l dX12_rule_198 ?_
                          refine ax_invS (n := 3) (As := [_, _, _]) dX12_rule_199 cb_X12_isIn cs_X12_242.1 cs_X12_242.2 rfl ⟨Nat.le_of_ble_eq_true rfl, Nat.le_of_ble_eq_true rfl⟩ (Nat.le_of_ble_eq_true rfl) rfl (t_isIn (fun c_199 => ?_) (fun c_199 => ?_))
                          · refine ax_if_eq (tgt := 218) dX12_rule_202 (by decide) (fun z => absurd z (by decide)) (fun _ => ?_)
                            refine ax_aload_n (i := 0) dX12_rule_205 rfl rfl rfl ?_
                            refine ax_iload dX12_rule_206 rfl ?_
                            refine ax_invV (c := 13) (n := 1) (As := [_]) dX12_rule_208 cb_X12_isRule cv_X12_258.1 cv_X12_258.2.1 cv_X12_258.2.2 rfl (by decide) rfl ⟨Nat.le_of_ble_eq_true rfl, Nat.le_of_ble_eq_true rfl⟩ (Nat.le_of_ble_eq_true rfl) rfl (t_isRule (fun c_208 => ?_) (fun c_208 => ?_))
                            · refine ax_if_eq (tgt := 218) dX12_rule_211 (by decide) (fun z => absurd z (by decide)) (fun _ => ?_)
                              refine ax_iconst (v := 1) dX12_rule_214 (by decide) ?_
                              refine ax_goto (tgt := 219) dX12_rule_215 (by decide) ?_
                              refine ax_istore (lv' := [(12, _), (11, _), (10, _), (9, _), (8, _), (7, _), (0, _), (1, _), (2, _), (4, _), (5, _), (6, _)]) dX12_rule_219 (by decide) rfl ?_
                              refine ax_iload dX12_rule_221 rfl ?_
                              refine ax_if_ne (tgt := 228) dX12_rule_223 (by decide) (fun _ => ?_) (fun z => absurd (by decide) z)
                              refine ax_aload_n (i := 0) dX12_rule_228 rfl rfl rfl ?_
                              refine ax_mS dX12_rule_229 fl_X12_234 rfl ?_
                              refine ax_bipush (v := 16) dX12_rule_232 (by decide) ?_
                              refine ax_icmp_ne (tgt := 240) dX12_rule_234 (by decide) (fun c_234 => ?_) (fun c_234 => ?_)
                              · refine ax_aload_n (i := 0) dX12_rule_240 rfl rfl rfl ?_
                                refine ax_mR hm dX12_rule_241 fl_X12_21 rfl (by decide) ?_
                                refine ax_aload_n (i := 0) dX12_rule_244 rfl rfl rfl ?_
                                refine ax_mS dX12_rule_245 fl_X12_234 rfl ?_
                                refine ax_iload dX12_rule_248 rfl ?_
                                refine ax_mPI hm dX12_rule_250 rfl (by decide) (vin_s hr c_234 rfl (by decide) (by decide)) ?_
                                refine ax_aload_n (i := 0) dX12_rule_251 rfl rfl rfl ?_
                                refine ax_mR hm dX12_rule_252 fl_X12_24 rfl (by decide) ?_
                                refine ax_aload_n (i := 0) dX12_rule_255 rfl rfl rfl ?_
                                refine ax_mS dX12_rule_256 fl_X12_234 rfl ?_
                                refine ax_iload dX12_rule_259 rfl ?_
                                refine ax_mPI hm dX12_rule_261 rfl (by decide) (vin_s hr c_234 rfl (by decide) (by decide)) ?_
                                refine ax_aload_n (i := 0) dX12_rule_262 rfl rfl rfl ?_
                                refine ax_mR hm dX12_rule_263 fl_X12_27 rfl (by decide) ?_
                                refine ax_aload_n (i := 0) dX12_rule_266 rfl rfl rfl ?_
                                refine ax_mS dX12_rule_267 fl_X12_234 rfl ?_
                                refine ax_lload_n (i := 2) dX12_rule_270 rfl rfl ?_
                                refine ax_mPJ hm dX12_rule_271 rfl (by decide) (vin_s hr c_234 rfl (by decide) (by decide)) ?_
                                refine ax_aload_n (i := 0) dX12_rule_272 rfl rfl rfl ?_
                                refine ax_mR hm dX12_rule_273 fl_X12_30 rfl (by decide) ?_
                                refine ax_aload_n (i := 0) dX12_rule_276 rfl rfl rfl ?_
                                refine ax_mS dX12_rule_277 fl_X12_234 rfl ?_
                                refine ax_iload dX12_rule_280 rfl ?_
                                refine ax_mPI hm dX12_rule_282 rfl (by decide) (vin_s hr c_234 rfl (by decide) (by decide)) ?_
                                refine ax_aload_n (i := 0) dX12_rule_283 rfl rfl rfl ?_
                                refine ax_mR hm dX12_rule_284 fl_X12_33 rfl (by decide) ?_
                                refine ax_aload_n (i := 0) dX12_rule_287 rfl rfl rfl ?_
                                refine ax_mS dX12_rule_288 fl_X12_234 rfl ?_
                                refine ax_iload dX12_rule_291 rfl ?_
                                refine ax_mPI hm dX12_rule_293 rfl (by decide) (vin_s hr c_234 rfl (by decide) (by decide)) ?_
                                refine ax_aload_n (i := 0) dX12_rule_294 rfl rfl rfl ?_
                                refine ax_mR hm dX12_rule_295 fl_X12_36 rfl (by decide) ?_
                                refine ax_aload_n (i := 0) dX12_rule_298 rfl rfl rfl ?_
                                refine ax_mS dX12_rule_299 fl_X12_234 rfl ?_
                                refine ax_iload dX12_rule_302 rfl ?_
                                refine ax_mPI hm dX12_rule_304 rfl (by decide) (vin_s hr c_234 rfl (by decide) (by decide)) ?_
                                refine ax_aload_n (i := 0) dX12_rule_305 rfl rfl rfl ?_
                                refine ax_mR hm dX12_rule_306 fl_X12_39 rfl (by decide) ?_
                                refine ax_aload_n (i := 0) dX12_rule_309 rfl rfl rfl ?_
                                refine ax_mS dX12_rule_310 fl_X12_234 rfl ?_
                                refine ax_iload dX12_rule_313 rfl ?_
                                refine ax_mPI hm dX12_rule_315 rfl (by decide) (vin_s hr c_234 rfl (by decide) (by decide)) ?_
                                refine ax_aload_n (i := 0) dX12_rule_316 rfl rfl rfl ?_
                                refine ax_mR hm dX12_rule_317 fl_X12_42 rfl (by decide) ?_
                                refine ax_aload_n (i := 0) dX12_rule_320 rfl rfl rfl ?_
                                refine ax_mS dX12_rule_321 fl_X12_234 rfl ?_
                                refine ax_iload dX12_rule_324 rfl ?_
                                refine ax_mPI hm dX12_rule_326 rfl (by decide) (vin_s hr c_234 rfl (by decide) (by decide)) ?_
                                refine ax_aload_n (i := 0) dX12_rule_327 rfl rfl rfl ?_
                                refine ax_mR hm dX12_rule_328 fl_X12_45 rfl (by decide) ?_
                                refine ax_aload_n (i := 0) dX12_rule_331 rfl rfl rfl ?_
                                refine ax_mS dX12_rule_332 fl_X12_234 rfl ?_
                                refine ax_aload_n (i := 0) dX12_rule_335 rfl rfl rfl ?_
                                refine ax_mS dX12_rule_336 fl_X12_262 rfl ?_
                                refine ax_iconst (v := 1) dX12_rule_339 (by decide) ?_
                                refine ax_iadd dX12_rule_340 ?_
                                refine ax_mPI hm dX12_rule_341 rfl (by decide) (vin_s hr c_234 rfl (by decide) (by decide)) ?_
                                refine ax_aload_n (i := 0) dX12_rule_342 rfl rfl rfl ?_
                                refine ax_dup dX12_rule_343 rfl ?_
                                refine ax_mS dX12_rule_344 fl_X12_234 rfl ?_
                                refine ax_iconst (v := 1) dX12_rule_347 (by decide) ?_
                                refine ax_iadd dX12_rule_348 ?_
                                refine ax_mPS dX12_rule_349 fl_X12_234 rfl rfl ?_
                                refine ax_aload_n (i := 0) dX12_rule_352 rfl rfl rfl ?_
                                refine ax_mS dX12_rule_353 fl_X12_234 rfl ?_
                                refine ax_iconst (v := 1) dX12_rule_356 (by decide) ?_
                                refine ax_isub dX12_rule_357 ?_
                                refine ax_iret dX12_rule_358 rfl rfl ?_
                                exact fin2 h ((if_neg (fun z => z ⟨Int32.not_lt.mp c_43, c_53, (by first | exact Or.inl c_62 | exact Or.inr (Or.inl c_68) | exact Or.inr (Or.inr c_78)), c_91, c_104, c_117, c_132, (by first | exact Or.inl c_153 | exact Or.inr (Int64.not_lt.mp (fun z => c_161 ((lg_cmp_gt _ _).mpr z)))), (by first | exact Or.inl c_167 | exact Or.inr c_177), (by first | exact Or.inl c_187 | exact Or.inr ⟨c_199, c_208⟩)⟩)).trans ((if_neg c_234).trans rfl))
                              · refine ax_bipush (v := -2) dX12_rule_237 (by decide) ?_
                                refine ax_iret dX12_rule_239 rfl rfl ?_
                                exact fin2 h ((if_neg (fun z => z ⟨Int32.not_lt.mp c_43, c_53, (by first | exact Or.inl c_62 | exact Or.inr (Or.inl c_68) | exact Or.inr (Or.inr c_78)), c_91, c_104, c_117, c_132, (by first | exact Or.inl c_153 | exact Or.inr (Int64.not_lt.mp (fun z => c_161 ((lg_cmp_gt _ _).mpr z)))), (by first | exact Or.inl c_167 | exact Or.inr c_177), (by first | exact Or.inl c_187 | exact Or.inr ⟨c_199, c_208⟩)⟩)).trans (if_pos (Classical.not_not.mp c_234)))
                            · refine ax_if_eq (tgt := 218) dX12_rule_211 (by decide) (fun _ => ?_) (fun z => absurd (by decide) z)
                              refine ax_iconst (v := 0) dX12_rule_218 (by decide) ?_
                              refine ax_istore (lv' := [(12, _), (11, _), (10, _), (9, _), (8, _), (7, _), (0, _), (1, _), (2, _), (4, _), (5, _), (6, _)]) dX12_rule_219 (by decide) rfl ?_
                              refine ax_iload dX12_rule_221 rfl ?_
                              refine ax_if_ne (tgt := 228) dX12_rule_223 (by decide) (fun z => absurd z (by decide)) (fun _ => ?_)
                              refine ax_iconst (v := -1) dX12_rule_226 (by decide) ?_
                              refine ax_iret dX12_rule_227 rfl rfl ?_
                              exact fin2 h (if_pos (fun g => by
                                  obtain ⟨g1, g2, g3, g4, g5, g6, g7, g8, g9, g10⟩ := g
                                  first | exact absurd c_43 (Int32.not_lt.mpr g1) | exact c_53 g2 | exact g3.elim c_62 (fun z => z.elim c_68 c_78) | exact c_91 g4 | exact c_104 g5 | exact c_117 g6 | exact c_132 g7 | exact g8.elim c_153 (fun z => absurd z (Int64.not_le.mpr ((lg_cmp_gt _ _).mp c_161))) | exact g9.elim c_167 c_177 | exact g10.elim c_187 (fun z => c_199 z.1) | exact g10.elim c_187 (fun z => c_208 z.2)))
                          · refine ax_if_eq (tgt := 218) dX12_rule_202 (by decide) (fun _ => ?_) (fun z => absurd (by decide) z)
                            refine ax_iconst (v := 0) dX12_rule_218 (by decide) ?_
                            refine ax_istore (lv' := [(12, _), (11, _), (10, _), (9, _), (8, _), (7, _), (0, _), (1, _), (2, _), (4, _), (5, _), (6, _)]) dX12_rule_219 (by decide) rfl ?_
                            refine ax_iload dX12_rule_221 rfl ?_
                            refine ax_if_ne (tgt := 228) dX12_rule_223 (by decide) (fun z => absurd z (by decide)) (fun _ => ?_)
                            refine ax_iconst (v := -1) dX12_rule_226 (by decide) ?_
                            refine ax_iret dX12_rule_227 rfl rfl ?_
                            exact fin2 h (if_pos (fun g => by
                                obtain ⟨g1, g2, g3, g4, g5, g6, g7, g8, g9, g10⟩ := g
                                first | exact absurd c_43 (Int32.not_lt.mpr g1) | exact c_53 g2 | exact g3.elim c_62 (fun z => z.elim c_68 c_78) | exact c_91 g4 | exact c_104 g5 | exact c_117 g6 | exact c_132 g7 | exact g8.elim c_153 (fun z => absurd z (Int64.not_le.mpr ((lg_cmp_gt _ _).mp c_161))) | exact g9.elim c_167 c_177 | exact g10.elim c_187 (fun z => c_199 z.1) | exact g10.elim c_187 (fun z => c_208 z.2)))
                      · refine ax_if_eq (tgt := 218) dX12_rule_180 (by decide) (fun _ => ?_) (fun z => absurd (by decide) z)
                        refine ax_iconst (v := 0) dX12_rule_218 (by decide) ?_
                        refine ax_istore (lv' := [(12, _), (11, _), (10, _), (9, _), (8, _), (7, _), (0, _), (1, _), (2, _), (4, _), (5, _), (6, _)]) dX12_rule_219 (by decide) rfl ?_
                        refine ax_iload dX12_rule_221 rfl ?_
                        refine ax_if_ne (tgt := 228) dX12_rule_223 (by decide) (fun z => absurd z (by decide)) (fun _ => ?_)
                        refine ax_iconst (v := -1) dX12_rule_226 (by decide) ?_
                        refine ax_iret dX12_rule_227 rfl rfl ?_
                        exact fin2 h (if_pos (fun g => by
                            obtain ⟨g1, g2, g3, g4, g5, g6, g7, g8, g9, g10⟩ := g
                            first | exact absurd c_43 (Int32.not_lt.mpr g1) | exact c_53 g2 | exact g3.elim c_62 (fun z => z.elim c_68 c_78) | exact c_91 g4 | exact c_104 g5 | exact c_117 g6 | exact c_132 g7 | exact g8.elim c_153 (fun z => absurd z (Int64.not_le.mpr ((lg_cmp_gt _ _).mp c_161))) | exact g9.elim c_167 c_177 | exact g10.elim c_187 (fun z => c_199 z.1) | exact g10.elim c_187 (fun z => c_208 z.2)))
                  · refine ax_iload dX12_rule_156 rfl ?_
                    refine ax_i2l dX12_rule_158 ?_
                    refine ax_lload_n (i := 2) dX12_rule_159 rfl rfl ?_
                    refine ax_lcmp dX12_rule_160 ?_
                    refine ax_if_gt (tgt := 218) dX12_rule_161 (by decide) (fun c_161 => ?_) (fun c_161 => ?_)
                    · refine ax_iconst (v := 0) dX12_rule_218 (by decide) ?_
                      refine ax_istore (lv' := [(12, _), (11, _), (10, _), (9, _), (8, _), (7, _), (0, _), (1, _), (2, _), (4, _), (5, _), (6, _)]) dX12_rule_219 (by decide) rfl ?_
                      refine ax_iload dX12_rule_221 rfl ?_
                      refine ax_if_ne (tgt := 228) dX12_rule_223 (by decide) (fun z => absurd z (by decide)) (fun _ => ?_)
                      refine ax_iconst (v := -1) dX12_rule_226 (by decide) ?_
                      refine ax_iret dX12_rule_227 rfl rfl ?_
                      exact fin2 h (if_pos (fun g => by
                          obtain ⟨g1, g2, g3, g4, g5, g6, g7, g8, g9, g10⟩ := g
                          first | exact absurd c_43 (Int32.not_lt.mpr g1) | exact c_53 g2 | exact g3.elim c_62 (fun z => z.elim c_68 c_78) | exact c_91 g4 | exact c_104 g5 | exact c_117 g6 | exact c_132 g7 | exact g8.elim c_153 (fun z => absurd z (Int64.not_le.mpr ((lg_cmp_gt _ _).mp c_161))) | exact g9.elim c_167 c_177 | exact g10.elim c_187 (fun z => c_199 z.1) | exact g10.elim c_187 (fun z => c_208 z.2)))
                    · refine ax_iload dX12_rule_164 rfl ?_
                      refine ax_iconst (v := 3) dX12_rule_166 (by decide) ?_
                      refine ax_icmp_ne (tgt := 183) dX12_rule_167 (by decide) (fun c_167 => ?_) (fun c_167 => ?_)
                      · refine ax_iload dX12_rule_183 rfl ?_
                        refine ax_bipush (v := 6) dX12_rule_185 (by decide) ?_
                        refine ax_icmp_ne (tgt := 214) dX12_rule_187 (by decide) (fun c_187 => ?_) (fun c_187 => ?_)
                        · refine ax_iconst (v := 1) dX12_rule_214 (by decide) ?_
                          refine ax_goto (tgt := 219) dX12_rule_215 (by decide) ?_
                          refine ax_istore (lv' := [(12, _), (11, _), (10, _), (9, _), (8, _), (7, _), (0, _), (1, _), (2, _), (4, _), (5, _), (6, _)]) dX12_rule_219 (by decide) rfl ?_
                          refine ax_iload dX12_rule_221 rfl ?_
                          refine ax_if_ne (tgt := 228) dX12_rule_223 (by decide) (fun _ => ?_) (fun z => absurd (by decide) z)
                          refine ax_aload_n (i := 0) dX12_rule_228 rfl rfl rfl ?_
                          refine ax_mS dX12_rule_229 fl_X12_234 rfl ?_
                          refine ax_bipush (v := 16) dX12_rule_232 (by decide) ?_
                          refine ax_icmp_ne (tgt := 240) dX12_rule_234 (by decide) (fun c_234 => ?_) (fun c_234 => ?_)
                          · refine ax_aload_n (i := 0) dX12_rule_240 rfl rfl rfl ?_
                            refine ax_mR hm dX12_rule_241 fl_X12_21 rfl (by decide) ?_
                            refine ax_aload_n (i := 0) dX12_rule_244 rfl rfl rfl ?_
                            refine ax_mS dX12_rule_245 fl_X12_234 rfl ?_
                            refine ax_iload dX12_rule_248 rfl ?_
                            refine ax_mPI hm dX12_rule_250 rfl (by decide) (vin_s hr c_234 rfl (by decide) (by decide)) ?_
                            refine ax_aload_n (i := 0) dX12_rule_251 rfl rfl rfl ?_
                            refine ax_mR hm dX12_rule_252 fl_X12_24 rfl (by decide) ?_
                            refine ax_aload_n (i := 0) dX12_rule_255 rfl rfl rfl ?_
                            refine ax_mS dX12_rule_256 fl_X12_234 rfl ?_
                            refine ax_iload dX12_rule_259 rfl ?_
                            refine ax_mPI hm dX12_rule_261 rfl (by decide) (vin_s hr c_234 rfl (by decide) (by decide)) ?_
                            refine ax_aload_n (i := 0) dX12_rule_262 rfl rfl rfl ?_
                            refine ax_mR hm dX12_rule_263 fl_X12_27 rfl (by decide) ?_
                            refine ax_aload_n (i := 0) dX12_rule_266 rfl rfl rfl ?_
                            refine ax_mS dX12_rule_267 fl_X12_234 rfl ?_
                            refine ax_lload_n (i := 2) dX12_rule_270 rfl rfl ?_
                            refine ax_mPJ hm dX12_rule_271 rfl (by decide) (vin_s hr c_234 rfl (by decide) (by decide)) ?_
                            refine ax_aload_n (i := 0) dX12_rule_272 rfl rfl rfl ?_
                            refine ax_mR hm dX12_rule_273 fl_X12_30 rfl (by decide) ?_
                            refine ax_aload_n (i := 0) dX12_rule_276 rfl rfl rfl ?_
                            refine ax_mS dX12_rule_277 fl_X12_234 rfl ?_
                            refine ax_iload dX12_rule_280 rfl ?_
                            refine ax_mPI hm dX12_rule_282 rfl (by decide) (vin_s hr c_234 rfl (by decide) (by decide)) ?_
                            refine ax_aload_n (i := 0) dX12_rule_283 rfl rfl rfl ?_
                            refine ax_mR hm dX12_rule_284 fl_X12_33 rfl (by decide) ?_
                            refine ax_aload_n (i := 0) dX12_rule_287 rfl rfl rfl ?_
                            refine ax_mS dX12_rule_288 fl_X12_234 rfl ?_
                            refine ax_iload dX12_rule_291 rfl ?_
                            refine ax_mPI hm dX12_rule_293 rfl (by decide) (vin_s hr c_234 rfl (by decide) (by decide)) ?_
                            refine ax_aload_n (i := 0) dX12_rule_294 rfl rfl rfl ?_
                            refine ax_mR hm dX12_rule_295 fl_X12_36 rfl (by decide) ?_
                            refine ax_aload_n (i := 0) dX12_rule_298 rfl rfl rfl ?_
                            refine ax_mS dX12_rule_299 fl_X12_234 rfl ?_
                            refine ax_iload dX12_rule_302 rfl ?_
                            refine ax_mPI hm dX12_rule_304 rfl (by decide) (vin_s hr c_234 rfl (by decide) (by decide)) ?_
                            refine ax_aload_n (i := 0) dX12_rule_305 rfl rfl rfl ?_
                            refine ax_mR hm dX12_rule_306 fl_X12_39 rfl (by decide) ?_
                            refine ax_aload_n (i := 0) dX12_rule_309 rfl rfl rfl ?_
                            refine ax_mS dX12_rule_310 fl_X12_234 rfl ?_
                            refine ax_iload dX12_rule_313 rfl ?_
                            refine ax_mPI hm dX12_rule_315 rfl (by decide) (vin_s hr c_234 rfl (by decide) (by decide)) ?_
                            refine ax_aload_n (i := 0) dX12_rule_316 rfl rfl rfl ?_
                            refine ax_mR hm dX12_rule_317 fl_X12_42 rfl (by decide) ?_
                            refine ax_aload_n (i := 0) dX12_rule_320 rfl rfl rfl ?_
                            refine ax_mS dX12_rule_321 fl_X12_234 rfl ?_
                            refine ax_iload dX12_rule_324 rfl ?_
                            refine ax_mPI hm dX12_rule_326 rfl (by decide) (vin_s hr c_234 rfl (by decide) (by decide)) ?_
                            refine ax_aload_n (i := 0) dX12_rule_327 rfl rfl rfl ?_
                            refine ax_mR hm dX12_rule_328 fl_X12_45 rfl (by decide) ?_
                            refine ax_aload_n (i := 0) dX12_rule_331 rfl rfl rfl ?_
                            refine ax_mS dX12_rule_332 fl_X12_234 rfl ?_
                            refine ax_aload_n (i := 0) dX12_rule_335 rfl rfl rfl ?_
                            refine ax_mS dX12_rule_336 fl_X12_262 rfl ?_
                            refine ax_iconst (v := 1) dX12_rule_339 (by decide) ?_
                            refine ax_iadd dX12_rule_340 ?_
                            refine ax_mPI hm dX12_rule_341 rfl (by decide) (vin_s hr c_234 rfl (by decide) (by decide)) ?_
                            refine ax_aload_n (i := 0) dX12_rule_342 rfl rfl rfl ?_
                            refine ax_dup dX12_rule_343 rfl ?_
                            refine ax_mS dX12_rule_344 fl_X12_234 rfl ?_
                            refine ax_iconst (v := 1) dX12_rule_347 (by decide) ?_
                            refine ax_iadd dX12_rule_348 ?_
                            refine ax_mPS dX12_rule_349 fl_X12_234 rfl rfl ?_
                            refine ax_aload_n (i := 0) dX12_rule_352 rfl rfl rfl ?_
                            refine ax_mS dX12_rule_353 fl_X12_234 rfl ?_
                            refine ax_iconst (v := 1) dX12_rule_356 (by decide) ?_
                            refine ax_isub dX12_rule_357 ?_
                            refine ax_iret dX12_rule_358 rfl rfl ?_
                            exact fin2 h ((if_neg (fun z => z ⟨Int32.not_lt.mp c_43, c_53, (by first | exact Or.inl c_62 | exact Or.inr (Or.inl c_68) | exact Or.inr (Or.inr c_78)), c_91, c_104, c_117, c_132, (by first | exact Or.inl c_153 | exact Or.inr (Int64.not_lt.mp (fun z => c_161 ((lg_cmp_gt _ _).mpr z)))), (by first | exact Or.inl c_167 | exact Or.inr c_177), (by first | exact Or.inl c_187 | exact Or.inr ⟨c_199, c_208⟩)⟩)).trans ((if_neg c_234).trans rfl))
                          · refine ax_bipush (v := -2) dX12_rule_237 (by decide) ?_
                            refine ax_iret dX12_rule_239 rfl rfl ?_
                            exact fin2 h ((if_neg (fun z => z ⟨Int32.not_lt.mp c_43, c_53, (by first | exact Or.inl c_62 | exact Or.inr (Or.inl c_68) | exact Or.inr (Or.inr c_78)), c_91, c_104, c_117, c_132, (by first | exact Or.inl c_153 | exact Or.inr (Int64.not_lt.mp (fun z => c_161 ((lg_cmp_gt _ _).mpr z)))), (by first | exact Or.inl c_167 | exact Or.inr c_177), (by first | exact Or.inl c_187 | exact Or.inr ⟨c_199, c_208⟩)⟩)).trans (if_pos (Classical.not_not.mp c_234)))
                        · refine ax_lload_n (i := 2) dX12_rule_190 rfl rfl ?_
                          refine ax_lconst (v := 0) dX12_rule_191 (by decide) ?_
                          refine ax_aload_n (i := 0) dX12_rule_192 rfl rfl rfl ?_
                          refine ax_mS dX12_rule_193 fl_X12_234 rfl ?_
                          refine ax_iconst (v := 1) dX12_rule_196 (by decide) ?_
                          refine ax_isub dX12_rule_197 ?_
                          refine ax_i2l dX12_rule_198 ?_
                          refine ax_invS (n := 3) (As := [_, _, _]) dX12_rule_199 cb_X12_isIn cs_X12_242.1 cs_X12_242.2 rfl ⟨Nat.le_of_ble_eq_true rfl, Nat.le_of_ble_eq_true rfl⟩ (Nat.le_of_ble_eq_true rfl) rfl (t_isIn (fun c_199 => ?_) (fun c_199 => ?_))
                          · refine ax_if_eq (tgt := 218) dX12_rule_202 (by decide) (fun z => absurd z (by decide)) (fun _ => ?_)
                            refine ax_aload_n (i := 0) dX12_rule_205 rfl rfl rfl ?_
                            refine ax_iload dX12_rule_206 rfl ?_
                            refine ax_invV (c := 13) (n := 1) (As := [_]) dX12_rule_208 cb_X12_isRule cv_X12_258.1 cv_X12_258.2.1 cv_X12_258.2.2 rfl (by decide) rfl ⟨Nat.le_of_ble_eq_true rfl, Nat.le_of_ble_eq_true rfl⟩ (Nat.le_of_ble_eq_true rfl) rfl (t_isRule (fun c_208 => ?_) (fun c_208 => ?_))
                            · refine ax_if_eq (tgt := 218) dX12_rule_211 (by decide) (fun z => absurd z (by decide)) (fun _ => ?_)
                              refine ax_iconst (v := 1) dX12_rule_214 (by decide) ?_
                              refine ax_goto (tgt := 219) dX12_rule_215 (by decide) ?_
                              refine ax_istore (lv' := [(12, _), (11, _), (10, _), (9, _), (8, _), (7, _), (0, _), (1, _), (2, _), (4, _), (5, _), (6, _)]) dX12_rule_219 (by decide) rfl ?_
                              refine ax_iload dX12_rule_221 rfl ?_
                              refine ax_if_ne (tgt := 228) dX12_rule_223 (by decide) (fun _ => ?_) (fun z => absurd (by decide) z)
                              refine ax_aload_n (i := 0) dX12_rule_228 rfl rfl rfl ?_
                              refine ax_mS dX12_rule_229 fl_X12_234 rfl ?_
                              refine ax_bipush (v := 16) dX12_rule_232 (by decide) ?_
                              refine ax_icmp_ne (tgt := 240) dX12_rule_234 (by decide) (fun c_234 => ?_) (fun c_234 => ?_)
                              · refine ax_aload_n (i := 0) dX12_rule_240 rfl rfl rfl ?_
                                refine ax_mR hm dX12_rule_241 fl_X12_21 rfl (by decide) ?_
                                refine ax_aload_n (i := 0) dX12_rule_244 rfl rfl rfl ?_
                                refine ax_mS dX12_rule_245 fl_X12_234 rfl ?_
                                refine ax_iload dX12_rule_248 rfl ?_
                                refine ax_mPI hm dX12_rule_250 rfl (by decide) (vin_s hr c_234 rfl (by decide) (by decide)) ?_
                                refine ax_aload_n (i := 0) dX12_rule_251 rfl rfl rfl ?_
                                refine ax_mR hm dX12_rule_252 fl_X12_24 rfl (by decide) ?_
                                refine ax_aload_n (i := 0) dX12_rule_255 rfl rfl rfl ?_
                                refine ax_mS dX12_rule_256 fl_X12_234 rfl ?_
                                refine ax_iload dX12_rule_259 rfl ?_
                                refine ax_mPI hm dX12_rule_261 rfl (by decide) (vin_s hr c_234 rfl (by decide) (by decide)) ?_
                                refine ax_aload_n (i := 0) dX12_rule_262 rfl rfl rfl ?_
                                refine ax_mR hm dX12_rule_263 fl_X12_27 rfl (by decide) ?_
                                refine ax_aload_n (i := 0) dX12_rule_266 rfl rfl rfl ?_
                                refine ax_mS dX12_rule_267 fl_X12_234 rfl ?_
                                refine ax_lload_n (i := 2) dX12_rule_270 rfl rfl ?_
                                refine ax_mPJ hm dX12_rule_271 rfl (by decide) (vin_s hr c_234 rfl (by decide) (by decide)) ?_
                                refine ax_aload_n (i := 0) dX12_rule_272 rfl rfl rfl ?_
                                refine ax_mR hm dX12_rule_273 fl_X12_30 rfl (by decide) ?_
                                refine ax_aload_n (i := 0) dX12_rule_276 rfl rfl rfl ?_
                                refine ax_mS dX12_rule_277 fl_X12_234 rfl ?_
                                refine ax_iload dX12_rule_280 rfl ?_
                                refine ax_mPI hm dX12_rule_282 rfl (by decide) (vin_s hr c_234 rfl (by decide) (by decide)) ?_
                                refine ax_aload_n (i := 0) dX12_rule_283 rfl rfl rfl ?_
                                refine ax_mR hm dX12_rule_284 fl_X12_33 rfl (by decide) ?_
                                refine ax_aload_n (i := 0) dX12_rule_287 rfl rfl rfl ?_
                                refine ax_mS dX12_rule_288 fl_X12_234 rfl ?_
                                refine ax_iload dX12_rule_291 rfl ?_
                                refine ax_mPI hm dX12_rule_293 rfl (by decide) (vin_s hr c_234 rfl (by decide) (by decide)) ?_
                                refine ax_aload_n (i := 0) dX12_rule_294 rfl rfl rfl ?_
                                refine ax_mR hm dX12_rule_295 fl_X12_36 rfl (by decide) ?_
                                refine ax_aload_n (i := 0) dX12_rule_298 rfl rfl rfl ?_
                                refine ax_mS dX12_rule_299 fl_X12_234 rfl ?_
                                refine ax_iload dX12_rule_302 rfl ?_
                                refine ax_mPI hm dX12_rule_304 rfl (by decide) (vin_s hr c_234 rfl (by decide) (by decide)) ?_
                                refine ax_aload_n (i := 0) dX12_rule_305 rfl rfl rfl ?_
                                refine ax_mR hm dX12_rule_306 fl_X12_39 rfl (by decide) ?_
                                refine ax_aload_n (i := 0) dX12_rule_309 rfl rfl rfl ?_
                                refine ax_mS dX12_rule_310 fl_X12_234 rfl ?_
                                refine ax_iload dX12_rule_313 rfl ?_
                                refine ax_mPI hm dX12_rule_315 rfl (by decide) (vin_s hr c_234 rfl (by decide) (by decide)) ?_
                                refine ax_aload_n (i := 0) dX12_rule_316 rfl rfl rfl ?_
                                refine ax_mR hm dX12_rule_317 fl_X12_42 rfl (by decide) ?_
                                refine ax_aload_n (i := 0) dX12_rule_320 rfl rfl rfl ?_
                                refine ax_mS dX12_rule_321 fl_X12_234 rfl ?_
                                refine ax_iload dX12_rule_324 rfl ?_
                                refine ax_mPI hm dX12_rule_326 rfl (by decide) (vin_s hr c_234 rfl (by decide) (by decide)) ?_
                                refine ax_aload_n (i := 0) dX12_rule_327 rfl rfl rfl ?_
                                refine ax_mR hm dX12_rule_328 fl_X12_45 rfl (by decide) ?_
                                refine ax_aload_n (i := 0) dX12_rule_331 rfl rfl rfl ?_
                                refine ax_mS dX12_rule_332 fl_X12_234 rfl ?_
                                refine ax_aload_n (i := 0) dX12_rule_335 rfl rfl rfl ?_
                                refine ax_mS dX12_rule_336 fl_X12_262 rfl ?_
                                refine ax_iconst (v := 1) dX12_rule_339 (by decide) ?_
                                refine ax_iadd dX12_rule_340 ?_
                                refine ax_mPI hm dX12_rule_341 rfl (by decide) (vin_s hr c_234 rfl (by decide) (by decide)) ?_
                                refine ax_aload_n (i := 0) dX12_rule_342 rfl rfl rfl ?_
                                refine ax_dup dX12_rule_343 rfl ?_
                                refine ax_mS dX12_rule_344 fl_X12_234 rfl ?_
                                refine ax_iconst (v := 1) dX12_rule_347 (by decide) ?_
                                refine ax_iadd dX12_rule_348 ?_
                                refine ax_mPS dX12_rule_349 fl_X12_234 rfl rfl ?_
                                refine ax_aload_n (i := 0) dX12_rule_352 rfl rfl rfl ?_
                                refine ax_mS dX12_rule_353 fl_X12_234 rfl ?_
                                refine ax_iconst (v := 1) dX12_rule_356 (by decide) ?_
                                refine ax_isub dX12_rule_357 ?_
                                refine ax_iret dX12_rule_358 rfl rfl ?_
                                exact fin2 h ((if_neg (fun z => z ⟨Int32.not_lt.mp c_43, c_53, (by first | exact Or.inl c_62 | exact Or.inr (Or.inl c_68) | exact Or.inr (Or.inr c_78)), c_91, c_104, c_117, c_132, (by first | exact Or.inl c_153 | exact Or.inr (Int64.not_lt.mp (fun z => c_161 ((lg_cmp_gt _ _).mpr z)))), (by first | exact Or.inl c_167 | exact Or.inr c_177), (by first | exact Or.inl c_187 | exact Or.inr ⟨c_199, c_208⟩)⟩)).trans ((if_neg c_234).trans rfl))
                              · refine ax_bipush (v := -2) dX12_rule_237 (by decide) ?_
                                refine ax_iret dX12_rule_239 rfl rfl ?_
                                exact fin2 h ((if_neg (fun z => z ⟨Int32.not_lt.mp c_43, c_53, (by first | exact Or.inl c_62 | exact Or.inr (Or.inl c_68) | exact Or.inr (Or.inr c_78)), c_91, c_104, c_117, c_132, (by first | exact Or.inl c_153 | exact Or.inr (Int64.not_lt.mp (fun z => c_161 ((lg_cmp_gt _ _).mpr z)))), (by first | exact Or.inl c_167 | exact Or.inr c_177), (by first | exact Or.inl c_187 | exact Or.inr ⟨c_199, c_208⟩)⟩)).trans (if_pos (Classical.not_not.mp c_234)))
                            · refine ax_if_eq (tgt := 218) dX12_rule_211 (by decide) (fun _ => ?_) (fun z => absurd (by decide) z)
                              refine ax_iconst (v := 0) dX12_rule_218 (by decide) ?_
                              refine ax_istore (lv' := [(12, _), (11, _), (10, _), (9, _), (8, _), (7, _), (0, _), (1, _), (2, _), (4, _), (5, _), (6, _)]) dX12_rule_219 (by decide) rfl ?_
                              refine ax_iload dX12_rule_221 rfl ?_
                              refine ax_if_ne (tgt := 228) dX12_rule_223 (by decide) (fun z => absurd z (by decide)) (fun _ => ?_)
                              refine ax_iconst (v := -1) dX12_rule_226 (by decide) ?_
                              refine ax_iret dX12_rule_227 rfl rfl ?_
                              exact fin2 h (if_pos (fun g => by
                                  obtain ⟨g1, g2, g3, g4, g5, g6, g7, g8, g9, g10⟩ := g
                                  first | exact absurd c_43 (Int32.not_lt.mpr g1) | exact c_53 g2 | exact g3.elim c_62 (fun z => z.elim c_68 c_78) | exact c_91 g4 | exact c_104 g5 | exact c_117 g6 | exact c_132 g7 | exact g8.elim c_153 (fun z => absurd z (Int64.not_le.mpr ((lg_cmp_gt _ _).mp c_161))) | exact g9.elim c_167 c_177 | exact g10.elim c_187 (fun z => c_199 z.1) | exact g10.elim c_187 (fun z => c_208 z.2)))
                          · refine ax_if_eq (tgt := 218) dX12_rule_202 (by decide) (fun _ => ?_) (fun z => absurd (by decide) z)
                            refine ax_iconst (v := 0) dX12_rule_218 (by decide) ?_
                            refine ax_istore (lv' := [(12, _), (11, _), (10, _), (9, _), (8, _), (7, _), (0, _), (1, _), (2, _), (4, _), (5, _), (6, _)]) dX12_rule_219 (by decide) rfl ?_
                            refine ax_iload dX12_rule_221 rfl ?_
                            refine ax_if_ne (tgt := 228) dX12_rule_223 (by decide) (fun z => absurd z (by decide)) (fun _ => ?_)
                            refine ax_iconst (v := -1) dX12_rule_226 (by decide) ?_
                            refine ax_iret dX12_rule_227 rfl rfl ?_
                            exact fin2 h (if_pos (fun g => by
                                obtain ⟨g1, g2, g3, g4, g5, g6, g7, g8, g9, g10⟩ := g
                                first | exact absurd c_43 (Int32.not_lt.mpr g1) | exact c_53 g2 | exact g3.elim c_62 (fun z => z.elim c_68 c_78) | exact c_91 g4 | exact c_104 g5 | exact c_117 g6 | exact c_132 g7 | exact g8.elim c_153 (fun z => absurd z (Int64.not_le.mpr ((lg_cmp_gt _ _).mp c_161))) | exact g9.elim c_167 c_177 | exact g10.elim c_187 (fun z => c_199 z.1) | exact g10.elim c_187 (fun z => c_208 z.2)))
                      · refine ax_iload dX12_rule_170 rfl ?_
                        refine ax_i2l dX12_rule_172 ?_
                        refine ax_lconst (v := 1) dX12_rule_173 (by decide) ?_
                        refine ax_ldc2 dX12_rule_174 kc_X12_256 ?_
                        refine ax_invS (n := 3) (As := [_, _, _]) dX12_rule_177 cb_X12_isIn cs_X12_242.1 cs_X12_242.2 rfl ⟨Nat.le_of_ble_eq_true rfl, Nat.le_of_ble_eq_true rfl⟩ (Nat.le_of_ble_eq_true rfl) rfl (t_isInI (lo := (1)) (hi := (100)) (fun c_177 => ?_) (fun c_177 => ?_))
                        · refine ax_if_eq (tgt := 218) dX12_rule_180 (by decide) (fun z => absurd z (by decide)) (fun _ => ?_)
                          refine ax_iload dX12_rule_183 rfl ?_
                          refine ax_bipush (v := 6) dX12_rule_185 (by decide) ?_
                          refine ax_icmp_ne (tgt := 214) dX12_rule_187 (by decide) (fun c_187 => ?_) (fun c_187 => ?_)
                          · refine ax_iconst (v := 1) dX12_rule_214 (by decide) ?_
                            refine ax_goto (tgt := 219) dX12_rule_215 (by decide) ?_
                            refine ax_istore (lv' := [(12, _), (11, _), (10, _), (9, _), (8, _), (7, _), (0, _), (1, _), (2, _), (4, _), (5, _), (6, _)]) dX12_rule_219 (by decide) rfl ?_
                            refine ax_iload dX12_rule_221 rfl ?_
                            refine ax_if_ne (tgt := 228) dX12_rule_223 (by decide) (fun _ => ?_) (fun z => absurd (by decide) z)
                            refine ax_aload_n (i := 0) dX12_rule_228 rfl rfl rfl ?_
                            refine ax_mS dX12_rule_229 fl_X12_234 rfl ?_
                            refine ax_bipush (v := 16) dX12_rule_232 (by decide) ?_
                            refine ax_icmp_ne (tgt := 240) dX12_rule_234 (by decide) (fun c_234 => ?_) (fun c_234 => ?_)
                            · refine ax_aload_n (i := 0) dX12_rule_240 rfl rfl rfl ?_
                              refine ax_mR hm dX12_rule_241 fl_X12_21 rfl (by decide) ?_
                              refine ax_aload_n (i := 0) dX12_rule_244 rfl rfl rfl ?_
                              refine ax_mS dX12_rule_245 fl_X12_234 rfl ?_
                              refine ax_iload dX12_rule_248 rfl ?_
                              refine ax_mPI hm dX12_rule_250 rfl (by decide) (vin_s hr c_234 rfl (by decide) (by decide)) ?_
                              refine ax_aload_n (i := 0) dX12_rule_251 rfl rfl rfl ?_
                              refine ax_mR hm dX12_rule_252 fl_X12_24 rfl (by decide) ?_
                              refine ax_aload_n (i := 0) dX12_rule_255 rfl rfl rfl ?_
                              refine ax_mS dX12_rule_256 fl_X12_234 rfl ?_
                              refine ax_iload dX12_rule_259 rfl ?_
                              refine ax_mPI hm dX12_rule_261 rfl (by decide) (vin_s hr c_234 rfl (by decide) (by decide)) ?_
                              refine ax_aload_n (i := 0) dX12_rule_262 rfl rfl rfl ?_
                              refine ax_mR hm dX12_rule_263 fl_X12_27 rfl (by decide) ?_
                              refine ax_aload_n (i := 0) dX12_rule_266 rfl rfl rfl ?_
                              refine ax_mS dX12_rule_267 fl_X12_234 rfl ?_
                              refine ax_lload_n (i := 2) dX12_rule_270 rfl rfl ?_
                              refine ax_mPJ hm dX12_rule_271 rfl (by decide) (vin_s hr c_234 rfl (by decide) (by decide)) ?_
                              refine ax_aload_n (i := 0) dX12_rule_272 rfl rfl rfl ?_
                              refine ax_mR hm dX12_rule_273 fl_X12_30 rfl (by decide) ?_
                              refine ax_aload_n (i := 0) dX12_rule_276 rfl rfl rfl ?_
                              refine ax_mS dX12_rule_277 fl_X12_234 rfl ?_
                              refine ax_iload dX12_rule_280 rfl ?_
                              refine ax_mPI hm dX12_rule_282 rfl (by decide) (vin_s hr c_234 rfl (by decide) (by decide)) ?_
                              refine ax_aload_n (i := 0) dX12_rule_283 rfl rfl rfl ?_
                              refine ax_mR hm dX12_rule_284 fl_X12_33 rfl (by decide) ?_
                              refine ax_aload_n (i := 0) dX12_rule_287 rfl rfl rfl ?_
                              refine ax_mS dX12_rule_288 fl_X12_234 rfl ?_
                              refine ax_iload dX12_rule_291 rfl ?_
                              refine ax_mPI hm dX12_rule_293 rfl (by decide) (vin_s hr c_234 rfl (by decide) (by decide)) ?_
                              refine ax_aload_n (i := 0) dX12_rule_294 rfl rfl rfl ?_
                              refine ax_mR hm dX12_rule_295 fl_X12_36 rfl (by decide) ?_
                              refine ax_aload_n (i := 0) dX12_rule_298 rfl rfl rfl ?_
                              refine ax_mS dX12_rule_299 fl_X12_234 rfl ?_
                              refine ax_iload dX12_rule_302 rfl ?_
                              refine ax_mPI hm dX12_rule_304 rfl (by decide) (vin_s hr c_234 rfl (by decide) (by decide)) ?_
                              refine ax_aload_n (i := 0) dX12_rule_305 rfl rfl rfl ?_
                              refine ax_mR hm dX12_rule_306 fl_X12_39 rfl (by decide) ?_
                              refine ax_aload_n (i := 0) dX12_rule_309 rfl rfl rfl ?_
                              refine ax_mS dX12_rule_310 fl_X12_234 rfl ?_
                              refine ax_iload dX12_rule_313 rfl ?_
                              refine ax_mPI hm dX12_rule_315 rfl (by decide) (vin_s hr c_234 rfl (by decide) (by decide)) ?_
                              refine ax_aload_n (i := 0) dX12_rule_316 rfl rfl rfl ?_
                              refine ax_mR hm dX12_rule_317 fl_X12_42 rfl (by decide) ?_
                              refine ax_aload_n (i := 0) dX12_rule_320 rfl rfl rfl ?_
                              refine ax_mS dX12_rule_321 fl_X12_234 rfl ?_
                              refine ax_iload dX12_rule_324 rfl ?_
                              refine ax_mPI hm dX12_rule_326 rfl (by decide) (vin_s hr c_234 rfl (by decide) (by decide)) ?_
                              refine ax_aload_n (i := 0) dX12_rule_327 rfl rfl rfl ?_
                              refine ax_mR hm dX12_rule_328 fl_X12_45 rfl (by decide) ?_
                              refine ax_aload_n (i := 0) dX12_rule_331 rfl rfl rfl ?_
                              refine ax_mS dX12_rule_332 fl_X12_234 rfl ?_
                              refine ax_aload_n (i := 0) dX12_rule_335 rfl rfl rfl ?_
                              refine ax_mS dX12_rule_336 fl_X12_262 rfl ?_
                              refine ax_iconst (v := 1) dX12_rule_339 (by decide) ?_
                              refine ax_iadd dX12_rule_340 ?_
                              refine ax_mPI hm dX12_rule_341 rfl (by decide) (vin_s hr c_234 rfl (by decide) (by decide)) ?_
                              refine ax_aload_n (i := 0) dX12_rule_342 rfl rfl rfl ?_
                              refine ax_dup dX12_rule_343 rfl ?_
                              refine ax_mS dX12_rule_344 fl_X12_234 rfl ?_
                              refine ax_iconst (v := 1) dX12_rule_347 (by decide) ?_
                              refine ax_iadd dX12_rule_348 ?_
                              refine ax_mPS dX12_rule_349 fl_X12_234 rfl rfl ?_
                              refine ax_aload_n (i := 0) dX12_rule_352 rfl rfl rfl ?_
                              refine ax_mS dX12_rule_353 fl_X12_234 rfl ?_
                              refine ax_iconst (v := 1) dX12_rule_356 (by decide) ?_
                              refine ax_isub dX12_rule_357 ?_
                              refine ax_iret dX12_rule_358 rfl rfl ?_
                              exact fin2 h ((if_neg (fun z => z ⟨Int32.not_lt.mp c_43, c_53, (by first | exact Or.inl c_62 | exact Or.inr (Or.inl c_68) | exact Or.inr (Or.inr c_78)), c_91, c_104, c_117, c_132, (by first | exact Or.inl c_153 | exact Or.inr (Int64.not_lt.mp (fun z => c_161 ((lg_cmp_gt _ _).mpr z)))), (by first | exact Or.inl c_167 | exact Or.inr c_177), (by first | exact Or.inl c_187 | exact Or.inr ⟨c_199, c_208⟩)⟩)).trans ((if_neg c_234).trans rfl))
                            · refine ax_bipush (v := -2) dX12_rule_237 (by decide) ?_
                              refine ax_iret dX12_rule_239 rfl rfl ?_
                              exact fin2 h ((if_neg (fun z => z ⟨Int32.not_lt.mp c_43, c_53, (by first | exact Or.inl c_62 | exact Or.inr (Or.inl c_68) | exact Or.inr (Or.inr c_78)), c_91, c_104, c_117, c_132, (by first | exact Or.inl c_153 | exact Or.inr (Int64.not_lt.mp (fun z => c_161 ((lg_cmp_gt _ _).mpr z)))), (by first | exact Or.inl c_167 | exact Or.inr c_177), (by first | exact Or.inl c_187 | exact Or.inr ⟨c_199, c_208⟩)⟩)).trans (if_pos (Classical.not_not.mp c_234)))
                          · refine ax_lload_n (i := 2) dX12_rule_190 rfl rfl ?_
                            refine ax_lconst (v := 0) dX12_rule_191 (by decide) ?_
                            refine ax_aload_n (i := 0) dX12_rule_192 rfl rfl rfl ?_
                            refine ax_mS dX12_rule_193 fl_X12_234 rfl ?_
                            refine ax_iconst (v := 1) dX12_rule_196 (by decide) ?_
                            refine ax_isub dX12_rule_197 ?_
                            refine ax_i2l dX12_rule_198 ?_
                            refine ax_invS (n := 3) (As := [_, _, _]) dX12_rule_199 cb_X12_isIn cs_X12_242.1 cs_X12_242.2 rfl ⟨Nat.le_of_ble_eq_true rfl, Nat.le_of_ble_eq_true rfl⟩ (Nat.le_of_ble_eq_true rfl) rfl (t_isIn (fun c_199 => ?_) (fun c_199 => ?_))
                            · refine ax_if_eq (tgt := 218) dX12_rule_202 (by decide) (fun z => absurd z (by decide)) (fun _ => ?_)
                              refine ax_aload_n (i := 0) dX12_rule_205 rfl rfl rfl ?_
                              refine ax_iload dX12_rule_206 rfl ?_
                              refine ax_invV (c := 13) (n := 1) (As := [_]) dX12_rule_208 cb_X12_isRule cv_X12_258.1 cv_X12_258.2.1 cv_X12_258.2.2 rfl (by decide) rfl ⟨Nat.le_of_ble_eq_true rfl, Nat.le_of_ble_eq_true rfl⟩ (Nat.le_of_ble_eq_true rfl) rfl (t_isRule (fun c_208 => ?_) (fun c_208 => ?_))
                              · refine ax_if_eq (tgt := 218) dX12_rule_211 (by decide) (fun z => absurd z (by decide)) (fun _ => ?_)
                                refine ax_iconst (v := 1) dX12_rule_214 (by decide) ?_
                                refine ax_goto (tgt := 219) dX12_rule_215 (by decide) ?_
                                refine ax_istore (lv' := [(12, _), (11, _), (10, _), (9, _), (8, _), (7, _), (0, _), (1, _), (2, _), (4, _), (5, _), (6, _)]) dX12_rule_219 (by decide) rfl ?_
                                refine ax_iload dX12_rule_221 rfl ?_
                                refine ax_if_ne (tgt := 228) dX12_rule_223 (by decide) (fun _ => ?_) (fun z => absurd (by decide) z)
                                refine ax_aload_n (i := 0) dX12_rule_228 rfl rfl rfl ?_
                                refine ax_mS dX12_rule_229 fl_X12_234 rfl ?_
                                refine ax_bipush (v := 16) dX12_rule_232 (by decide) ?_
                                refine ax_icmp_ne (tgt := 240) dX12_rule_234 (by decide) (fun c_234 => ?_) (fun c_234 => ?_)
                                · refine ax_aload_n (i := 0) dX12_rule_240 rfl rfl rfl ?_
                                  refine ax_mR hm dX12_rule_241 fl_X12_21 rfl (by decide) ?_
                                  refine ax_aload_n (i := 0) dX12_rule_244 rfl rfl rfl ?_
                                  refine ax_mS dX12_rule_245 fl_X12_234 rfl ?_
                                  refine ax_iload dX12_rule_248 rfl ?_
                                  refine ax_mPI hm dX12_rule_250 rfl (by decide) (vin_s hr c_234 rfl (by decide) (by decide)) ?_
                                  refine ax_aload_n (i := 0) dX12_rule_251 rfl rfl rfl ?_
                                  refine ax_mR hm dX12_rule_252 fl_X12_24 rfl (by decide) ?_
                                  refine ax_aload_n (i := 0) dX12_rule_255 rfl rfl rfl ?_
                                  refine ax_mS dX12_rule_256 fl_X12_234 rfl ?_
                                  refine ax_iload dX12_rule_259 rfl ?_
                                  refine ax_mPI hm dX12_rule_261 rfl (by decide) (vin_s hr c_234 rfl (by decide) (by decide)) ?_
                                  refine ax_aload_n (i := 0) dX12_rule_262 rfl rfl rfl ?_
                                  refine ax_mR hm dX12_rule_263 fl_X12_27 rfl (by decide) ?_
                                  refine ax_aload_n (i := 0) dX12_rule_266 rfl rfl rfl ?_
                                  refine ax_mS dX12_rule_267 fl_X12_234 rfl ?_
                                  refine ax_lload_n (i := 2) dX12_rule_270 rfl rfl ?_
                                  refine ax_mPJ hm dX12_rule_271 rfl (by decide) (vin_s hr c_234 rfl (by decide) (by decide)) ?_
                                  refine ax_aload_n (i := 0) dX12_rule_272 rfl rfl rfl ?_
                                  refine ax_mR hm dX12_rule_273 fl_X12_30 rfl (by decide) ?_
                                  refine ax_aload_n (i := 0) dX12_rule_276 rfl rfl rfl ?_
                                  refine ax_mS dX12_rule_277 fl_X12_234 rfl ?_
                                  refine ax_iload dX12_rule_280 rfl ?_
                                  refine ax_mPI hm dX12_rule_282 rfl (by decide) (vin_s hr c_234 rfl (by decide) (by decide)) ?_
                                  refine ax_aload_n (i := 0) dX12_rule_283 rfl rfl rfl ?_
                                  refine ax_mR hm dX12_rule_284 fl_X12_33 rfl (by decide) ?_
                                  refine ax_aload_n (i := 0) dX12_rule_287 rfl rfl rfl ?_
                                  refine ax_mS dX12_rule_288 fl_X12_234 rfl ?_
                                  refine ax_iload dX12_rule_291 rfl ?_
                                  refine ax_mPI hm dX12_rule_293 rfl (by decide) (vin_s hr c_234 rfl (by decide) (by decide)) ?_
                                  refine ax_aload_n (i := 0) dX12_rule_294 rfl rfl rfl ?_
                                  refine ax_mR hm dX12_rule_295 fl_X12_36 rfl (by decide) ?_
                                  refine ax_aload_n (i := 0) dX12_rule_298 rfl rfl rfl ?_
                                  refine ax_mS dX12_rule_299 fl_X12_234 rfl ?_
                                  refine ax_iload dX12_rule_302 rfl ?_
                                  refine ax_mPI hm dX12_rule_304 rfl (by decide) (vin_s hr c_234 rfl (by decide) (by decide)) ?_
                                  refine ax_aload_n (i := 0) dX12_rule_305 rfl rfl rfl ?_
                                  refine ax_mR hm dX12_rule_306 fl_X12_39 rfl (by decide) ?_
                                  refine ax_aload_n (i := 0) dX12_rule_309 rfl rfl rfl ?_
                                  refine ax_mS dX12_rule_310 fl_X12_234 rfl ?_
                                  refine ax_iload dX12_rule_313 rfl ?_
                                  refine ax_mPI hm dX12_rule_315 rfl (by decide) (vin_s hr c_234 rfl (by decide) (by decide)) ?_
                                  refine ax_aload_n (i := 0) dX12_rule_316 rfl rfl rfl ?_
                                  refine ax_mR hm dX12_rule_317 fl_X12_42 rfl (by decide) ?_
                                  refine ax_aload_n (i := 0) dX12_rule_320 rfl rfl rfl ?_
                                  refine ax_mS dX12_rule_321 fl_X12_234 rfl ?_
                                  refine ax_iload dX12_rule_324 rfl ?_
                                  refine ax_mPI hm dX12_rule_326 rfl (by decide) (vin_s hr c_234 rfl (by decide) (by decide)) ?_
                                  refine ax_aload_n (i := 0) dX12_rule_327 rfl rfl rfl ?_
                                  refine ax_mR hm dX12_rule_328 fl_X12_45 rfl (by decide) ?_
                                  refine ax_aload_n (i := 0) dX12_rule_331 rfl rfl rfl ?_
                                  refine ax_mS dX12_rule_332 fl_X12_234 rfl ?_
                                  refine ax_aload_n (i := 0) dX12_rule_335 rfl rfl rfl ?_
                                  refine ax_mS dX12_rule_336 fl_X12_262 rfl ?_
                                  refine ax_iconst (v := 1) dX12_rule_339 (by decide) ?_
                                  refine ax_iadd dX12_rule_340 ?_
                                  refine ax_mPI hm dX12_rule_341 rfl (by decide) (vin_s hr c_234 rfl (by decide) (by decide)) ?_
                                  refine ax_aload_n (i := 0) dX12_rule_342 rfl rfl rfl ?_
                                  refine ax_dup dX12_rule_343 rfl ?_
                                  refine ax_mS dX12_rule_344 fl_X12_234 rfl ?_
                                  refine ax_iconst (v := 1) dX12_rule_347 (by decide) ?_
                                  refine ax_iadd dX12_rule_348 ?_
                                  refine ax_mPS dX12_rule_349 fl_X12_234 rfl rfl ?_
                                  refine ax_aload_n (i := 0) dX12_rule_352 rfl rfl rfl ?_
                                  refine ax_mS dX12_rule_353 fl_X12_234 rfl ?_
                                  refine ax_iconst (v := 1) dX12_rule_356 (by decide) ?_
                                  refine ax_isub dX12_rule_357 ?_
                                  refine ax_iret dX12_rule_358 rfl rfl ?_
                                  exact fin2 h ((if_neg (fun z => z ⟨Int32.not_lt.mp c_43, c_53, (by first | exact Or.inl c_62 | exact Or.inr (Or.inl c_68) | exact Or.inr (Or.inr c_78)), c_91, c_104, c_117, c_132, (by first | exact Or.inl c_153 | exact Or.inr (Int64.not_lt.mp (fun z => c_161 ((lg_cmp_gt _ _).mpr z)))), (by first | exact Or.inl c_167 | exact Or.inr c_177), (by first | exact Or.inl c_187 | exact Or.inr ⟨c_199, c_208⟩)⟩)).trans ((if_neg c_234).trans rfl))
                                · refine ax_bipush (v := -2) dX12_rule_237 (by decide) ?_
                                  refine ax_iret dX12_rule_239 rfl rfl ?_
                                  exact fin2 h ((if_neg (fun z => z ⟨Int32.not_lt.mp c_43, c_53, (by first | exact Or.inl c_62 | exact Or.inr (Or.inl c_68) | exact Or.inr (Or.inr c_78)), c_91, c_104, c_117, c_132, (by first | exact Or.inl c_153 | exact Or.inr (Int64.not_lt.mp (fun z => c_161 ((lg_cmp_gt _ _).mpr z)))), (by first | exact Or.inl c_167 | exact Or.inr c_177), (by first | exact Or.inl c_187 | exact Or.inr ⟨c_199, c_208⟩)⟩)).trans (if_pos (Classical.not_not.mp c_234)))
                              · refine ax_if_eq (tgt := 218) dX12_rule_211 (by decide) (fun _ => ?_) (fun z => absurd (by decide) z)
                                refine ax_iconst (v := 0) dX12_rule_218 (by decide) ?_
                                refine ax_istore (lv' := [(12, _), (11, _), (10, _), (9, _), (8, _), (7, _), (0, _), (1, _), (2, _), (4, _), (5, _), (6, _)]) dX12_rule_219 (by decide) rfl ?_
                                refine ax_iload dX12_rule_221 rfl ?_
                                refine ax_if_ne (tgt := 228) dX12_rule_223 (by decide) (fun z => absurd z (by decide)) (fun _ => ?_)
                                refine ax_iconst (v := -1) dX12_rule_226 (by decide) ?_
                                refine ax_iret dX12_rule_227 rfl rfl ?_
                                exact fin2 h (if_pos (fun g => by
                                    obtain ⟨g1, g2, g3, g4, g5, g6, g7, g8, g9, g10⟩ := g
                                    first | exact absurd c_43 (Int32.not_lt.mpr g1) | exact c_53 g2 | exact g3.elim c_62 (fun z => z.elim c_68 c_78) | exact c_91 g4 | exact c_104 g5 | exact c_117 g6 | exact c_132 g7 | exact g8.elim c_153 (fun z => absurd z (Int64.not_le.mpr ((lg_cmp_gt _ _).mp c_161))) | exact g9.elim c_167 c_177 | exact g10.elim c_187 (fun z => c_199 z.1) | exact g10.elim c_187 (fun z => c_208 z.2)))
                            · refine ax_if_eq (tgt := 218) dX12_rule_202 (by decide) (fun _ => ?_) (fun z => absurd (by decide) z)
                              refine ax_iconst (v := 0) dX12_rule_218 (by decide) ?_
                              refine ax_istore (lv' := [(12, _), (11, _), (10, _), (9, _), (8, _), (7, _), (0, _), (1, _), (2, _), (4, _), (5, _), (6, _)]) dX12_rule_219 (by decide) rfl ?_
                              refine ax_iload dX12_rule_221 rfl ?_
                              refine ax_if_ne (tgt := 228) dX12_rule_223 (by decide) (fun z => absurd z (by decide)) (fun _ => ?_)
                              refine ax_iconst (v := -1) dX12_rule_226 (by decide) ?_
                              refine ax_iret dX12_rule_227 rfl rfl ?_
                              exact fin2 h (if_pos (fun g => by
                                  obtain ⟨g1, g2, g3, g4, g5, g6, g7, g8, g9, g10⟩ := g
                                  first | exact absurd c_43 (Int32.not_lt.mpr g1) | exact c_53 g2 | exact g3.elim c_62 (fun z => z.elim c_68 c_78) | exact c_91 g4 | exact c_104 g5 | exact c_117 g6 | exact c_132 g7 | exact g8.elim c_153 (fun z => absurd z (Int64.not_le.mpr ((lg_cmp_gt _ _).mp c_161))) | exact g9.elim c_167 c_177 | exact g10.elim c_187 (fun z => c_199 z.1) | exact g10.elim c_187 (fun z => c_208 z.2)))
                        · refine ax_if_eq (tgt := 218) dX12_rule_180 (by decide) (fun _ => ?_) (fun z => absurd (by decide) z)
                          refine ax_iconst (v := 0) dX12_rule_218 (by decide) ?_
                          refine ax_istore (lv' := [(12, _), (11, _), (10, _), (9, _), (8, _), (7, _), (0, _), (1, _), (2, _), (4, _), (5, _), (6, _)]) dX12_rule_219 (by decide) rfl ?_
                          refine ax_iload dX12_rule_221 rfl ?_
                          refine ax_if_ne (tgt := 228) dX12_rule_223 (by decide) (fun z => absurd z (by decide)) (fun _ => ?_)
                          refine ax_iconst (v := -1) dX12_rule_226 (by decide) ?_
                          refine ax_iret dX12_rule_227 rfl rfl ?_
                          exact fin2 h (if_pos (fun g => by
                              obtain ⟨g1, g2, g3, g4, g5, g6, g7, g8, g9, g10⟩ := g
                              first | exact absurd c_43 (Int32.not_lt.mpr g1) | exact c_53 g2 | exact g3.elim c_62 (fun z => z.elim c_68 c_78) | exact c_91 g4 | exact c_104 g5 | exact c_117 g6 | exact c_132 g7 | exact g8.elim c_153 (fun z => absurd z (Int64.not_le.mpr ((lg_cmp_gt _ _).mp c_161))) | exact g9.elim c_167 c_177 | exact g10.elim c_187 (fun z => c_199 z.1) | exact g10.elim c_187 (fun z => c_208 z.2)))
                · refine ax_if_eq (tgt := 142) dX12_rule_135 (by decide) (fun _ => ?_) (fun z => absurd (by decide) z)
                  refine ax_iconst (v := 0) dX12_rule_142 (by decide) ?_
                  refine ax_istore (lv' := [(12, _), (11, _), (10, _), (9, _), (8, _), (7, _), (0, _), (1, _), (2, _), (4, _), (5, _), (6, _)]) dX12_rule_143 (by decide) rfl ?_
                  refine ax_iload dX12_rule_145 rfl ?_
                  refine ax_if_eq (tgt := 218) dX12_rule_147 (by decide) (fun _ => ?_) (fun z => absurd (by decide) z)
                  refine ax_iconst (v := 0) dX12_rule_218 (by decide) ?_
                  refine ax_istore (lv' := [(12, _), (11, _), (10, _), (9, _), (8, _), (7, _), (0, _), (1, _), (2, _), (4, _), (5, _), (6, _)]) dX12_rule_219 (by decide) rfl ?_
                  refine ax_iload dX12_rule_221 rfl ?_
                  refine ax_if_ne (tgt := 228) dX12_rule_223 (by decide) (fun z => absurd z (by decide)) (fun _ => ?_)
                  refine ax_iconst (v := -1) dX12_rule_226 (by decide) ?_
                  refine ax_iret dX12_rule_227 rfl rfl ?_
                  exact fin2 h (if_pos (fun g => by
                      obtain ⟨g1, g2, g3, g4, g5, g6, g7, g8, g9, g10⟩ := g
                      first | exact absurd c_43 (Int32.not_lt.mpr g1) | exact c_53 g2 | exact g3.elim c_62 (fun z => z.elim c_68 c_78) | exact c_91 g4 | exact c_104 g5 | exact c_117 g6 | exact c_132 g7 | exact g8.elim c_153 (fun z => absurd z (Int64.not_le.mpr ((lg_cmp_gt _ _).mp c_161))) | exact g9.elim c_167 c_177 | exact g10.elim c_187 (fun z => c_199 z.1) | exact g10.elim c_187 (fun z => c_208 z.2)))
              · refine ax_if_eq (tgt := 142) dX12_rule_120 (by decide) (fun _ => ?_) (fun z => absurd (by decide) z)
                refine ax_iconst (v := 0) dX12_rule_142 (by decide) ?_
                refine ax_istore (lv' := [(12, _), (11, _), (10, _), (9, _), (8, _), (7, _), (0, _), (1, _), (2, _), (4, _), (5, _), (6, _)]) dX12_rule_143 (by decide) rfl ?_
                refine ax_iload dX12_rule_145 rfl ?_
                refine ax_if_eq (tgt := 218) dX12_rule_147 (by decide) (fun _ => ?_) (fun z => absurd (by decide) z)
                refine ax_iconst (v := 0) dX12_rule_218 (by decide) ?_
                refine ax_istore (lv' := [(12, _), (11, _), (10, _), (9, _), (8, _), (7, _), (0, _), (1, _), (2, _), (4, _), (5, _), (6, _)]) dX12_rule_219 (by decide) rfl ?_
                refine ax_iload dX12_rule_221 rfl ?_
                refine ax_if_ne (tgt := 228) dX12_rule_223 (by decide) (fun z => absurd z (by decide)) (fun _ => ?_)
                refine ax_iconst (v := -1) dX12_rule_226 (by decide) ?_
                refine ax_iret dX12_rule_227 rfl rfl ?_
                exact fin2 h (if_pos (fun g => by
                    obtain ⟨g1, g2, g3, g4, g5, g6, g7, g8, g9, g10⟩ := g
                    first | exact absurd c_43 (Int32.not_lt.mpr g1) | exact c_53 g2 | exact g3.elim c_62 (fun z => z.elim c_68 c_78) | exact c_91 g4 | exact c_104 g5 | exact c_117 g6 | exact c_132 g7 | exact g8.elim c_153 (fun z => absurd z (Int64.not_le.mpr ((lg_cmp_gt _ _).mp c_161))) | exact g9.elim c_167 c_177 | exact g10.elim c_187 (fun z => c_199 z.1) | exact g10.elim c_187 (fun z => c_208 z.2)))
            · refine ax_if_eq (tgt := 142) dX12_rule_107 (by decide) (fun _ => ?_) (fun z => absurd (by decide) z)
              refine ax_iconst (v := 0) dX12_rule_142 (by decide) ?_
              refine ax_istore (lv' := [(12, _), (11, _), (10, _), (9, _), (8, _), (7, _), (0, _), (1, _), (2, _), (4, _), (5, _), (6, _)]) dX12_rule_143 (by decide) rfl ?_
              refine ax_iload dX12_rule_145 rfl ?_
              refine ax_if_eq (tgt := 218) dX12_rule_147 (by decide) (fun _ => ?_) (fun z => absurd (by decide) z)
              refine ax_iconst (v := 0) dX12_rule_218 (by decide) ?_
              refine ax_istore (lv' := [(12, _), (11, _), (10, _), (9, _), (8, _), (7, _), (0, _), (1, _), (2, _), (4, _), (5, _), (6, _)]) dX12_rule_219 (by decide) rfl ?_
              refine ax_iload dX12_rule_221 rfl ?_
              refine ax_if_ne (tgt := 228) dX12_rule_223 (by decide) (fun z => absurd z (by decide)) (fun _ => ?_)
              refine ax_iconst (v := -1) dX12_rule_226 (by decide) ?_
              refine ax_iret dX12_rule_227 rfl rfl ?_
              exact fin2 h (if_pos (fun g => by
                  obtain ⟨g1, g2, g3, g4, g5, g6, g7, g8, g9, g10⟩ := g
                  first | exact absurd c_43 (Int32.not_lt.mpr g1) | exact c_53 g2 | exact g3.elim c_62 (fun z => z.elim c_68 c_78) | exact c_91 g4 | exact c_104 g5 | exact c_117 g6 | exact c_132 g7 | exact g8.elim c_153 (fun z => absurd z (Int64.not_le.mpr ((lg_cmp_gt _ _).mp c_161))) | exact g9.elim c_167 c_177 | exact g10.elim c_187 (fun z => c_199 z.1) | exact g10.elim c_187 (fun z => c_208 z.2)))
          · refine ax_if_eq (tgt := 142) dX12_rule_94 (by decide) (fun _ => ?_) (fun z => absurd (by decide) z)
            refine ax_iconst (v := 0) dX12_rule_142 (by decide) ?_
            refine ax_istore (lv' := [(12, _), (11, _), (10, _), (9, _), (8, _), (7, _), (0, _), (1, _), (2, _), (4, _), (5, _), (6, _)]) dX12_rule_143 (by decide) rfl ?_
            refine ax_iload dX12_rule_145 rfl ?_
            refine ax_if_eq (tgt := 218) dX12_rule_147 (by decide) (fun _ => ?_) (fun z => absurd (by decide) z)
            refine ax_iconst (v := 0) dX12_rule_218 (by decide) ?_
            refine ax_istore (lv' := [(12, _), (11, _), (10, _), (9, _), (8, _), (7, _), (0, _), (1, _), (2, _), (4, _), (5, _), (6, _)]) dX12_rule_219 (by decide) rfl ?_
            refine ax_iload dX12_rule_221 rfl ?_
            refine ax_if_ne (tgt := 228) dX12_rule_223 (by decide) (fun z => absurd z (by decide)) (fun _ => ?_)
            refine ax_iconst (v := -1) dX12_rule_226 (by decide) ?_
            refine ax_iret dX12_rule_227 rfl rfl ?_
            exact fin2 h (if_pos (fun g => by
                obtain ⟨g1, g2, g3, g4, g5, g6, g7, g8, g9, g10⟩ := g
                first | exact absurd c_43 (Int32.not_lt.mpr g1) | exact c_53 g2 | exact g3.elim c_62 (fun z => z.elim c_68 c_78) | exact c_91 g4 | exact c_104 g5 | exact c_117 g6 | exact c_132 g7 | exact g8.elim c_153 (fun z => absurd z (Int64.not_le.mpr ((lg_cmp_gt _ _).mp c_161))) | exact g9.elim c_167 c_177 | exact g10.elim c_187 (fun z => c_199 z.1) | exact g10.elim c_187 (fun z => c_208 z.2)))
        · refine ax_iload dX12_rule_71 rfl ?_
          refine ax_i2l dX12_rule_73 ?_
          refine ax_lconst (v := 1) dX12_rule_74 (by decide) ?_
          refine ax_ldc2 dX12_rule_75 kc_X12_248 ?_
          refine ax_invS (n := 3) (As := [_, _, _]) dX12_rule_78 cb_X12_isIn cs_X12_242.1 cs_X12_242.2 rfl ⟨Nat.le_of_ble_eq_true rfl, Nat.le_of_ble_eq_true rfl⟩ (Nat.le_of_ble_eq_true rfl) rfl (t_isInI (lo := (1)) (hi := (20)) (fun c_78 => ?_) (fun c_78 => ?_))
          · refine ax_if_eq (tgt := 142) dX12_rule_81 (by decide) (fun z => absurd z (by decide)) (fun _ => ?_)
            refine ax_iload dX12_rule_84 rfl ?_
            refine ax_i2l dX12_rule_86 ?_
            refine ax_lconst (v := 1) dX12_rule_87 (by decide) ?_
            refine ax_ldc2 dX12_rule_88 kc_X12_250 ?_
            refine ax_invS (n := 3) (As := [_, _, _]) dX12_rule_91 cb_X12_isIn cs_X12_242.1 cs_X12_242.2 rfl ⟨Nat.le_of_ble_eq_true rfl, Nat.le_of_ble_eq_true rfl⟩ (Nat.le_of_ble_eq_true rfl) rfl (t_isInI (lo := (1)) (hi := (10)) (fun c_91 => ?_) (fun c_91 => ?_))
            · refine ax_if_eq (tgt := 142) dX12_rule_94 (by decide) (fun z => absurd z (by decide)) (fun _ => ?_)
              refine ax_iload dX12_rule_97 rfl ?_
              refine ax_i2l dX12_rule_99 ?_
              refine ax_lconst (v := 1) dX12_rule_100 (by decide) ?_
              refine ax_ldc2 dX12_rule_101 kc_X12_250 ?_
              refine ax_invS (n := 3) (As := [_, _, _]) dX12_rule_104 cb_X12_isIn cs_X12_242.1 cs_X12_242.2 rfl ⟨Nat.le_of_ble_eq_true rfl, Nat.le_of_ble_eq_true rfl⟩ (Nat.le_of_ble_eq_true rfl) rfl (t_isInI (lo := (1)) (hi := (10)) (fun c_104 => ?_) (fun c_104 => ?_))
              · refine ax_if_eq (tgt := 142) dX12_rule_107 (by decide) (fun z => absurd z (by decide)) (fun _ => ?_)
                refine ax_iload dX12_rule_110 rfl ?_
                refine ax_i2l dX12_rule_112 ?_
                refine ax_lconst (v := 1) dX12_rule_113 (by decide) ?_
                refine ax_ldc2 dX12_rule_114 kc_X12_252 ?_
                refine ax_invS (n := 3) (As := [_, _, _]) dX12_rule_117 cb_X12_isIn cs_X12_242.1 cs_X12_242.2 rfl ⟨Nat.le_of_ble_eq_true rfl, Nat.le_of_ble_eq_true rfl⟩ (Nat.le_of_ble_eq_true rfl) rfl (t_isInI (lo := (1)) (hi := (5)) (fun c_117 => ?_) (fun c_117 => ?_))
                · refine ax_if_eq (tgt := 142) dX12_rule_120 (by decide) (fun z => absurd z (by decide)) (fun _ => ?_)
                  refine ax_iload dX12_rule_123 rfl ?_
                  refine ax_i2l dX12_rule_125 ?_
                  refine ax_ldc2 dX12_rule_126 kc_X12_254 ?_
                  refine ax_ldc2 dX12_rule_129 kc_X12_240 ?_
                  refine ax_invS (n := 3) (As := [_, _, _]) dX12_rule_132 cb_X12_isIn cs_X12_242.1 cs_X12_242.2 rfl ⟨Nat.le_of_ble_eq_true rfl, Nat.le_of_ble_eq_true rfl⟩ (Nat.le_of_ble_eq_true rfl) rfl (t_isInI (lo := (-1)) (hi := (9)) (fun c_132 => ?_) (fun c_132 => ?_))
                  · refine ax_if_eq (tgt := 142) dX12_rule_135 (by decide) (fun z => absurd z (by decide)) (fun _ => ?_)
                    refine ax_iconst (v := 1) dX12_rule_138 (by decide) ?_
                    refine ax_goto (tgt := 143) dX12_rule_139 (by decide) ?_
                    refine ax_istore (lv' := [(12, _), (11, _), (10, _), (9, _), (8, _), (7, _), (0, _), (1, _), (2, _), (4, _), (5, _), (6, _)]) dX12_rule_143 (by decide) rfl ?_
                    refine ax_iload dX12_rule_145 rfl ?_
                    refine ax_if_eq (tgt := 218) dX12_rule_147 (by decide) (fun z => absurd z (by decide)) (fun _ => ?_)
                    refine ax_iload dX12_rule_150 rfl ?_
                    refine ax_iconst (v := 1) dX12_rule_152 (by decide) ?_
                    refine ax_icmp_ne (tgt := 164) dX12_rule_153 (by decide) (fun c_153 => ?_) (fun c_153 => ?_)
                    · refine ax_iload dX12_rule_164 rfl ?_
                      refine ax_iconst (v := 3) dX12_rule_166 (by decide) ?_
                      refine ax_icmp_ne (tgt := 183) dX12_rule_167 (by decide) (fun c_167 => ?_) (fun c_167 => ?_)
                      · refine ax_iload dX12_rule_183 rfl ?_
                        refine ax_bipush (v := 6) dX12_rule_185 (by decide) ?_
                        refine ax_icmp_ne (tgt := 214) dX12_rule_187 (by decide) (fun c_187 => ?_) (fun c_187 => ?_)
                        · refine ax_iconst (v := 1) dX12_rule_214 (by decide) ?_
                          refine ax_goto (tgt := 219) dX12_rule_215 (by decide) ?_
                          refine ax_istore (lv' := [(12, _), (11, _), (10, _), (9, _), (8, _), (7, _), (0, _), (1, _), (2, _), (4, _), (5, _), (6, _)]) dX12_rule_219 (by decide) rfl ?_
                          refine ax_iload dX12_rule_221 rfl ?_
                          refine ax_if_ne (tgt := 228) dX12_rule_223 (by decide) (fun _ => ?_) (fun z => absurd (by decide) z)
                          refine ax_aload_n (i := 0) dX12_rule_228 rfl rfl rfl ?_
                          refine ax_mS dX12_rule_229 fl_X12_234 rfl ?_
                          refine ax_bipush (v := 16) dX12_rule_232 (by decide) ?_
                          refine ax_icmp_ne (tgt := 240) dX12_rule_234 (by decide) (fun c_234 => ?_) (fun c_234 => ?_)
                          · refine ax_aload_n (i := 0) dX12_rule_240 rfl rfl rfl ?_
                            refine ax_mR hm dX12_rule_241 fl_X12_21 rfl (by decide) ?_
                            refine ax_aload_n (i := 0) dX12_rule_244 rfl rfl rfl ?_
                            refine ax_mS dX12_rule_245 fl_X12_234 rfl ?_
                            refine ax_iload dX12_rule_248 rfl ?_
                            refine ax_mPI hm dX12_rule_250 rfl (by decide) (vin_s hr c_234 rfl (by decide) (by decide)) ?_
                            refine ax_aload_n (i := 0) dX12_rule_251 rfl rfl rfl ?_
                            refine ax_mR hm dX12_rule_252 fl_X12_24 rfl (by decide) ?_
                            refine ax_aload_n (i := 0) dX12_rule_255 rfl rfl rfl ?_
                            refine ax_mS dX12_rule_256 fl_X12_234 rfl ?_
                            refine ax_iload dX12_rule_259 rfl ?_
                            refine ax_mPI hm dX12_rule_261 rfl (by decide) (vin_s hr c_234 rfl (by decide) (by decide)) ?_
                            refine ax_aload_n (i := 0) dX12_rule_262 rfl rfl rfl ?_
                            refine ax_mR hm dX12_rule_263 fl_X12_27 rfl (by decide) ?_
                            refine ax_aload_n (i := 0) dX12_rule_266 rfl rfl rfl ?_
                            refine ax_mS dX12_rule_267 fl_X12_234 rfl ?_
                            refine ax_lload_n (i := 2) dX12_rule_270 rfl rfl ?_
                            refine ax_mPJ hm dX12_rule_271 rfl (by decide) (vin_s hr c_234 rfl (by decide) (by decide)) ?_
                            refine ax_aload_n (i := 0) dX12_rule_272 rfl rfl rfl ?_
                            refine ax_mR hm dX12_rule_273 fl_X12_30 rfl (by decide) ?_
                            refine ax_aload_n (i := 0) dX12_rule_276 rfl rfl rfl ?_
                            refine ax_mS dX12_rule_277 fl_X12_234 rfl ?_
                            refine ax_iload dX12_rule_280 rfl ?_
                            refine ax_mPI hm dX12_rule_282 rfl (by decide) (vin_s hr c_234 rfl (by decide) (by decide)) ?_
                            refine ax_aload_n (i := 0) dX12_rule_283 rfl rfl rfl ?_
                            refine ax_mR hm dX12_rule_284 fl_X12_33 rfl (by decide) ?_
                            refine ax_aload_n (i := 0) dX12_rule_287 rfl rfl rfl ?_
                            refine ax_mS dX12_rule_288 fl_X12_234 rfl ?_
                            refine ax_iload dX12_rule_291 rfl ?_
                            refine ax_mPI hm dX12_rule_293 rfl (by decide) (vin_s hr c_234 rfl (by decide) (by decide)) ?_
                            refine ax_aload_n (i := 0) dX12_rule_294 rfl rfl rfl ?_
                            refine ax_mR hm dX12_rule_295 fl_X12_36 rfl (by decide) ?_
                            refine ax_aload_n (i := 0) dX12_rule_298 rfl rfl rfl ?_
                            refine ax_mS dX12_rule_299 fl_X12_234 rfl ?_
                            refine ax_iload dX12_rule_302 rfl ?_
                            refine ax_mPI hm dX12_rule_304 rfl (by decide) (vin_s hr c_234 rfl (by decide) (by decide)) ?_
                            refine ax_aload_n (i := 0) dX12_rule_305 rfl rfl rfl ?_
                            refine ax_mR hm dX12_rule_306 fl_X12_39 rfl (by decide) ?_
                            refine ax_aload_n (i := 0) dX12_rule_309 rfl rfl rfl ?_
                            refine ax_mS dX12_rule_310 fl_X12_234 rfl ?_
                            refine ax_iload dX12_rule_313 rfl ?_
                            refine ax_mPI hm dX12_rule_315 rfl (by decide) (vin_s hr c_234 rfl (by decide) (by decide)) ?_
                            refine ax_aload_n (i := 0) dX12_rule_316 rfl rfl rfl ?_
                            refine ax_mR hm dX12_rule_317 fl_X12_42 rfl (by decide) ?_
                            refine ax_aload_n (i := 0) dX12_rule_320 rfl rfl rfl ?_
                            refine ax_mS dX12_rule_321 fl_X12_234 rfl ?_
                            refine ax_iload dX12_rule_324 rfl ?_
                            refine ax_mPI hm dX12_rule_326 rfl (by decide) (vin_s hr c_234 rfl (by decide) (by decide)) ?_
                            refine ax_aload_n (i := 0) dX12_rule_327 rfl rfl rfl ?_
                            refine ax_mR hm dX12_rule_328 fl_X12_45 rfl (by decide) ?_
                            refine ax_aload_n (i := 0) dX12_rule_331 rfl rfl rfl ?_
                            refine ax_mS dX12_rule_332 fl_X12_234 rfl ?_
                            refine ax_aload_n (i := 0) dX12_rule_335 rfl rfl rfl ?_
                            refine ax_mS dX12_rule_336 fl_X12_262 rfl ?_
                            refine ax_iconst (v := 1) dX12_rule_339 (by decide) ?_
                            refine ax_iadd dX12_rule_340 ?_
                            refine ax_mPI hm dX12_rule_341 rfl (by decide) (vin_s hr c_234 rfl (by decide) (by decide)) ?_
                            refine ax_aload_n (i := 0) dX12_rule_342 rfl rfl rfl ?_
                            refine ax_dup dX12_rule_343 rfl ?_
                            refine ax_mS dX12_rule_344 fl_X12_234 rfl ?_
                            refine ax_iconst (v := 1) dX12_rule_347 (by decide) ?_
                            refine ax_iadd dX12_rule_348 ?_
                            refine ax_mPS dX12_rule_349 fl_X12_234 rfl rfl ?_
                            refine ax_aload_n (i := 0) dX12_rule_352 rfl rfl rfl ?_
                            refine ax_mS dX12_rule_353 fl_X12_234 rfl ?_
                            refine ax_iconst (v := 1) dX12_rule_356 (by decide) ?_
                            refine ax_isub dX12_rule_357 ?_
                            refine ax_iret dX12_rule_358 rfl rfl ?_
                            exact fin2 h ((if_neg (fun z => z ⟨Int32.not_lt.mp c_43, c_53, (by first | exact Or.inl c_62 | exact Or.inr (Or.inl c_68) | exact Or.inr (Or.inr c_78)), c_91, c_104, c_117, c_132, (by first | exact Or.inl c_153 | exact Or.inr (Int64.not_lt.mp (fun z => c_161 ((lg_cmp_gt _ _).mpr z)))), (by first | exact Or.inl c_167 | exact Or.inr c_177), (by first | exact Or.inl c_187 | exact Or.inr ⟨c_199, c_208⟩)⟩)).trans ((if_neg c_234).trans rfl))
                          · refine ax_bipush (v := -2) dX12_rule_237 (by decide) ?_
                            refine ax_iret dX12_rule_239 rfl rfl ?_
                            exact fin2 h ((if_neg (fun z => z ⟨Int32.not_lt.mp c_43, c_53, (by first | exact Or.inl c_62 | exact Or.inr (Or.inl c_68) | exact Or.inr (Or.inr c_78)), c_91, c_104, c_117, c_132, (by first | exact Or.inl c_153 | exact Or.inr (Int64.not_lt.mp (fun z => c_161 ((lg_cmp_gt _ _).mpr z)))), (by first | exact Or.inl c_167 | exact Or.inr c_177), (by first | exact Or.inl c_187 | exact Or.inr ⟨c_199, c_208⟩)⟩)).trans (if_pos (Classical.not_not.mp c_234)))
                        · refine ax_lload_n (i := 2) dX12_rule_190 rfl rfl ?_
                          refine ax_lconst (v := 0) dX12_rule_191 (by decide) ?_
                          refine ax_aload_n (i := 0) dX12_rule_192 rfl rfl rfl ?_
                          refine ax_mS dX12_rule_193 fl_X12_234 rfl ?_
                          refine ax_iconst (v := 1) dX12_rule_196 (by decide) ?_
                          refine ax_isub dX12_rule_197 ?_
                          refine ax_i2l dX12_rule_198 ?_
                          refine ax_invS (n := 3) (As := [_, _, _]) dX12_rule_199 cb_X12_isIn cs_X12_242.1 cs_X12_242.2 rfl ⟨Nat.le_of_ble_eq_true rfl, Nat.le_of_ble_eq_true rfl⟩ (Nat.le_of_ble_eq_true rfl) rfl (t_isIn (fun c_199 => ?_) (fun c_199 => ?_))
                          · refine ax_if_eq (tgt := 218) dX12_rule_202 (by decide) (fun z => absurd z (by decide)) (fun _ => ?_)
                            refine ax_aload_n (i := 0) dX12_rule_205 rfl rfl rfl ?_
                            refine ax_iload dX12_rule_206 rfl ?_
                            refine ax_invV (c := 13) (n := 1) (As := [_]) dX12_rule_208 cb_X12_isRule cv_X12_258.1 cv_X12_258.2.1 cv_X12_258.2.2 rfl (by decide) rfl ⟨Nat.le_of_ble_eq_true rfl, Nat.le_of_ble_eq_true rfl⟩ (Nat.le_of_ble_eq_true rfl) rfl (t_isRule (fun c_208 => ?_) (fun c_208 => ?_))
                            · refine ax_if_eq (tgt := 218) dX12_rule_211 (by decide) (fun z => absurd z (by decide)) (fun _ => ?_)
                              refine ax_iconst (v := 1) dX12_rule_214 (by decide) ?_
                              refine ax_goto (tgt := 219) dX12_rule_215 (by decide) ?_
                              refine ax_istore (lv' := [(12, _), (11, _), (10, _), (9, _), (8, _), (7, _), (0, _), (1, _), (2, _), (4, _), (5, _), (6, _)]) dX12_rule_219 (by decide) rfl ?_
                              refine ax_iload dX12_rule_221 rfl ?_
                              refine ax_if_ne (tgt := 228) dX12_rule_223 (by decide) (fun _ => ?_) (fun z => absurd (by decide) z)
                              refine ax_aload_n (i := 0) dX12_rule_228 rfl rfl rfl ?_
                              refine ax_mS dX12_rule_229 fl_X12_234 rfl ?_
                              refine ax_bipush (v := 16) dX12_rule_232 (by decide) ?_
                              refine ax_icmp_ne (tgt := 240) dX12_rule_234 (by decide) (fun c_234 => ?_) (fun c_234 => ?_)
                              · refine ax_aload_n (i := 0) dX12_rule_240 rfl rfl rfl ?_
                                refine ax_mR hm dX12_rule_241 fl_X12_21 rfl (by decide) ?_
                                refine ax_aload_n (i := 0) dX12_rule_244 rfl rfl rfl ?_
                                refine ax_mS dX12_rule_245 fl_X12_234 rfl ?_
                                refine ax_iload dX12_rule_248 rfl ?_
                                refine ax_mPI hm dX12_rule_250 rfl (by decide) (vin_s hr c_234 rfl (by decide) (by decide)) ?_
                                refine ax_aload_n (i := 0) dX12_rule_251 rfl rfl rfl ?_
                                refine ax_mR hm dX12_rule_252 fl_X12_24 rfl (by decide) ?_
                                refine ax_aload_n (i := 0) dX12_rule_255 rfl rfl rfl ?_
                                refine ax_mS dX12_rule_256 fl_X12_234 rfl ?_
                                refine ax_iload dX12_rule_259 rfl ?_
                                refine ax_mPI hm dX12_rule_261 rfl (by decide) (vin_s hr c_234 rfl (by decide) (by decide)) ?_
                                refine ax_aload_n (i := 0) dX12_rule_262 rfl rfl rfl ?_
                                refine ax_mR hm dX12_rule_263 fl_X12_27 rfl (by decide) ?_
                                refine ax_aload_n (i := 0) dX12_rule_266 rfl rfl rfl ?_
                                refine ax_mS dX12_rule_267 fl_X12_234 rfl ?_
                                refine ax_lload_n (i := 2) dX12_rule_270 rfl rfl ?_
                                refine ax_mPJ hm dX12_rule_271 rfl (by decide) (vin_s hr c_234 rfl (by decide) (by decide)) ?_
                                refine ax_aload_n (i := 0) dX12_rule_272 rfl rfl rfl ?_
                                refine ax_mR hm dX12_rule_273 fl_X12_30 rfl (by decide) ?_
                                refine ax_aload_n (i := 0) dX12_rule_276 rfl rfl rfl ?_
                                refine ax_mS dX12_rule_277 fl_X12_234 rfl ?_
                                refine ax_iload dX12_rule_280 rfl ?_
                                refine ax_mPI hm dX12_rule_282 rfl (by decide) (vin_s hr c_234 rfl (by decide) (by decide)) ?_
                                refine ax_aload_n (i := 0) dX12_rule_283 rfl rfl rfl ?_
                                refine ax_mR hm dX12_rule_284 fl_X12_33 rfl (by decide) ?_
                                refine ax_aload_n (i := 0) dX12_rule_287 rfl rfl rfl ?_
                                refine ax_mS dX12_rule_288 fl_X12_234 rfl ?_
                                refine ax_iload dX12_rule_291 rfl ?_
                                refine ax_mPI hm dX12_rule_293 rfl (by decide) (vin_s hr c_234 rfl (by decide) (by decide)) ?_
                                refine ax_aload_n (i := 0) dX12_rule_294 rfl rfl rfl ?_
                                refine ax_mR hm dX12_rule_295 fl_X12_36 rfl (by decide) ?_
                                refine ax_aload_n (i := 0) dX12_rule_298 rfl rfl rfl ?_
                                refine ax_mS dX12_rule_299 fl_X12_234 rfl ?_
                                refine ax_iload dX12_rule_302 rfl ?_
                                refine ax_mPI hm dX12_rule_304 rfl (by decide) (vin_s hr c_234 rfl (by decide) (by decide)) ?_
                                refine ax_aload_n (i := 0) dX12_rule_305 rfl rfl rfl ?_
                                refine ax_mR hm dX12_rule_306 fl_X12_39 rfl (by decide) ?_
                                refine ax_aload_n (i := 0) dX12_rule_309 rfl rfl rfl ?_
                                refine ax_mS dX12_rule_310 fl_X12_234 rfl ?_
                                refine ax_iload dX12_rule_313 rfl ?_
                                refine ax_mPI hm dX12_rule_315 rfl (by decide) (vin_s hr c_234 rfl (by decide) (by decide)) ?_
                                refine ax_aload_n (i := 0) dX12_rule_316 rfl rfl rfl ?_
                                refine ax_mR hm dX12_rule_317 fl_X12_42 rfl (by decide) ?_
                                refine ax_aload_n (i := 0) dX12_rule_320 rfl rfl rfl ?_
                                refine ax_mS dX12_rule_321 fl_X12_234 rfl ?_
                                refine ax_iload dX12_rule_324 rfl ?_
                                refine ax_mPI hm dX12_rule_326 rfl (by decide) (vin_s hr c_234 rfl (by decide) (by decide)) ?_
                                refine ax_aload_n (i := 0) dX12_rule_327 rfl rfl rfl ?_
                                refine ax_mR hm dX12_rule_328 fl_X12_45 rfl (by decide) ?_
                                refine ax_aload_n (i := 0) dX12_rule_331 rfl rfl rfl ?_
                                refine ax_mS dX12_rule_332 fl_X12_234 rfl ?_
                                refine ax_aload_n (i := 0) dX12_rule_335 rfl rfl rfl ?_
                                refine ax_mS dX12_rule_336 fl_X12_262 rfl ?_
                                refine ax_iconst (v := 1) dX12_rule_339 (by decide) ?_
                                refine ax_iadd dX12_rule_340 ?_
                                refine ax_mPI hm dX12_rule_341 rfl (by decide) (vin_s hr c_234 rfl (by decide) (by decide)) ?_
                                refine ax_aload_n (i := 0) dX12_rule_342 rfl rfl rfl ?_
                                refine ax_dup dX12_rule_343 rfl ?_
                                refine ax_mS dX12_rule_344 fl_X12_234 rfl ?_
                                refine ax_iconst (v := 1) dX12_rule_347 (by decide) ?_
                                refine ax_iadd dX12_rule_348 ?_
                                refine ax_mPS dX12_rule_349 fl_X12_234 rfl rfl ?_
                                refine ax_aload_n (i := 0) dX12_rule_352 rfl rfl rfl ?_
                                refine ax_mS dX12_rule_353 fl_X12_234 rfl ?_
                                refine ax_iconst (v := 1) dX12_rule_356 (by decide) ?_
                                refine ax_isub dX12_rule_357 ?_
                                refine ax_iret dX12_rule_358 rfl rfl ?_
                                exact fin2 h ((if_neg (fun z => z ⟨Int32.not_lt.mp c_43, c_53, (by first | exact Or.inl c_62 | exact Or.inr (Or.inl c_68) | exact Or.inr (Or.inr c_78)), c_91, c_104, c_117, c_132, (by first | exact Or.inl c_153 | exact Or.inr (Int64.not_lt.mp (fun z => c_161 ((lg_cmp_gt _ _).mpr z)))), (by first | exact Or.inl c_167 | exact Or.inr c_177), (by first | exact Or.inl c_187 | exact Or.inr ⟨c_199, c_208⟩)⟩)).trans ((if_neg c_234).trans rfl))
                              · refine ax_bipush (v := -2) dX12_rule_237 (by decide) ?_
                                refine ax_iret dX12_rule_239 rfl rfl ?_
                                exact fin2 h ((if_neg (fun z => z ⟨Int32.not_lt.mp c_43, c_53, (by first | exact Or.inl c_62 | exact Or.inr (Or.inl c_68) | exact Or.inr (Or.inr c_78)), c_91, c_104, c_117, c_132, (by first | exact Or.inl c_153 | exact Or.inr (Int64.not_lt.mp (fun z => c_161 ((lg_cmp_gt _ _).mpr z)))), (by first | exact Or.inl c_167 | exact Or.inr c_177), (by first | exact Or.inl c_187 | exact Or.inr ⟨c_199, c_208⟩)⟩)).trans (if_pos (Classical.not_not.mp c_234)))
                            · refine ax_if_eq (tgt := 218) dX12_rule_211 (by decide) (fun _ => ?_) (fun z => absurd (by decide) z)
                              refine ax_iconst (v := 0) dX12_rule_218 (by decide) ?_
                              refine ax_istore (lv' := [(12, _), (11, _), (10, _), (9, _), (8, _), (7, _), (0, _), (1, _), (2, _), (4, _), (5, _), (6, _)]) dX12_rule_219 (by decide) rfl ?_
                              refine ax_iload dX12_rule_221 rfl ?_
                              refine ax_if_ne (tgt := 228) dX12_rule_223 (by decide) (fun z => absurd z (by decide)) (fun _ => ?_)
                              refine ax_iconst (v := -1) dX12_rule_226 (by decide) ?_
                              refine ax_iret dX12_rule_227 rfl rfl ?_
                              exact fin2 h (if_pos (fun g => by
                                  obtain ⟨g1, g2, g3, g4, g5, g6, g7, g8, g9, g10⟩ := g
                                  first | exact absurd c_43 (Int32.not_lt.mpr g1) | exact c_53 g2 | exact g3.elim c_62 (fun z => z.elim c_68 c_78) | exact c_91 g4 | exact c_104 g5 | exact c_117 g6 | exact c_132 g7 | exact g8.elim c_153 (fun z => absurd z (Int64.not_le.mpr ((lg_cmp_gt _ _).mp c_161))) | exact g9.elim c_167 c_177 | exact g10.elim c_187 (fun z => c_199 z.1) | exact g10.elim c_187 (fun z => c_208 z.2)))
                          · refine ax_if_eq (tgt := 218) dX12_rule_202 (by decide) (fun _ => ?_) (fun z => absurd (by decide) z)
                            refine ax_iconst (v := 0) dX12_rule_218 (by decide) ?_
                            refine ax_istore (lv' := [(12, _), (11, _), (10, _), (9, _), (8, _), (7, _), (0, _), (1, _), (2, _), (4, _), (5, _), (6, _)]) dX12_rule_219 (by decide) rfl ?_
                            refine ax_iload dX12_rule_221 rfl ?_
                            refine ax_if_ne (tgt := 228) dX12_rule_223 (by decide) (fun z => absurd z (by decide)) (fun _ => ?_)
                            refine ax_iconst (v := -1) dX12_rule_226 (by decide) ?_
                            refine ax_iret dX12_rule_227 rfl rfl ?_
                            exact fin2 h (if_pos (fun g => by
                                obtain ⟨g1, g2, g3, g4, g5, g6, g7, g8, g9, g10⟩ := g
                                first | exact absurd c_43 (Int32.not_lt.mpr g1) | exact c_53 g2 | exact g3.elim c_62 (fun z => z.elim c_68 c_78) | exact c_91 g4 | exact c_104 g5 | exact c_117 g6 | exact c_132 g7 | exact g8.elim c_153 (fun z => absurd z (Int64.not_le.mpr ((lg_cmp_gt _ _).mp c_161))) | exact g9.elim c_167 c_177 | exact g10.elim c_187 (fun z => c_199 z.1) | exact g10.elim c_187 (fun z => c_208 z.2)))
                      · refine ax_iload dX12_rule_170 rfl ?_
                        refine ax_i2l dX12_rule_172 ?_
                        refine ax_lconst (v := 1) dX12_rule_173 (by decide) ?_
                        refine ax_ldc2 dX12_rule_174 kc_X12_256 ?_
                        refine ax_invS (n := 3) (As := [_, _, _]) dX12_rule_177 cb_X12_isIn cs_X12_242.1 cs_X12_242.2 rfl ⟨Nat.le_of_ble_eq_true rfl, Nat.le_of_ble_eq_true rfl⟩ (Nat.le_of_ble_eq_true rfl) rfl (t_isInI (lo := (1)) (hi := (100)) (fun c_177 => ?_) (fun c_177 => ?_))
                        · refine ax_if_eq (tgt := 218) dX12_rule_180 (by decide) (fun z => absurd z (by decide)) (fun _ => ?_)
                          refine ax_iload dX12_rule_183 rfl ?_
                          refine ax_bipush (v := 6) dX12_rule_185 (by decide) ?_
                          refine ax_icmp_ne (tgt := 214) dX12_rule_187 (by decide) (fun c_187 => ?_) (fun c_187 => ?_)
                          · refine ax_iconst (v := 1) dX12_rule_214 (by decide) ?_
                            refine ax_goto (tgt := 219) dX12_rule_215 (by decide) ?_
                            refine ax_istore (lv' := [(12, _), (11, _), (10, _), (9, _), (8, _), (7, _), (0, _), (1, _), (2, _), (4, _), (5, _), (6, _)]) dX12_rule_219 (by decide) rfl ?_
                            refine ax_iload dX12_rule_221 rfl ?_
                            refine ax_if_ne (tgt := 228) dX12_rule_223 (by decide) (fun _ => ?_) (fun z => absurd (by decide) z)
                            refine ax_aload_n (i := 0) dX12_rule_228 rfl rfl rfl ?_
                            refine ax_mS dX12_rule_229 fl_X12_234 rfl ?_
                            refine ax_bipush (v := 16) dX12_rule_232 (by decide) ?_
                            refine ax_icmp_ne (tgt := 240) dX12_rule_234 (by decide) (fun c_234 => ?_) (fun c_234 => ?_)
                            · refine ax_aload_n (i := 0) dX12_rule_240 rfl rfl rfl ?_
                              refine ax_mR hm dX12_rule_241 fl_X12_21 rfl (by decide) ?_
                              refine ax_aload_n (i := 0) dX12_rule_244 rfl rfl rfl ?_
                              refine ax_mS dX12_rule_245 fl_X12_234 rfl ?_
                              refine ax_iload dX12_rule_248 rfl ?_
                              refine ax_mPI hm dX12_rule_250 rfl (by decide) (vin_s hr c_234 rfl (by decide) (by decide)) ?_
                              refine ax_aload_n (i := 0) dX12_rule_251 rfl rfl rfl ?_
                              refine ax_mR hm dX12_rule_252 fl_X12_24 rfl (by decide) ?_
                              refine ax_aload_n (i := 0) dX12_rule_255 rfl rfl rfl ?_
                              refine ax_mS dX12_rule_256 fl_X12_234 rfl ?_
                              refine ax_iload dX12_rule_259 rfl ?_
                              refine ax_mPI hm dX12_rule_261 rfl (by decide) (vin_s hr c_234 rfl (by decide) (by decide)) ?_
                              refine ax_aload_n (i := 0) dX12_rule_262 rfl rfl rfl ?_
                              refine ax_mR hm dX12_rule_263 fl_X12_27 rfl (by decide) ?_
                              refine ax_aload_n (i := 0) dX12_rule_266 rfl rfl rfl ?_
                              refine ax_mS dX12_rule_267 fl_X12_234 rfl ?_
                              refine ax_lload_n (i := 2) dX12_rule_270 rfl rfl ?_
                              refine ax_mPJ hm dX12_rule_271 rfl (by decide) (vin_s hr c_234 rfl (by decide) (by decide)) ?_
                              refine ax_aload_n (i := 0) dX12_rule_272 rfl rfl rfl ?_
                              refine ax_mR hm dX12_rule_273 fl_X12_30 rfl (by decide) ?_
                              refine ax_aload_n (i := 0) dX12_rule_276 rfl rfl rfl ?_
                              refine ax_mS dX12_rule_277 fl_X12_234 rfl ?_
                              refine ax_iload dX12_rule_280 rfl ?_
                              refine ax_mPI hm dX12_rule_282 rfl (by decide) (vin_s hr c_234 rfl (by decide) (by decide)) ?_
                              refine ax_aload_n (i := 0) dX12_rule_283 rfl rfl rfl ?_
                              refine ax_mR hm dX12_rule_284 fl_X12_33 rfl (by decide) ?_
                              refine ax_aload_n (i := 0) dX12_rule_287 rfl rfl rfl ?_
                              refine ax_mS dX12_rule_288 fl_X12_234 rfl ?_
                              refine ax_iload dX12_rule_291 rfl ?_
                              refine ax_mPI hm dX12_rule_293 rfl (by decide) (vin_s hr c_234 rfl (by decide) (by decide)) ?_
                              refine ax_aload_n (i := 0) dX12_rule_294 rfl rfl rfl ?_
                              refine ax_mR hm dX12_rule_295 fl_X12_36 rfl (by decide) ?_
                              refine ax_aload_n (i := 0) dX12_rule_298 rfl rfl rfl ?_
                              refine ax_mS dX12_rule_299 fl_X12_234 rfl ?_
                              refine ax_iload dX12_rule_302 rfl ?_
                              refine ax_mPI hm dX12_rule_304 rfl (by decide) (vin_s hr c_234 rfl (by decide) (by decide)) ?_
                              refine ax_aload_n (i := 0) dX12_rule_305 rfl rfl rfl ?_
                              refine ax_mR hm dX12_rule_306 fl_X12_39 rfl (by decide) ?_
                              refine ax_aload_n (i := 0) dX12_rule_309 rfl rfl rfl ?_
                              refine ax_mS dX12_rule_310 fl_X12_234 rfl ?_
                              refine ax_iload dX12_rule_313 rfl ?_
                              refine ax_mPI hm dX12_rule_315 rfl (by decide) (vin_s hr c_234 rfl (by decide) (by decide)) ?_
                              refine ax_aload_n (i := 0) dX12_rule_316 rfl rfl rfl ?_
                              refine ax_mR hm dX12_rule_317 fl_X12_42 rfl (by decide) ?_
                              refine ax_aload_n (i := 0) dX12_rule_320 rfl rfl rfl ?_
                              refine ax_mS dX12_rule_321 fl_X12_234 rfl ?_
                              refine ax_iload dX12_rule_324 rfl ?_
                              refine ax_mPI hm dX12_rule_326 rfl (by decide) (vin_s hr c_234 rfl (by decide) (by decide)) ?_
                              refine ax_aload_n (i := 0) dX12_rule_327 rfl rfl rfl ?_
                              refine ax_mR hm dX12_rule_328 fl_X12_45 rfl (by decide) ?_
                              refine ax_aload_n (i := 0) dX12_rule_331 rfl rfl rfl ?_
                              refine ax_mS dX12_rule_332 fl_X12_234 rfl ?_
                              refine ax_aload_n (i := 0) dX12_rule_335 rfl rfl rfl ?_
                              refine ax_mS dX12_rule_336 fl_X12_262 rfl ?_
                              refine ax_iconst (v := 1) dX12_rule_339 (by decide) ?_
                              refine ax_iadd dX12_rule_340 ?_
                              refine ax_mPI hm dX12_rule_341 rfl (by decide) (vin_s hr c_234 rfl (by decide) (by decide)) ?_
                              refine ax_aload_n (i := 0) dX12_rule_342 rfl rfl rfl ?_
                              refine ax_dup dX12_rule_343 rfl ?_
                              refine ax_mS dX12_rule_344 fl_X12_234 rfl ?_
                              refine ax_iconst (v := 1) dX12_rule_347 (by decide) ?_
                              refine ax_iadd dX12_rule_348 ?_
                              refine ax_mPS dX12_rule_349 fl_X12_234 rfl rfl ?_
                              refine ax_aload_n (i := 0) dX12_rule_352 rfl rfl rfl ?_
                              refine ax_mS dX12_rule_353 fl_X12_234 rfl ?_
                              refine ax_iconst (v := 1) dX12_rule_356 (by decide) ?_
                              refine ax_isub dX12_rule_357 ?_
                              refine ax_iret dX12_rule_358 rfl rfl ?_
                              exact fin2 h ((if_neg (fun z => z ⟨Int32.not_lt.mp c_43, c_53, (by first | exact Or.inl c_62 | exact Or.inr (Or.inl c_68) | exact Or.inr (Or.inr c_78)), c_91, c_104, c_117, c_132, (by first | exact Or.inl c_153 | exact Or.inr (Int64.not_lt.mp (fun z => c_161 ((lg_cmp_gt _ _).mpr z)))), (by first | exact Or.inl c_167 | exact Or.inr c_177), (by first | exact Or.inl c_187 | exact Or.inr ⟨c_199, c_208⟩)⟩)).trans ((if_neg c_234).trans rfl))
                            · refine ax_bipush (v := -2) dX12_rule_237 (by decide) ?_
                              refine ax_iret dX12_rule_239 rfl rfl ?_
                              exact fin2 h ((if_neg (fun z => z ⟨Int32.not_lt.mp c_43, c_53, (by first | exact Or.inl c_62 | exact Or.inr (Or.inl c_68) | exact Or.inr (Or.inr c_78)), c_91, c_104, c_117, c_132, (by first | exact Or.inl c_153 | exact Or.inr (Int64.not_lt.mp (fun z => c_161 ((lg_cmp_gt _ _).mpr z)))), (by first | exact Or.inl c_167 | exact Or.inr c_177), (by first | exact Or.inl c_187 | exact Or.inr ⟨c_199, c_208⟩)⟩)).trans (if_pos (Classical.not_not.mp c_234)))
                          · refine ax_lload_n (i := 2) dX12_rule_190 rfl rfl ?_
                            refine ax_lconst (v := 0) dX12_rule_191 (by decide) ?_
                            refine ax_aload_n (i := 0) dX12_rule_192 rfl rfl rfl ?_
                            refine ax_mS dX12_rule_193 fl_X12_234 rfl ?_
                            refine ax_iconst (v := 1) dX12_rule_196 (by decide) ?_
                            refine ax_isub dX12_rule_197 ?_
                            refine ax_i2l dX12_rule_198 ?_
                            refine ax_invS (n := 3) (As := [_, _, _]) dX12_rule_199 cb_X12_isIn cs_X12_242.1 cs_X12_242.2 rfl ⟨Nat.le_of_ble_eq_true rfl, Nat.le_of_ble_eq_true rfl⟩ (Nat.le_of_ble_eq_true rfl) rfl (t_isIn (fun c_199 => ?_) (fun c_199 => ?_))
                            · refine ax_if_eq (tgt := 218) dX12_rule_202 (by decide) (fun z => absurd z (by decide)) (fun _ => ?_)
                              refine ax_aload_n (i := 0) dX12_rule_205 rfl rfl rfl ?_
                              refine ax_iload dX12_rule_206 rfl ?_
                              refine ax_invV (c := 13) (n := 1) (As := [_]) dX12_rule_208 cb_X12_isRule cv_X12_258.1 cv_X12_258.2.1 cv_X12_258.2.2 rfl (by decide) rfl ⟨Nat.le_of_ble_eq_true rfl, Nat.le_of_ble_eq_true rfl⟩ (Nat.le_of_ble_eq_true rfl) rfl (t_isRule (fun c_208 => ?_) (fun c_208 => ?_))
                              · refine ax_if_eq (tgt := 218) dX12_rule_211 (by decide) (fun z => absurd z (by decide)) (fun _ => ?_)
                                refine ax_iconst (v := 1) dX12_rule_214 (by decide) ?_
                                refine ax_goto (tgt := 219) dX12_rule_215 (by decide) ?_
                                refine ax_istore (lv' := [(12, _), (11, _), (10, _), (9, _), (8, _), (7, _), (0, _), (1, _), (2, _), (4, _), (5, _), (6, _)]) dX12_rule_219 (by decide) rfl ?_
                                refine ax_iload dX12_rule_221 rfl ?_
                                refine ax_if_ne (tgt := 228) dX12_rule_223 (by decide) (fun _ => ?_) (fun z => absurd (by decide) z)
                                refine ax_aload_n (i := 0) dX12_rule_228 rfl rfl rfl ?_
                                refine ax_mS dX12_rule_229 fl_X12_234 rfl ?_
                                refine ax_bipush (v := 16) dX12_rule_232 (by decide) ?_
                                refine ax_icmp_ne (tgt := 240) dX12_rule_234 (by decide) (fun c_234 => ?_) (fun c_234 => ?_)
                                · refine ax_aload_n (i := 0) dX12_rule_240 rfl rfl rfl ?_
                                  refine ax_mR hm dX12_rule_241 fl_X12_21 rfl (by decide) ?_
                                  refine ax_aload_n (i := 0) dX12_rule_244 rfl rfl rfl ?_
                                  refine ax_mS dX12_rule_245 fl_X12_234 rfl ?_
                                  refine ax_iload dX12_rule_248 rfl ?_
                                  refine ax_mPI hm dX12_rule_250 rfl (by decide) (vin_s hr c_234 rfl (by decide) (by decide)) ?_
                                  refine ax_aload_n (i := 0) dX12_rule_251 rfl rfl rfl ?_
                                  refine ax_mR hm dX12_rule_252 fl_X12_24 rfl (by decide) ?_
                                  refine ax_aload_n (i := 0) dX12_rule_255 rfl rfl rfl ?_
                                  refine ax_mS dX12_rule_256 fl_X12_234 rfl ?_
                                  refine ax_iload dX12_rule_259 rfl ?_
                                  refine ax_mPI hm dX12_rule_261 rfl (by decide) (vin_s hr c_234 rfl (by decide) (by decide)) ?_
                                  refine ax_aload_n (i := 0) dX12_rule_262 rfl rfl rfl ?_
                                  refine ax_mR hm dX12_rule_263 fl_X12_27 rfl (by decide) ?_
                                  refine ax_aload_n (i := 0) dX12_rule_266 rfl rfl rfl ?_
                                  refine ax_mS dX12_rule_267 fl_X12_234 rfl ?_
                                  refine ax_lload_n (i := 2) dX12_rule_270 rfl rfl ?_
                                  refine ax_mPJ hm dX12_rule_271 rfl (by decide) (vin_s hr c_234 rfl (by decide) (by decide)) ?_
                                  refine ax_aload_n (i := 0) dX12_rule_272 rfl rfl rfl ?_
                                  refine ax_mR hm dX12_rule_273 fl_X12_30 rfl (by decide) ?_
                                  refine ax_aload_n (i := 0) dX12_rule_276 rfl rfl rfl ?_
                                  refine ax_mS dX12_rule_277 fl_X12_234 rfl ?_
                                  refine ax_iload dX12_rule_280 rfl ?_
                                  refine ax_mPI hm dX12_rule_282 rfl (by decide) (vin_s hr c_234 rfl (by decide) (by decide)) ?_
                                  refine ax_aload_n (i := 0) dX12_rule_283 rfl rfl rfl ?_
                                  refine ax_mR hm dX12_rule_284 fl_X12_33 rfl (by decide) ?_
                                  refine ax_aload_n (i := 0) dX12_rule_287 rfl rfl rfl ?_
                                  refine ax_mS dX12_rule_288 fl_X12_234 rfl ?_
                                  refine ax_iload dX12_rule_291 rfl ?_
                                  refine ax_mPI hm dX12_rule_293 rfl (by decide) (vin_s hr c_234 rfl (by decide) (by decide)) ?_
                                  refine ax_aload_n (i := 0) dX12_rule_294 rfl rfl rfl ?_
                                  refine ax_mR hm dX12_rule_295 fl_X12_36 rfl (by decide) ?_
                                  refine ax_aload_n (i := 0) dX12_rule_298 rfl rfl rfl ?_
                                  refine ax_mS dX12_rule_299 fl_X12_234 rfl ?_
                                  refine ax_iload dX12_rule_302 rfl ?_
                                  refine ax_mPI hm dX12_rule_304 rfl (by decide) (vin_s hr c_234 rfl (by decide) (by decide)) ?_
                                  refine ax_aload_n (i := 0) dX12_rule_305 rfl rfl rfl ?_
                                  refine ax_mR hm dX12_rule_306 fl_X12_39 rfl (by decide) ?_
                                  refine ax_aload_n (i := 0) dX12_rule_309 rfl rfl rfl ?_
                                  refine ax_mS dX12_rule_310 fl_X12_234 rfl ?_
                                  refine ax_iload dX12_rule_313 rfl ?_
                                  refine ax_mPI hm dX12_rule_315 rfl (by decide) (vin_s hr c_234 rfl (by decide) (by decide)) ?_
                                  refine ax_aload_n (i := 0) dX12_rule_316 rfl rfl rfl ?_
                                  refine ax_mR hm dX12_rule_317 fl_X12_42 rfl (by decide) ?_
                                  refine ax_aload_n (i := 0) dX12_rule_320 rfl rfl rfl ?_
                                  refine ax_mS dX12_rule_321 fl_X12_234 rfl ?_
                                  refine ax_iload dX12_rule_324 rfl ?_
                                  refine ax_mPI hm dX12_rule_326 rfl (by decide) (vin_s hr c_234 rfl (by decide) (by decide)) ?_
                                  refine ax_aload_n (i := 0) dX12_rule_327 rfl rfl rfl ?_
                                  refine ax_mR hm dX12_rule_328 fl_X12_45 rfl (by decide) ?_
                                  refine ax_aload_n (i := 0) dX12_rule_331 rfl rfl rfl ?_
                                  refine ax_mS dX12_rule_332 fl_X12_234 rfl ?_
                                  refine ax_aload_n (i := 0) dX12_rule_335 rfl rfl rfl ?_
                                  refine ax_mS dX12_rule_336 fl_X12_262 rfl ?_
                                  refine ax_iconst (v := 1) dX12_rule_339 (by decide) ?_
                                  refine ax_iadd dX12_rule_340 ?_
                                  refine ax_mPI hm dX12_rule_341 rfl (by decide) (vin_s hr c_234 rfl (by decide) (by decide)) ?_
                                  refine ax_aload_n (i := 0) dX12_rule_342 rfl rfl rfl ?_
                                  refine ax_dup dX12_rule_343 rfl ?_
                                  refine ax_mS dX12_rule_344 fl_X12_234 rfl ?_
                                  refine ax_iconst (v := 1) dX12_rule_347 (by decide) ?_
                                  refine ax_iadd dX12_rule_348 ?_
                                  refine ax_mPS dX12_rule_349 fl_X12_234 rfl rfl ?_
                                  refine ax_aload_n (i := 0) dX12_rule_352 rfl rfl rfl ?_
                                  refine ax_mS dX12_rule_353 fl_X12_234 rfl ?_
                                  refine ax_iconst (v := 1) dX12_rule_356 (by decide) ?_
                                  refine ax_isub dX12_rule_357 ?_
                                  refine ax_iret dX12_rule_358 rfl rfl ?_
                                  exact fin2 h ((if_neg (fun z => z ⟨Int32.not_lt.mp c_43, c_53, (by first | exact Or.inl c_62 | exact Or.inr (Or.inl c_68) | exact Or.inr (Or.inr c_78)), c_91, c_104, c_117, c_132, (by first | exact Or.inl c_153 | exact Or.inr (Int64.not_lt.mp (fun z => c_161 ((lg_cmp_gt _ _).mpr z)))), (by first | exact Or.inl c_167 | exact Or.inr c_177), (by first | exact Or.inl c_187 | exact Or.inr ⟨c_199, c_208⟩)⟩)).trans ((if_neg c_234).trans rfl))
                                · refine ax_bipush (v := -2) dX12_rule_237 (by decide) ?_
                                  refine ax_iret dX12_rule_239 rfl rfl ?_
                                  exact fin2 h ((if_neg (fun z => z ⟨Int32.not_lt.mp c_43, c_53, (by first | exact Or.inl c_62 | exact Or.inr (Or.inl c_68) | exact Or.inr (Or.inr c_78)), c_91, c_104, c_117, c_132, (by first | exact Or.inl c_153 | exact Or.inr (Int64.not_lt.mp (fun z => c_161 ((lg_cmp_gt _ _).mpr z)))), (by first | exact Or.inl c_167 | exact Or.inr c_177), (by first | exact Or.inl c_187 | exact Or.inr ⟨c_199, c_208⟩)⟩)).trans (if_pos (Classical.not_not.mp c_234)))
                              · refine ax_if_eq (tgt := 218) dX12_rule_211 (by decide) (fun _ => ?_) (fun z => absurd (by decide) z)
                                refine ax_iconst (v := 0) dX12_rule_218 (by decide) ?_
                                refine ax_istore (lv' := [(12, _), (11, _), (10, _), (9, _), (8, _), (7, _), (0, _), (1, _), (2, _), (4, _), (5, _), (6, _)]) dX12_rule_219 (by decide) rfl ?_
                                refine ax_iload dX12_rule_221 rfl ?_
                                refine ax_if_ne (tgt := 228) dX12_rule_223 (by decide) (fun z => absurd z (by decide)) (fun _ => ?_)
                                refine ax_iconst (v := -1) dX12_rule_226 (by decide) ?_
                                refine ax_iret dX12_rule_227 rfl rfl ?_
                                exact fin2 h (if_pos (fun g => by
                                    obtain ⟨g1, g2, g3, g4, g5, g6, g7, g8, g9, g10⟩ := g
                                    first | exact absurd c_43 (Int32.not_lt.mpr g1) | exact c_53 g2 | exact g3.elim c_62 (fun z => z.elim c_68 c_78) | exact c_91 g4 | exact c_104 g5 | exact c_117 g6 | exact c_132 g7 | exact g8.elim c_153 (fun z => absurd z (Int64.not_le.mpr ((lg_cmp_gt _ _).mp c_161))) | exact g9.elim c_167 c_177 | exact g10.elim c_187 (fun z => c_199 z.1) | exact g10.elim c_187 (fun z => c_208 z.2)))
                            · refine ax_if_eq (tgt := 218) dX12_rule_202 (by decide) (fun _ => ?_) (fun z => absurd (by decide) z)
                              refine ax_iconst (v := 0) dX12_rule_218 (by decide) ?_
                              refine ax_istore (lv' := [(12, _), (11, _), (10, _), (9, _), (8, _), (7, _), (0, _), (1, _), (2, _), (4, _), (5, _), (6, _)]) dX12_rule_219 (by decide) rfl ?_
                              refine ax_iload dX12_rule_221 rfl ?_
                              refine ax_if_ne (tgt := 228) dX12_rule_223 (by decide) (fun z => absurd z (by decide)) (fun _ => ?_)
                              refine ax_iconst (v := -1) dX12_rule_226 (by decide) ?_
                              refine ax_iret dX12_rule_227 rfl rfl ?_
                              exact fin2 h (if_pos (fun g => by
                                  obtain ⟨g1, g2, g3, g4, g5, g6, g7, g8, g9, g10⟩ := g
                                  first | exact absurd c_43 (Int32.not_lt.mpr g1) | exact c_53 g2 | exact g3.elim c_62 (fun z => z.elim c_68 c_78) | exact c_91 g4 | exact c_104 g5 | exact c_117 g6 | exact c_132 g7 | exact g8.elim c_153 (fun z => absurd z (Int64.not_le.mpr ((lg_cmp_gt _ _).mp c_161))) | exact g9.elim c_167 c_177 | exact g10.elim c_187 (fun z => c_199 z.1) | exact g10.elim c_187 (fun z => c_208 z.2)))
                        · refine ax_if_eq (tgt := 218) dX12_rule_180 (by decide) (fun _ => ?_) (fun z => absurd (by decide) z)
                          refine ax_iconst (v := 0) dX12_rule_218 (by decide) ?_
                          refine ax_istore (lv' := [(12, _), (11, _), (10, _), (9, _), (8, _), (7, _), (0, _), (1, _), (2, _), (4, _), (5, _), (6, _)]) dX12_rule_219 (by decide) rfl ?_
                          refine ax_iload dX12_rule_221 rfl ?_
                          refine ax_if_ne (tgt := 228) dX12_rule_223 (by decide) (fun z => absurd z (by decide)) (fun _ => ?_)
                          refine ax_iconst (v := -1) dX12_rule_226 (by decide) ?_
                          refine ax_iret dX12_rule_227 rfl rfl ?_
                          exact fin2 h (if_pos (fun g => by
                              obtain ⟨g1, g2, g3, g4, g5, g6, g7, g8, g9, g10⟩ := g
                              first | exact absurd c_43 (Int32.not_lt.mpr g1) | exact c_53 g2 | exact g3.elim c_62 (fun z => z.elim c_68 c_78) | exact c_91 g4 | exact c_104 g5 | exact c_117 g6 | exact c_132 g7 | exact g8.elim c_153 (fun z => absurd z (Int64.not_le.mpr ((lg_cmp_gt _ _).mp c_161))) | exact g9.elim c_167 c_177 | exact g10.elim c_187 (fun z => c_199 z.1) | exact g10.elim c_187 (fun z => c_208 z.2)))
                    · refine ax_iload dX12_rule_156 rfl ?_
                      refine ax_i2l dX12_rule_158 ?_
                      refine ax_lload_n (i := 2) dX12_rule_159 rfl rfl ?_
                      refine ax_lcmp dX12_rule_160 ?_
                      refine ax_if_gt (tgt := 218) dX12_rule_161 (by decide) (fun c_161 => ?_) (fun c_161 => ?_)
                      · refine ax_iconst (v := 0) dX12_rule_218 (by decide) ?_
                        refine ax_istore (lv' := [(12, _), (11, _), (10, _), (9, _), (8, _), (7, _), (0, _), (1, _), (2, _), (4, _), (5, _), (6, _)]) dX12_rule_219 (by decide) rfl ?_
                        refine ax_iload dX12_rule_221 rfl ?_
                        refine ax_if_ne (tgt := 228) dX12_rule_223 (by decide) (fun z => absurd z (by decide)) (fun _ => ?_)
                        refine ax_iconst (v := -1) dX12_rule_226 (by decide) ?_
                        refine ax_iret dX12_rule_227 rfl rfl ?_
                        exact fin2 h (if_pos (fun g => by
                            obtain ⟨g1, g2, g3, g4, g5, g6, g7, g8, g9, g10⟩ := g
                            first | exact absurd c_43 (Int32.not_lt.mpr g1) | exact c_53 g2 | exact g3.elim c_62 (fun z => z.elim c_68 c_78) | exact c_91 g4 | exact c_104 g5 | exact c_117 g6 | exact c_132 g7 | exact g8.elim c_153 (fun z => absurd z (Int64.not_le.mpr ((lg_cmp_gt _ _).mp c_161))) | exact g9.elim c_167 c_177 | exact g10.elim c_187 (fun z => c_199 z.1) | exact g10.elim c_187 (fun z => c_208 z.2)))
                      · refine ax_iload dX12_rule_164 rfl ?_
                        refine ax_iconst (v := 3) dX12_rule_166 (by decide) ?_
                        refine ax_icmp_ne (tgt := 183) dX12_rule_167 (by decide) (fun c_167 => ?_) (fun c_167 => ?_)
                        · refine ax_iload dX12_rule_183 rfl ?_
                          refine ax_bipush (v := 6) dX12_rule_185 (by decide) ?_
                          refine ax_icmp_ne (tgt := 214) dX12_rule_187 (by decide) (fun c_187 => ?_) (fun c_187 => ?_)
                          · refine ax_iconst (v := 1) dX12_rule_214 (by decide) ?_
                            refine ax_goto (tgt := 219) dX12_rule_215 (by decide) ?_
                            refine ax_istore (lv' := [(12, _), (11, _), (10, _), (9, _), (8, _), (7, _), (0, _), (1, _), (2, _), (4, _), (5, _), (6, _)]) dX12_rule_219 (by decide) rfl ?_
                            refine ax_iload dX12_rule_221 rfl ?_
                            refine ax_if_ne (tgt := 228) dX12_rule_223 (by decide) (fun _ => ?_) (fun z => absurd (by decide) z)
                            refine ax_aload_n (i := 0) dX12_rule_228 rfl rfl rfl ?_
                            refine ax_mS dX12_rule_229 fl_X12_234 rfl ?_
                            refine ax_bipush (v := 16) dX12_rule_232 (by decide) ?_
                            refine ax_icmp_ne (tgt := 240) dX12_rule_234 (by decide) (fun c_234 => ?_) (fun c_234 => ?_)
                            · refine ax_aload_n (i := 0) dX12_rule_240 rfl rfl rfl ?_
                              refine ax_mR hm dX12_rule_241 fl_X12_21 rfl (by decide) ?_
                              refine ax_aload_n (i := 0) dX12_rule_244 rfl rfl rfl ?_
                              refine ax_mS dX12_rule_245 fl_X12_234 rfl ?_
                              refine ax_iload dX12_rule_248 rfl ?_
                              refine ax_mPI hm dX12_rule_250 rfl (by decide) (vin_s hr c_234 rfl (by decide) (by decide)) ?_
                              refine ax_aload_n (i := 0) dX12_rule_251 rfl rfl rfl ?_
                              refine ax_mR hm dX12_rule_252 fl_X12_24 rfl (by decide) ?_
                              refine ax_aload_n (i := 0) dX12_rule_255 rfl rfl rfl ?_
                              refine ax_mS dX12_rule_256 fl_X12_234 rfl ?_
                              refine ax_iload dX12_rule_259 rfl ?_
                              refine ax_mPI hm dX12_rule_261 rfl (by decide) (vin_s hr c_234 rfl (by decide) (by decide)) ?_
                              refine ax_aload_n (i := 0) dX12_rule_262 rfl rfl rfl ?_
                              refine ax_mR hm dX12_rule_263 fl_X12_27 rfl (by decide) ?_
                              refine ax_aload_n (i := 0) dX12_rule_266 rfl rfl rfl ?_
                              refine ax_mS dX12_rule_267 fl_X12_234 rfl ?_
                              refine ax_lload_n (i := 2) dX12_rule_270 rfl rfl ?_
                              refine ax_mPJ hm dX12_rule_271 rfl (by decide) (vin_s hr c_234 rfl (by decide) (by decide)) ?_
                              refine ax_aload_n (i := 0) dX12_rule_272 rfl rfl rfl ?_
                              refine ax_mR hm dX12_rule_273 fl_X12_30 rfl (by decide) ?_
                              refine ax_aload_n (i := 0) dX12_rule_276 rfl rfl rfl ?_
                              refine ax_mS dX12_rule_277 fl_X12_234 rfl ?_
                              refine ax_iload dX12_rule_280 rfl ?_
                              refine ax_mPI hm dX12_rule_282 rfl (by decide) (vin_s hr c_234 rfl (by decide) (by decide)) ?_
                              refine ax_aload_n (i := 0) dX12_rule_283 rfl rfl rfl ?_
                              refine ax_mR hm dX12_rule_284 fl_X12_33 rfl (by decide) ?_
                              refine ax_aload_n (i := 0) dX12_rule_287 rfl rfl rfl ?_
                              refine ax_mS dX12_rule_288 fl_X12_234 rfl ?_
                              refine ax_iload dX12_rule_291 rfl ?_
                              refine ax_mPI hm dX12_rule_293 rfl (by decide) (vin_s hr c_234 rfl (by decide) (by decide)) ?_
                              refine ax_aload_n (i := 0) dX12_rule_294 rfl rfl rfl ?_
                              refine ax_mR hm dX12_rule_295 fl_X12_36 rfl (by decide) ?_
                              refine ax_aload_n (i := 0) dX12_rule_298 rfl rfl rfl ?_
                              refine ax_mS dX12_rule_299 fl_X12_234 rfl ?_
                              refine ax_iload dX12_rule_302 rfl ?_
                              refine ax_mPI hm dX12_rule_304 rfl (by decide) (vin_s hr c_234 rfl (by decide) (by decide)) ?_
                              refine ax_aload_n (i := 0) dX12_rule_305 rfl rfl rfl ?_
                              refine ax_mR hm dX12_rule_306 fl_X12_39 rfl (by decide) ?_
                              refine ax_aload_n (i := 0) dX12_rule_309 rfl rfl rfl ?_
                              refine ax_mS dX12_rule_310 fl_X12_234 rfl ?_
                              refine ax_iload dX12_rule_313 rfl ?_
                              refine ax_mPI hm dX12_rule_315 rfl (by decide) (vin_s hr c_234 rfl (by decide) (by decide)) ?_
                              refine ax_aload_n (i := 0) dX12_rule_316 rfl rfl rfl ?_
                              refine ax_mR hm dX12_rule_317 fl_X12_42 rfl (by decide) ?_
                              refine ax_aload_n (i := 0) dX12_rule_320 rfl rfl rfl ?_
                              refine ax_mS dX12_rule_321 fl_X12_234 rfl ?_
                              refine ax_iload dX12_rule_324 rfl ?_
                              refine ax_mPI hm dX12_rule_326 rfl (by decide) (vin_s hr c_234 rfl (by decide) (by decide)) ?_
                              refine ax_aload_n (i := 0) dX12_rule_327 rfl rfl rfl ?_
                              refine ax_mR hm dX12_rule_328 fl_X12_45 rfl (by decide) ?_
                              refine ax_aload_n (i := 0) dX12_rule_331 rfl rfl rfl ?_
                              refine ax_mS dX12_rule_332 fl_X12_234 rfl ?_
                              refine ax_aload_n (i := 0) dX12_rule_335 rfl rfl rfl ?_
                              refine ax_mS dX12_rule_336 fl_X12_262 rfl ?_
                              refine ax_iconst (v := 1) dX12_rule_339 (by decide) ?_
                              refine ax_iadd dX12_rule_340 ?_
                              refine ax_mPI hm dX12_rule_341 rfl (by decide) (vin_s hr c_234 rfl (by decide) (by decide)) ?_
                              refine ax_aload_n (i := 0) dX12_rule_342 rfl rfl rfl ?_
                              refine ax_dup dX12_rule_343 rfl ?_
                              refine ax_mS dX12_rule_344 fl_X12_234 rfl ?_
                              refine ax_iconst (v := 1) dX12_rule_347 (by decide) ?_
                              refine ax_iadd dX12_rule_348 ?_
                              refine ax_mPS dX12_rule_349 fl_X12_234 rfl rfl ?_
                              refine ax_aload_n (i := 0) dX12_rule_352 rfl rfl rfl ?_
                              refine ax_mS dX12_rule_353 fl_X12_234 rfl ?_
                              refine ax_iconst (v := 1) dX12_rule_356 (by decide) ?_
                              refine ax_isub dX12_rule_357 ?_
                              refine ax_iret dX12_rule_358 rfl rfl ?_
                              exact fin2 h ((if_neg (fun z => z ⟨Int32.not_lt.mp c_43, c_53, (by first | exact Or.inl c_62 | exact Or.inr (Or.inl c_68) | exact Or.inr (Or.inr c_78)), c_91, c_104, c_117, c_132, (by first | exact Or.inl c_153 | exact Or.inr (Int64.not_lt.mp (fun z => c_161 ((lg_cmp_gt _ _).mpr z)))), (by first | exact Or.inl c_167 | exact Or.inr c_177), (by first | exact Or.inl c_187 | exact Or.inr ⟨c_199, c_208⟩)⟩)).trans ((if_neg c_234).trans rfl))
                            · refine ax_bipush (v := -2) dX12_rule_237 (by decide) ?_
                              refine ax_iret dX12_rule_239 rfl rfl ?_
                              exact fin2 h ((if_neg (fun z => z ⟨Int32.not_lt.mp c_43, c_53, (by first | exact Or.inl c_62 | exact Or.inr (Or.inl c_68) | exact Or.inr (Or.inr c_78)), c_91, c_104, c_117, c_132, (by first | exact Or.inl c_153 | exact Or.inr (Int64.not_lt.mp (fun z => c_161 ((lg_cmp_gt _ _).mpr z)))), (by first | exact Or.inl c_167 | exact Or.inr c_177), (by first | exact Or.inl c_187 | exact Or.inr ⟨c_199, c_208⟩)⟩)).trans (if_pos (Classical.not_not.mp c_234)))
                          · refine ax_lload_n (i := 2) dX12_rule_190 rfl rfl ?_
                            refine ax_lconst (v := 0) dX12_rule_191 (by decide) ?_
                            refine ax_aload_n (i := 0) dX12_rule_192 rfl rfl rfl ?_
                            refine ax_mS dX12_rule_193 fl_X12_234 rfl ?_
                            refine ax_iconst (v := 1) dX12_rule_196 (by decide) ?_
                            refine ax_isub dX12_rule_197 ?_
                            refine ax_i2l dX12_rule_198 ?_
                            refine ax_invS (n := 3) (As := [_, _, _]) dX12_rule_199 cb_X12_isIn cs_X12_242.1 cs_X12_242.2 rfl ⟨Nat.le_of_ble_eq_true rfl, Nat.le_of_ble_eq_true rfl⟩ (Nat.le_of_ble_eq_true rfl) rfl (t_isIn (fun c_199 => ?_) (fun c_199 => ?_))
                            · refine ax_if_eq (tgt := 218) dX12_rule_202 (by decide) (fun z => absurd z (by decide)) (fun _ => ?_)
                              refine ax_aload_n (i := 0) dX12_rule_205 rfl rfl rfl ?_
                              refine ax_iload dX12_rule_206 rfl ?_
                              refine ax_invV (c := 13) (n := 1) (As := [_]) dX12_rule_208 cb_X12_isRule cv_X12_258.1 cv_X12_258.2.1 cv_X12_258.2.2 rfl (by decide) rfl ⟨Nat.le_of_ble_eq_true rfl, Nat.le_of_ble_eq_true rfl⟩ (Nat.le_of_ble_eq_true rfl) rfl (t_isRule (fun c_208 => ?_) (fun c_208 => ?_))
                              · refine ax_if_eq (tgt := 218) dX12_rule_211 (by decide) (fun z => absurd z (by decide)) (fun _ => ?_)
                                refine ax_iconst (v := 1) dX12_rule_214 (by decide) ?_
                                refine ax_goto (tgt := 219) dX12_rule_215 (by decide) ?_
                                refine ax_istore (lv' := [(12, _), (11, _), (10, _), (9, _), (8, _), (7, _), (0, _), (1, _), (2, _), (4, _), (5, _), (6, _)]) dX12_rule_219 (by decide) rfl ?_
                                refine ax_iload dX12_rule_221 rfl ?_
                                refine ax_if_ne (tgt := 228) dX12_rule_223 (by decide) (fun _ => ?_) (fun z => absurd (by decide) z)
                                refine ax_aload_n (i := 0) dX12_rule_228 rfl rfl rfl ?_
                                refine ax_mS dX12_rule_229 fl_X12_234 rfl ?_
                                refine ax_bipush (v := 16) dX12_rule_232 (by decide) ?_
                                refine ax_icmp_ne (tgt := 240) dX12_rule_234 (by decide) (fun c_234 => ?_) (fun c_234 => ?_)
                                · refine ax_aload_n (i := 0) dX12_rule_240 rfl rfl rfl ?_
                                  refine ax_mR hm dX12_rule_241 fl_X12_21 rfl (by decide) ?_
                                  refine ax_aload_n (i := 0) dX12_rule_244 rfl rfl rfl ?_
                                  refine ax_mS dX12_rule_245 fl_X12_234 rfl ?_
                                  refine ax_iload dX12_rule_248 rfl ?_
                                  refine ax_mPI hm dX12_rule_250 rfl (by decide) (vin_s hr c_234 rfl (by decide) (by decide)) ?_
                                  refine ax_aload_n (i := 0) dX12_rule_251 rfl rfl rfl ?_
                                  refine ax_mR hm dX12_rule_252 fl_X12_24 rfl (by decide) ?_
                                  refine ax_aload_n (i := 0) dX12_rule_255 rfl rfl rfl ?_
                                  refine ax_mS dX12_rule_256 fl_X12_234 rfl ?_
                                  refine ax_iload dX12_rule_259 rfl ?_
                                  refine ax_mPI hm dX12_rule_261 rfl (by decide) (vin_s hr c_234 rfl (by decide) (by decide)) ?_
                                  refine ax_aload_n (i := 0) dX12_rule_262 rfl rfl rfl ?_
                                  refine ax_mR hm dX12_rule_263 fl_X12_27 rfl (by decide) ?_
                                  refine ax_aload_n (i := 0) dX12_rule_266 rfl rfl rfl ?_
                                  refine ax_mS dX12_rule_267 fl_X12_234 rfl ?_
                                  refine ax_lload_n (i := 2) dX12_rule_270 rfl rfl ?_
                                  refine ax_mPJ hm dX12_rule_271 rfl (by decide) (vin_s hr c_234 rfl (by decide) (by decide)) ?_
                                  refine ax_aload_n (i := 0) dX12_rule_272 rfl rfl rfl ?_
                                  refine ax_mR hm dX12_rule_273 fl_X12_30 rfl (by decide) ?_
                                  refine ax_aload_n (i := 0) dX12_rule_276 rfl rfl rfl ?_
                                  refine ax_mS dX12_rule_277 fl_X12_234 rfl ?_
                                  refine ax_iload dX12_rule_280 rfl ?_
                                  refine ax_mPI hm dX12_rule_282 rfl (by decide) (vin_s hr c_234 rfl (by decide) (by decide)) ?_
                                  refine ax_aload_n (i := 0) dX12_rule_283 rfl rfl rfl ?_
                                  refine ax_mR hm dX12_rule_284 fl_X12_33 rfl (by decide) ?_
                                  refine ax_aload_n (i := 0) dX12_rule_287 rfl rfl rfl ?_
                                  refine ax_mS dX12_rule_288 fl_X12_234 rfl ?_
                                  refine ax_iload dX12_rule_291 rfl ?_
                                  refine ax_mPI hm dX12_rule_293 rfl (by decide) (vin_s hr c_234 rfl (by decide) (by decide)) ?_
                                  refine ax_aload_n (i := 0) dX12_rule_294 rfl rfl rfl ?_
                                  refine ax_mR hm dX12_rule_295 fl_X12_36 rfl (by decide) ?_
                                  refine ax_aload_n (i := 0) dX12_rule_298 rfl rfl rfl ?_
                                  refine ax_mS dX12_rule_299 fl_X12_234 rfl ?_
                                  refine ax_iload dX12_rule_302 rfl ?_
                                  refine ax_mPI hm dX12_rule_304 rfl (by decide) (vin_s hr c_234 rfl (by decide) (by decide)) ?_
                                  refine ax_aload_n (i := 0) dX12_rule_305 rfl rfl rfl ?_
                                  refine ax_mR hm dX12_rule_306 fl_X12_39 rfl (by decide) ?_
                                  refine ax_aload_n (i := 0) dX12_rule_309 rfl rfl rfl ?_
                                  refine ax_mS dX12_rule_310 fl_X12_234 rfl ?_
                                  refine ax_iload dX12_rule_313 rfl ?_
                                  refine ax_mPI hm dX12_rule_315 rfl (by decide) (vin_s hr c_234 rfl (by decide) (by decide)) ?_
                                  refine ax_aload_n (i := 0) dX12_rule_316 rfl rfl rfl ?_
                                  refine ax_mR hm dX12_rule_317 fl_X12_42 rfl (by decide) ?_
                                  refine ax_aload_n (i := 0) dX12_rule_320 rfl rfl rfl ?_
                                  refine ax_mS dX12_rule_321 fl_X12_234 rfl ?_
                                  refine ax_iload dX12_rule_324 rfl ?_
                                  refine ax_mPI hm dX12_rule_326 rfl (by decide) (vin_s hr c_234 rfl (by decide) (by decide)) ?_
                                  refine ax_aload_n (i := 0) dX12_rule_327 rfl rfl rfl ?_
                                  refine ax_mR hm dX12_rule_328 fl_X12_45 rfl (by decide) ?_
                                  refine ax_aload_n (i := 0) dX12_rule_331 rfl rfl rfl ?_
                                  refine ax_mS dX12_rule_332 fl_X12_234 rfl ?_
                                  refine ax_aload_n (i := 0) dX12_rule_335 rfl rfl rfl ?_
                                  refine ax_mS dX12_rule_336 fl_X12_262 rfl ?_
                                  refine ax_iconst (v := 1) dX12_rule_339 (by decide) ?_
                                  refine ax_iadd dX12_rule_340 ?_
                                  refine ax_mPI hm dX12_rule_341 rfl (by decide) (vin_s hr c_234 rfl (by decide) (by decide)) ?_
                                  refine ax_aload_n (i := 0) dX12_rule_342 rfl rfl rfl ?_
                                  refine ax_dup dX12_rule_343 rfl ?_
                                  refine ax_mS dX12_rule_344 fl_X12_234 rfl ?_
                                  refine ax_iconst (v := 1) dX12_rule_347 (by decide) ?_
                                  refine ax_iadd dX12_rule_348 ?_
                                  refine ax_mPS dX12_rule_349 fl_X12_234 rfl rfl ?_
                                  refine ax_aload_n (i := 0) dX12_rule_352 rfl rfl rfl ?_
                                  refine ax_mS dX12_rule_353 fl_X12_234 rfl ?_
                                  refine ax_iconst (v := 1) dX12_rule_356 (by decide) ?_
                                  refine ax_isub dX12_rule_357 ?_
                                  refine ax_iret dX12_rule_358 rfl rfl ?_
                                  exact fin2 h ((if_neg (fun z => z ⟨Int32.not_lt.mp c_43, c_53, (by first | exact Or.inl c_62 | exact Or.inr (Or.inl c_68) | exact Or.inr (Or.inr c_78)), c_91, c_104, c_117, c_132, (by first | exact Or.inl c_153 | exact Or.inr (Int64.not_lt.mp (fun z => c_161 ((lg_cmp_gt _ _).mpr z)))), (by first | exact Or.inl c_167 | exact Or.inr c_177), (by first | exact Or.inl c_187 | exact Or.inr ⟨c_199, c_208⟩)⟩)).trans ((if_neg c_234).trans rfl))
                                · refine ax_bipush (v := -2) dX12_rule_237 (by decide) ?_
                                  refine ax_iret dX12_rule_239 rfl rfl ?_
                                  exact fin2 h ((if_neg (fun z => z ⟨Int32.not_lt.mp c_43, c_53, (by first | exact Or.inl c_62 | exact Or.inr (Or.inl c_68) | exact Or.inr (Or.inr c_78)), c_91, c_104, c_117, c_132, (by first | exact Or.inl c_153 | exact Or.inr (Int64.not_lt.mp (fun z => c_161 ((lg_cmp_gt _ _).mpr z)))), (by first | exact Or.inl c_167 | exact Or.inr c_177), (by first | exact Or.inl c_187 | exact Or.inr ⟨c_199, c_208⟩)⟩)).trans (if_pos (Classical.not_not.mp c_234)))
                              · refine ax_if_eq (tgt := 218) dX12_rule_211 (by decide) (fun _ => ?_) (fun z => absurd (by decide) z)
                                refine ax_iconst (v := 0) dX12_rule_218 (by decide) ?_
                                refine ax_istore (lv' := [(12, _), (11, _), (10, _), (9, _), (8, _), (7, _), (0, _), (1, _), (2, _), (4, _), (5, _), (6, _)]) dX12_rule_219 (by decide) rfl ?_
                                refine ax_iload dX12_rule_221 rfl ?_
                                refine ax_if_ne (tgt := 228) dX12_rule_223 (by decide) (fun z => absurd z (by decide)) (fun _ => ?_)
                                refine ax_iconst (v := -1) dX12_rule_226 (by decide) ?_
                                refine ax_iret dX12_rule_227 rfl rfl ?_
                                exact fin2 h (if_pos (fun g => by
                                    obtain ⟨g1, g2, g3, g4, g5, g6, g7, g8, g9, g10⟩ := g
                                    first | exact absurd c_43 (Int32.not_lt.mpr g1) | exact c_53 g2 | exact g3.elim c_62 (fun z => z.elim c_68 c_78) | exact c_91 g4 | exact c_104 g5 | exact c_117 g6 | exact c_132 g7 | exact g8.elim c_153 (fun z => absurd z (Int64.not_le.mpr ((lg_cmp_gt _ _).mp c_161))) | exact g9.elim c_167 c_177 | exact g10.elim c_187 (fun z => c_199 z.1) | exact g10.elim c_187 (fun z => c_208 z.2)))
                            · refine ax_if_eq (tgt := 218) dX12_rule_202 (by decide) (fun _ => ?_) (fun z => absurd (by decide) z)
                              refine ax_iconst (v := 0) dX12_rule_218 (by decide) ?_
                              refine ax_istore (lv' := [(12, _), (11, _), (10, _), (9, _), (8, _), (7, _), (0, _), (1, _), (2, _), (4, _), (5, _), (6, _)]) dX12_rule_219 (by decide) rfl ?_
                              refine ax_iload dX12_rule_221 rfl ?_
                              refine ax_if_ne (tgt := 228) dX12_rule_223 (by decide) (fun z => absurd z (by decide)) (fun _ => ?_)
                              refine ax_iconst (v := -1) dX12_rule_226 (by decide) ?_
                              refine ax_iret dX12_rule_227 rfl rfl ?_
                              exact fin2 h (if_pos (fun g => by
                                  obtain ⟨g1, g2, g3, g4, g5, g6, g7, g8, g9, g10⟩ := g
                                  first | exact absurd c_43 (Int32.not_lt.mpr g1) | exact c_53 g2 | exact g3.elim c_62 (fun z => z.elim c_68 c_78) | exact c_91 g4 | exact c_104 g5 | exact c_117 g6 | exact c_132 g7 | exact g8.elim c_153 (fun z => absurd z (Int64.not_le.mpr ((lg_cmp_gt _ _).mp c_161))) | exact g9.elim c_167 c_177 | exact g10.elim c_187 (fun z => c_199 z.1) | exact g10.elim c_187 (fun z => c_208 z.2)))
                        · refine ax_iload dX12_rule_170 rfl ?_
                          refine ax_i2l dX12_rule_172 ?_
                          refine ax_lconst (v := 1) dX12_rule_173 (by decide) ?_
                          refine ax_ldc2 dX12_rule_174 kc_X12_256 ?_
                          refine ax_invS (n := 3) (As := [_, _, _]) dX12_rule_177 cb_X12_isIn cs_X12_242.1 cs_X12_242.2 rfl ⟨Nat.le_of_ble_eq_true rfl, Nat.le_of_ble_eq_true rfl⟩ (Nat.le_of_ble_eq_true rfl) rfl (t_isInI (lo := (1)) (hi := (100)) (fun c_177 => ?_) (fun c_177 => ?_))
                          · refine ax_if_eq (tgt := 218) dX12_rule_180 (by decide) (fun z => absurd z (by decide)) (fun _ => ?_)
                            refine ax_iload dX12_rule_183 rfl ?_
                            refine ax_bipush (v := 6) dX12_rule_185 (by decide) ?_
                            refine ax_icmp_ne (tgt := 214) dX12_rule_187 (by decide) (fun c_187 => ?_) (fun c_187 => ?_)
                            · refine ax_iconst (v := 1) dX12_rule_214 (by decide) ?_
                              refine ax_goto (tgt := 219) dX12_rule_215 (by decide) ?_
                              refine ax_istore (lv' := [(12, _), (11, _), (10, _), (9, _), (8, _), (7, _), (0, _), (1, _), (2, _), (4, _), (5, _), (6, _)]) dX12_rule_219 (by decide) rfl ?_
                              refine ax_iload dX12_rule_221 rfl ?_
                              refine ax_if_ne (tgt := 228) dX12_rule_223 (by decide) (fun _ => ?_) (fun z => absurd (by decide) z)
                              refine ax_aload_n (i := 0) dX12_rule_228 rfl rfl rfl ?_
                              refine ax_mS dX12_rule_229 fl_X12_234 rfl ?_
                              refine ax_bipush (v := 16) dX12_rule_232 (by decide) ?_
                              refine ax_icmp_ne (tgt := 240) dX12_rule_234 (by decide) (fun c_234 => ?_) (fun c_234 => ?_)
                              · refine ax_aload_n (i := 0) dX12_rule_240 rfl rfl rfl ?_
                                refine ax_mR hm dX12_rule_241 fl_X12_21 rfl (by decide) ?_
                                refine ax_aload_n (i := 0) dX12_rule_244 rfl rfl rfl ?_
                                refine ax_mS dX12_rule_245 fl_X12_234 rfl ?_
                                refine ax_iload dX12_rule_248 rfl ?_
                                refine ax_mPI hm dX12_rule_250 rfl (by decide) (vin_s hr c_234 rfl (by decide) (by decide)) ?_
                                refine ax_aload_n (i := 0) dX12_rule_251 rfl rfl rfl ?_
                                refine ax_mR hm dX12_rule_252 fl_X12_24 rfl (by decide) ?_
                                refine ax_aload_n (i := 0) dX12_rule_255 rfl rfl rfl ?_
                                refine ax_mS dX12_rule_256 fl_X12_234 rfl ?_
                                refine ax_iload dX12_rule_259 rfl ?_
                                refine ax_mPI hm dX12_rule_261 rfl (by decide) (vin_s hr c_234 rfl (by decide) (by decide)) ?_
                                refine ax_aload_n (i := 0) dX12_rule_262 rfl rfl rfl ?_
                                refine ax_mR hm dX12_rule_263 fl_X12_27 rfl (by decide) ?_
                                refine ax_aload_n (i := 0) dX12_rule_266 rfl rfl rfl ?_
                                refine ax_mS dX12_rule_267 fl_X12_234 rfl ?_
                                refine ax_lload_n (i := 2) dX12_rule_270 rfl rfl ?_
                                refine ax_mPJ hm dX12_rule_271 rfl (by decide) (vin_s hr c_234 rfl (by decide) (by decide)) ?_
                                refine ax_aload_n (i := 0) dX12_rule_272 rfl rfl rfl ?_
                                refine ax_mR hm dX12_rule_273 fl_X12_30 rfl (by decide) ?_
                                refine ax_aload_n (i := 0) dX12_rule_276 rfl rfl rfl ?_
                                refine ax_mS dX12_rule_277 fl_X12_234 rfl ?_
                                refine ax_iload dX12_rule_280 rfl ?_
                                refine ax_mPI hm dX12_rule_282 rfl (by decide) (vin_s hr c_234 rfl (by decide) (by decide)) ?_
                                refine ax_aload_n (i := 0) dX12_rule_283 rfl rfl rfl ?_
                                refine ax_mR hm dX12_rule_284 fl_X12_33 rfl (by decide) ?_
                                refine ax_aload_n (i := 0) dX12_rule_287 rfl rfl rfl ?_
                                refine ax_mS dX12_rule_288 fl_X12_234 rfl ?_
                                refine ax_iload dX12_rule_291 rfl ?_
                                refine ax_mPI hm dX12_rule_293 rfl (by decide) (vin_s hr c_234 rfl (by decide) (by decide)) ?_
                                refine ax_aload_n (i := 0) dX12_rule_294 rfl rfl rfl ?_
                                refine ax_mR hm dX12_rule_295 fl_X12_36 rfl (by decide) ?_
                                refine ax_aload_n (i := 0) dX12_rule_298 rfl rfl rfl ?_
                                refine ax_mS dX12_rule_299 fl_X12_234 rfl ?_
                                refine ax_iload dX12_rule_302 rfl ?_
                                refine ax_mPI hm dX12_rule_304 rfl (by decide) (vin_s hr c_234 rfl (by decide) (by decide)) ?_
                                refine ax_aload_n (i := 0) dX12_rule_305 rfl rfl rfl ?_
                                refine ax_mR hm dX12_rule_306 fl_X12_39 rfl (by decide) ?_
                                refine ax_aload_n (i := 0) dX12_rule_309 rfl rfl rfl ?_
                                refine ax_mS dX12_rule_310 fl_X12_234 rfl ?_
                                refine ax_iload dX12_rule_313 rfl ?_
                                refine ax_mPI hm dX12_rule_315 rfl (by decide) (vin_s hr c_234 rfl (by decide) (by decide)) ?_
                                refine ax_aload_n (i := 0) dX12_rule_316 rfl rfl rfl ?_
                                refine ax_mR hm dX12_rule_317 fl_X12_42 rfl (by decide) ?_
                                refine ax_aload_n (i := 0) dX12_rule_320 rfl rfl rfl ?_
                                refine ax_mS dX12_rule_321 fl_X12_234 rfl ?_
                                refine ax_iload dX12_rule_324 rfl ?_
                                refine ax_mPI hm dX12_rule_326 rfl (by decide) (vin_s hr c_234 rfl (by decide) (by decide)) ?_
                                refine ax_aload_n (i := 0) dX12_rule_327 rfl rfl rfl ?_
                                refine ax_mR hm dX12_rule_328 fl_X12_45 rfl (by decide) ?_
                                refine ax_aload_n (i := 0) dX12_rule_331 rfl rfl rfl ?_
                                refine ax_mS dX12_rule_332 fl_X12_234 rfl ?_
                                refine ax_aload_n (i := 0) dX12_rule_335 rfl rfl rfl ?_
                                refine ax_mS dX12_rule_336 fl_X12_262 rfl ?_
                                refine ax_iconst (v := 1) dX12_rule_339 (by decide) ?_
                                refine ax_iadd dX12_rule_340 ?_
                                refine ax_mPI hm dX12_rule_341 rfl (by decide) (vin_s hr c_234 rfl (by decide) (by decide)) ?_
                                refine ax_aload_n (i := 0) dX12_rule_342 rfl rfl rfl ?_
                                refine ax_dup dX12_rule_343 rfl ?_
                                refine ax_mS dX12_rule_344 fl_X12_234 rfl ?_
                                refine ax_iconst (v := 1) dX12_rule_347 (by decide) ?_
                                refine ax_iadd dX12_rule_348 ?_
                                refine ax_mPS dX12_rule_349 fl_X12_234 rfl rfl ?_
                                refine ax_aload_n (i := 0) dX12_rule_352 rfl rfl rfl ?_
                                refine ax_mS dX12_rule_353 fl_X12_234 rfl ?_
                                refine ax_iconst (v := 1) dX12_rule_356 (by decide) ?_
                                refine ax_isub dX12_rule_357 ?_
                                refine ax_iret dX12_rule_358 rfl rfl ?_
                                exact fin2 h ((if_neg (fun z => z ⟨Int32.not_lt.mp c_43, c_53, (by first | exact Or.inl c_62 | exact Or.inr (Or.inl c_68) | exact Or.inr (Or.inr c_78)), c_91, c_104, c_117, c_132, (by first | exact Or.inl c_153 | exact Or.inr (Int64.not_lt.mp (fun z => c_161 ((lg_cmp_gt _ _).mpr z)))), (by first | exact Or.inl c_167 | exact Or.inr c_177), (by first | exact Or.inl c_187 | exact Or.inr ⟨c_199, c_208⟩)⟩)).trans ((if_neg c_234).trans rfl))
                              · refine ax_bipush (v := -2) dX12_rule_237 (by decide) ?_
                                refine ax_iret dX12_rule_239 rfl rfl ?_
                                exact fin2 h ((if_neg (fun z => z ⟨Int32.not_lt.mp c_43, c_53, (by first | exact Or.inl c_62 | exact Or.inr (Or.inl c_68) | exact Or.inr (Or.inr c_78)), c_91, c_104, c_117, c_132, (by first | exact Or.inl c_153 | exact Or.inr (Int64.not_lt.mp (fun z => c_161 ((lg_cmp_gt _ _).mpr z)))), (by first | exact Or.inl c_167 | exact Or.inr c_177), (by first | exact Or.inl c_187 | exact Or.inr ⟨c_199, c_208⟩)⟩)).trans (if_pos (Classical.not_not.mp c_234)))
                            · refine ax_lload_n (i := 2) dX12_rule_190 rfl rfl ?_
                              refine ax_lconst (v := 0) dX12_rule_191 (by decide) ?_
                              refine ax_aload_n (i := 0) dX12_rule_192 rfl rfl rfl ?_
                              refine ax_mS dX12_rule_193 fl_X12_234 rfl ?_
                              refine ax_iconst (v := 1) dX12_rule_196 (by decide) ?_
                              refine ax_isub dX12_rule_197 ?_
                              refine ax_i2l dX12_rule_198 ?_
                              refine ax_invS (n := 3) (As := [_, _, _]) dX12_rule_199 cb_X12_isIn cs_X12_242.1 cs_X12_242.2 rfl ⟨Nat.le_of_ble_eq_true rfl, Nat.le_of_ble_eq_true rfl⟩ (Nat.le_of_ble_eq_true rfl) rfl (t_isIn (fun c_199 => ?_) (fun c_199 => ?_))
                              · refine ax_if_eq (tgt := 218) dX12_rule_202 (by decide) (fun z => absurd z (by decide)) (fun _ => ?_)
                                refine ax_aload_n (i := 0) dX12_rule_205 rfl rfl rfl ?_
                                refine ax_iload dX12_rule_206 rfl ?_
                                refine ax_invV (c := 13) (n := 1) (As := [_]) dX12_rule_208 cb_X12_isRule cv_X12_258.1 cv_X12_258.2.1 cv_X12_258.2.2 rfl (by decide) rfl ⟨Nat.le_of_ble_eq_true rfl, Nat.le_of_ble_eq_true rfl⟩ (Nat.le_of_ble_eq_true rfl) rfl (t_isRule (fun c_208 => ?_) (fun c_208 => ?_))
                                · refine ax_if_eq (tgt := 218) dX12_rule_211 (by decide) (fun z => absurd z (by decide)) (fun _ => ?_)
                                  refine ax_iconst (v := 1) dX12_rule_214 (by decide) ?_
                                  refine ax_goto (tgt := 219) dX12_rule_215 (by decide) ?_
                                  refine ax_istore (lv' := [(12, _), (11, _), (10, _), (9, _), (8, _), (7, _), (0, _), (1, _), (2, _), (4, _), (5, _), (6, _)]) dX12_rule_219 (by decide) rfl ?_
                                  refine ax_iload dX12_rule_221 rfl ?_
                                  refine ax_if_ne (tgt := 228) dX12_rule_223 (by decide) (fun _ => ?_) (fun z => absurd (by decide) z)
                                  refine ax_aload_n (i := 0) dX12_rule_228 rfl rfl rfl ?_
                                  refine ax_mS dX12_rule_229 fl_X12_234 rfl ?_
                                  refine ax_bipush (v := 16) dX12_rule_232 (by decide) ?_
                                  refine ax_icmp_ne (tgt := 240) dX12_rule_234 (by decide) (fun c_234 => ?_) (fun c_234 => ?_)
                                  · refine ax_aload_n (i := 0) dX12_rule_240 rfl rfl rfl ?_
                                    refine ax_mR hm dX12_rule_241 fl_X12_21 rfl (by decide) ?_
                                    refine ax_aload_n (i := 0) dX12_rule_244 rfl rfl rfl ?_
                                    refine ax_mS dX12_rule_245 fl_X12_234 rfl ?_
                                    refine ax_iload dX12_rule_248 rfl ?_
                                    refine ax_mPI hm dX12_rule_250 rfl (by decide) (vin_s hr c_234 rfl (by decide) (by decide)) ?_
                                    refine ax_aload_n (i := 0) dX12_rule_251 rfl rfl rfl ?_
                                    refine ax_mR hm dX12_rule_252 fl_X12_24 rfl (by decide) ?_
                                    refine ax_aload_n (i := 0) dX12_rule_255 rfl rfl rfl ?_
                                    refine ax_mS dX12_rule_256 fl_X12_234 rfl ?_
                                    refine ax_iload dX12_rule_259 rfl ?_
                                    refine ax_mPI hm dX12_rule_261 rfl (by decide) (vin_s hr c_234 rfl (by decide) (by decide)) ?_
                                    refine ax_aload_n (i := 0) dX12_rule_262 rfl rfl rfl ?_
                                    refine ax_mR hm dX12_rule_263 fl_X12_27 rfl (by decide) ?_
                                    refine ax_aload_n (i := 0) dX12_rule_266 rfl rfl rfl ?_
                                    refine ax_mS dX12_rule_267 fl_X12_234 rfl ?_
                                    refine ax_lload_n (i := 2) dX12_rule_270 rfl rfl ?_
                                    refine ax_mPJ hm dX12_rule_271 rfl (by decide) (vin_s hr c_234 rfl (by decide) (by decide)) ?_
                                    refine ax_aload_n (i := 0) dX12_rule_272 rfl rfl rfl ?_
                                    refine ax_mR hm dX12_rule_273 fl_X12_30 rfl (by decide) ?_
                                    refine ax_aload_n (i := 0) dX12_rule_276 rfl rfl rfl ?_
                                    refine ax_mS dX12_rule_277 fl_X12_234 rfl ?_
                                    refine ax_iload dX12_rule_280 rfl ?_
                                    refine ax_mPI hm dX12_rule_282 rfl (by decide) (vin_s hr c_234 rfl (by decide) (by decide)) ?_
                                    refine ax_aload_n (i := 0) dX12_rule_283 rfl rfl rfl ?_
                                    refine ax_mR hm dX12_rule_284 fl_X12_33 rfl (by decide) ?_
                                    refine ax_aload_n (i := 0) dX12_rule_287 rfl rfl rfl ?_
                                    refine ax_mS dX12_rule_288 fl_X12_234 rfl ?_
                                    refine ax_iload dX12_rule_291 rfl ?_
                                    refine ax_mPI hm dX12_rule_293 rfl (by decide) (vin_s hr c_234 rfl (by decide) (by decide)) ?_
                                    refine ax_aload_n (i := 0) dX12_rule_294 rfl rfl rfl ?_
                                    refine ax_mR hm dX12_rule_295 fl_X12_36 rfl (by decide) ?_
                                    refine ax_aload_n (i := 0) dX12_rule_298 rfl rfl rfl ?_
                                    refine ax_mS dX12_rule_299 fl_X12_234 rfl ?_
                                    refine ax_iload dX12_rule_302 rfl ?_
                                    refine ax_mPI hm dX12_rule_304 rfl (by decide) (vin_s hr c_234 rfl (by decide) (by decide)) ?_
                                    refine ax_aload_n (i := 0) dX12_rule_305 rfl rfl rfl ?_
                                    refine ax_mR hm dX12_rule_306 fl_X12_39 rfl (by decide) ?_
                                    refine ax_aload_n (i := 0) dX12_rule_309 rfl rfl rfl ?_
                                    refine ax_mS dX12_rule_310 fl_X12_234 rfl ?_
                                    refine ax_iload dX12_rule_313 rfl ?_
                                    refine ax_mPI hm dX12_rule_315 rfl (by decide) (vin_s hr c_234 rfl (by decide) (by decide)) ?_
                                    refine ax_aload_n (i := 0) dX12_rule_316 rfl rfl rfl ?_
                                    refine ax_mR hm dX12_rule_317 fl_X12_42 rfl (by decide) ?_
                                    refine ax_aload_n (i := 0) dX12_rule_320 rfl rfl rfl ?_
                                    refine ax_mS dX12_rule_321 fl_X12_234 rfl ?_
                                    refine ax_iload dX12_rule_324 rfl ?_
                                    refine ax_mPI hm dX12_rule_326 rfl (by decide) (vin_s hr c_234 rfl (by decide) (by decide)) ?_
                                    refine ax_aload_n (i := 0) dX12_rule_327 rfl rfl rfl ?_
                                    refine ax_mR hm dX12_rule_328 fl_X12_45 rfl (by decide) ?_
                                    refine ax_aload_n (i := 0) dX12_rule_331 rfl rfl rfl ?_
                                    refine ax_mS dX12_rule_332 fl_X12_234 rfl ?_
                                    refine ax_aload_n (i := 0) dX12_rule_335 rfl rfl rfl ?_
                                    refine ax_mS dX12_rule_336 fl_X12_262 rfl ?_
                                    refine ax_iconst (v := 1) dX12_rule_339 (by decide) ?_
                                    refine ax_iadd dX12_rule_340 ?_
                                    refine ax_mPI hm dX12_rule_341 rfl (by decide) (vin_s hr c_234 rfl (by decide) (by decide)) ?_
                                    refine ax_aload_n (i := 0) dX12_rule_342 rfl rfl rfl ?_
                                    refine ax_dup dX12_rule_343 rfl ?_
                                    refine ax_mS dX12_rule_344 fl_X12_234 rfl ?_
                                    refine ax_iconst (v := 1) dX12_rule_347 (by decide) ?_
                                    refine ax_iadd dX12_rule_348 ?_
                                    refine ax_mPS dX12_rule_349 fl_X12_234 rfl rfl ?_
                                    refine ax_aload_n (i := 0) dX12_rule_352 rfl rfl rfl ?_
                                    refine ax_mS dX12_rule_353 fl_X12_234 rfl ?_
                                    refine ax_iconst (v := 1) dX12_rule_356 (by decide) ?_
                                    refine ax_isub dX12_rule_357 ?_
                                    refine ax_iret dX12_rule_358 rfl rfl ?_
                                    exact fin2 h ((if_neg (fun z => z ⟨Int32.not_lt.mp c_43, c_53, (by first | exact Or.inl c_62 | exact Or.inr (Or.inl c_68) | exact Or.inr (Or.inr c_78)), c_91, c_104, c_117, c_132, (by first | exact Or.inl c_153 | exact Or.inr (Int64.not_lt.mp (fun z => c_161 ((lg_cmp_gt _ _).mpr z)))), (by first | exact Or.inl c_167 | exact Or.inr c_177), (by first | exact Or.inl c_187 | exact Or.inr ⟨c_199, c_208⟩)⟩)).trans ((if_neg c_234).trans rfl))
                                  · refine ax_bipush (v := -2) dX12_rule_237 (by decide) ?_
                                    refine ax_iret dX12_rule_239 rfl rfl ?_
                                    exact fin2 h ((if_neg (fun z => z ⟨Int32.not_lt.mp c_43, c_53, (by first | exact Or.inl c_62 | exact Or.inr (Or.inl c_68) | exact Or.inr (Or.inr c_78)), c_91, c_104, c_117, c_132, (by first | exact Or.inl c_153 | exact Or.inr (Int64.not_lt.mp (fun z => c_161 ((lg_cmp_gt _ _).mpr z)))), (by first | exact Or.inl c_167 | exact Or.inr c_177), (by first | exact Or.inl c_187 | exact Or.inr ⟨c_199, c_208⟩)⟩)).trans (if_pos (Classical.not_not.mp c_234)))
                                · refine ax_if_eq (tgt := 218) dX12_rule_211 (by decide) (fun _ => ?_) (fun z => absurd (by decide) z)
                                  refine ax_iconst (v := 0) dX12_rule_218 (by decide) ?_
                                  refine ax_istore (lv' := [(12, _), (11, _), (10, _), (9, _), (8, _), (7, _), (0, _), (1, _), (2, _), (4, _), (5, _), (6, _)]) dX12_rule_219 (by decide) rfl ?_
                                  refine ax_iload dX12_rule_221 rfl ?_
                                  refine ax_if_ne (tgt := 228) dX12_rule_223 (by decide) (fun z => absurd z (by decide)) (fun _ => ?_)
                                  refine ax_iconst (v := -1) dX12_rule_226 (by decide) ?_
                                  refine ax_iret dX12_rule_227 rfl rfl ?_
                                  exact fin2 h (if_pos (fun g => by
                                      obtain ⟨g1, g2, g3, g4, g5, g6, g7, g8, g9, g10⟩ := g
                                      first | exact absurd c_43 (Int32.not_lt.mpr g1) | exact c_53 g2 | exact g3.elim c_62 (fun z => z.elim c_68 c_78) | exact c_91 g4 | exact c_104 g5 | exact c_117 g6 | exact c_132 g7 | exact g8.elim c_153 (fun z => absurd z (Int64.not_le.mpr ((lg_cmp_gt _ _).mp c_161))) | exact g9.elim c_167 c_177 | exact g10.elim c_187 (fun z => c_199 z.1) | exact g10.elim c_187 (fun z => c_208 z.2)))
                              · refine ax_if_eq (tgt := 218) dX12_rule_202 (by decide) (fun _ => ?_) (fun z => absurd (by decide) z)
                                refine ax_iconst (v := 0) dX12_rule_218 (by decide) ?_
                                refine ax_istore (lv' := [(12, _), (11, _), (10, _), (9, _), (8, _), (7, _), (0, _), (1, _), (2, _), (4, _), (5, _), (6, _)]) dX12_rule_219 (by decide) rfl ?_
                                refine ax_iload dX12_rule_221 rfl ?_
                                refine ax_if_ne (tgt := 228) dX12_rule_223 (by decide) (fun z => absurd z (by decide)) (fun _ => ?_)
                                refine ax_iconst (v := -1) dX12_rule_226 (by decide) ?_
                                refine ax_iret dX12_rule_227 rfl rfl ?_
                                exact fin2 h (if_pos (fun g => by
                                    obtain ⟨g1, g2, g3, g4, g5, g6, g7, g8, g9, g10⟩ := g
                                    first | exact absurd c_43 (Int32.not_lt.mpr g1) | exact c_53 g2 | exact g3.elim c_62 (fun z => z.elim c_68 c_78) | exact c_91 g4 | exact c_104 g5 | exact c_117 g6 | exact c_132 g7 | exact g8.elim c_153 (fun z => absurd z (Int64.not_le.mpr ((lg_cmp_gt _ _).mp c_161))) | exact g9.elim c_167 c_177 | exact g10.elim c_187 (fun z => c_199 z.1) | exact g10.elim c_187 (fun z => c_208 z.2)))
                          · refine ax_if_eq (tgt := 218) dX12_rule_180 (by decide) (fun _ => ?_) (fun z => absurd (by decide) z)
                            refine ax_iconst (v := 0) dX12_rule_218 (by decide) ?_
                            refine ax_istore (lv' := [(12, _), (11, _), (10, _), (9, _), (8, _), (7, _), (0, _), (1, _), (2, _), (4, _), (5, _), (6, _)]) dX12_rule_219 (by decide) rfl ?_
                            refine ax_iload dX12_rule_221 rfl ?_
                            refine ax_if_ne (tgt := 228) dX12_rule_223 (by decide) (fun z => absurd z (by decide)) (fun _ => ?_)
                            refine ax_iconst (v := -1) dX12_rule_226 (by decide) ?_
                            refine ax_iret dX12_rule_227 rfl rfl ?_
                            exact fin2 h (if_pos (fun g => by
                                obtain ⟨g1, g2, g3, g4, g5, g6, g7, g8, g9, g10⟩ := g
                                first | exact absurd c_43 (Int32.not_lt.mpr g1) | exact c_53 g2 | exact g3.elim c_62 (fun z => z.elim c_68 c_78) | exact c_91 g4 | exact c_104 g5 | exact c_117 g6 | exact c_132 g7 | exact g8.elim c_153 (fun z => absurd z (Int64.not_le.mpr ((lg_cmp_gt _ _).mp c_161))) | exact g9.elim c_167 c_177 | exact g10.elim c_187 (fun z => c_199 z.1) | exact g10.elim c_187 (fun z => c_208 z.2)))
                  · refine ax_if_eq (tgt := 142) dX12_rule_135 (by decide) (fun _ => ?_) (fun z => absurd (by decide) z)
                    refine ax_iconst (v := 0) dX12_rule_142 (by decide) ?_
                    refine ax_istore (lv' := [(12, _), (11, _), (10, _), (9, _), (8, _), (7, _), (0, _), (1, _), (2, _), (4, _), (5, _), (6, _)]) dX12_rule_143 (by decide) rfl ?_
                    refine ax_iload dX12_rule_145 rfl ?_
                    refine ax_if_eq (tgt := 218) dX12_rule_147 (by decide) (fun _ => ?_) (fun z => absurd (by decide) z)
                    refine ax_iconst (v := 0) dX12_rule_218 (by decide) ?_
                    refine ax_istore (lv' := [(12, _), (11, _), (10, _), (9, _), (8, _), (7, _), (0, _), (1, _), (2, _), (4, _), (5, _), (6, _)]) dX12_rule_219 (by decide) rfl ?_
                    refine ax_iload dX12_rule_221 rfl ?_
                    refine ax_if_ne (tgt := 228) dX12_rule_223 (by decide) (fun z => absurd z (by decide)) (fun _ => ?_)
                    refine ax_iconst (v := -1) dX12_rule_226 (by decide) ?_
                    refine ax_iret dX12_rule_227 rfl rfl ?_
                    exact fin2 h (if_pos (fun g => by
                        obtain ⟨g1, g2, g3, g4, g5, g6, g7, g8, g9, g10⟩ := g
                        first | exact absurd c_43 (Int32.not_lt.mpr g1) | exact c_53 g2 | exact g3.elim c_62 (fun z => z.elim c_68 c_78) | exact c_91 g4 | exact c_104 g5 | exact c_117 g6 | exact c_132 g7 | exact g8.elim c_153 (fun z => absurd z (Int64.not_le.mpr ((lg_cmp_gt _ _).mp c_161))) | exact g9.elim c_167 c_177 | exact g10.elim c_187 (fun z => c_199 z.1) | exact g10.elim c_187 (fun z => c_208 z.2)))
                · refine ax_if_eq (tgt := 142) dX12_rule_120 (by decide) (fun _ => ?_) (fun z => absurd (by decide) z)
                  refine ax_iconst (v := 0) dX12_rule_142 (by decide) ?_
                  refine ax_istore (lv' := [(12, _), (11, _), (10, _), (9, _), (8, _), (7, _), (0, _), (1, _), (2, _), (4, _), (5, _), (6, _)]) dX12_rule_143 (by decide) rfl ?_
                  refine ax_iload dX12_rule_145 rfl ?_
                  refine ax_if_eq (tgt := 218) dX12_rule_147 (by decide) (fun _ => ?_) (fun z => absurd (by decide) z)
                  refine ax_iconst (v := 0) dX12_rule_218 (by decide) ?_
                  refine ax_istore (lv' := [(12, _), (11, _), (10, _), (9, _), (8, _), (7, _), (0, _), (1, _), (2, _), (4, _), (5, _), (6, _)]) dX12_rule_219 (by decide) rfl ?_
                  refine ax_iload dX12_rule_221 rfl ?_
                  refine ax_if_ne (tgt := 228) dX12_rule_223 (by decide) (fun z => absurd z (by decide)) (fun _ => ?_)
                  refine ax_iconst (v := -1) dX12_rule_226 (by decide) ?_
                  refine ax_iret dX12_rule_227 rfl rfl ?_
                  exact fin2 h (if_pos (fun g => by
                      obtain ⟨g1, g2, g3, g4, g5, g6, g7, g8, g9, g10⟩ := g
                      first | exact absurd c_43 (Int32.not_lt.mpr g1) | exact c_53 g2 | exact g3.elim c_62 (fun z => z.elim c_68 c_78) | exact c_91 g4 | exact c_104 g5 | exact c_117 g6 | exact c_132 g7 | exact g8.elim c_153 (fun z => absurd z (Int64.not_le.mpr ((lg_cmp_gt _ _).mp c_161))) | exact g9.elim c_167 c_177 | exact g10.elim c_187 (fun z => c_199 z.1) | exact g10.elim c_187 (fun z => c_208 z.2)))
              · refine ax_if_eq (tgt := 142) dX12_rule_107 (by decide) (fun _ => ?_) (fun z => absurd (by decide) z)
                refine ax_iconst (v := 0) dX12_rule_142 (by decide) ?_
                refine ax_istore (lv' := [(12, _), (11, _), (10, _), (9, _), (8, _), (7, _), (0, _), (1, _), (2, _), (4, _), (5, _), (6, _)]) dX12_rule_143 (by decide) rfl ?_
                refine ax_iload dX12_rule_145 rfl ?_
                refine ax_if_eq (tgt := 218) dX12_rule_147 (by decide) (fun _ => ?_) (fun z => absurd (by decide) z)
                refine ax_iconst (v := 0) dX12_rule_218 (by decide) ?_
                refine ax_istore (lv' := [(12, _), (11, _), (10, _), (9, _), (8, _), (7, _), (0, _), (1, _), (2, _), (4, _), (5, _), (6, _)]) dX12_rule_219 (by decide) rfl ?_
                refine ax_iload dX12_rule_221 rfl ?_
                refine ax_if_ne (tgt := 228) dX12_rule_223 (by decide) (fun z => absurd z (by decide)) (fun _ => ?_)
                refine ax_iconst (v := -1) dX12_rule_226 (by decide) ?_
                refine ax_iret dX12_rule_227 rfl rfl ?_
                exact fin2 h (if_pos (fun g => by
                    obtain ⟨g1, g2, g3, g4, g5, g6, g7, g8, g9, g10⟩ := g
                    first | exact absurd c_43 (Int32.not_lt.mpr g1) | exact c_53 g2 | exact g3.elim c_62 (fun z => z.elim c_68 c_78) | exact c_91 g4 | exact c_104 g5 | exact c_117 g6 | exact c_132 g7 | exact g8.elim c_153 (fun z => absurd z (Int64.not_le.mpr ((lg_cmp_gt _ _).mp c_161))) | exact g9.elim c_167 c_177 | exact g10.elim c_187 (fun z => c_199 z.1) | exact g10.elim c_187 (fun z => c_208 z.2)))
            · refine ax_if_eq (tgt := 142) dX12_rule_94 (by decide) (fun _ => ?_) (fun z => absurd (by decide) z)
              refine ax_iconst (v := 0) dX12_rule_142 (by decide) ?_
              refine ax_istore (lv' := [(12, _), (11, _), (10, _), (9, _), (8, _), (7, _), (0, _), (1, _), (2, _), (4, _), (5, _), (6, _)]) dX12_rule_143 (by decide) rfl ?_
              refine ax_iload dX12_rule_145 rfl ?_
              refine ax_if_eq (tgt := 218) dX12_rule_147 (by decide) (fun _ => ?_) (fun z => absurd (by decide) z)
              refine ax_iconst (v := 0) dX12_rule_218 (by decide) ?_
              refine ax_istore (lv' := [(12, _), (11, _), (10, _), (9, _), (8, _), (7, _), (0, _), (1, _), (2, _), (4, _), (5, _), (6, _)]) dX12_rule_219 (by decide) rfl ?_
              refine ax_iload dX12_rule_221 rfl ?_
              refine ax_if_ne (tgt := 228) dX12_rule_223 (by decide) (fun z => absurd z (by decide)) (fun _ => ?_)
              refine ax_iconst (v := -1) dX12_rule_226 (by decide) ?_
              refine ax_iret dX12_rule_227 rfl rfl ?_
              exact fin2 h (if_pos (fun g => by
                  obtain ⟨g1, g2, g3, g4, g5, g6, g7, g8, g9, g10⟩ := g
                  first | exact absurd c_43 (Int32.not_lt.mpr g1) | exact c_53 g2 | exact g3.elim c_62 (fun z => z.elim c_68 c_78) | exact c_91 g4 | exact c_104 g5 | exact c_117 g6 | exact c_132 g7 | exact g8.elim c_153 (fun z => absurd z (Int64.not_le.mpr ((lg_cmp_gt _ _).mp c_161))) | exact g9.elim c_167 c_177 | exact g10.elim c_187 (fun z => c_199 z.1) | exact g10.elim c_187 (fun z => c_208 z.2)))
          · refine ax_if_eq (tgt := 142) dX12_rule_81 (by decide) (fun _ => ?_) (fun z => absurd (by decide) z)
            refine ax_iconst (v := 0) dX12_rule_142 (by decide) ?_
            refine ax_istore (lv' := [(12, _), (11, _), (10, _), (9, _), (8, _), (7, _), (0, _), (1, _), (2, _), (4, _), (5, _), (6, _)]) dX12_rule_143 (by decide) rfl ?_
            refine ax_iload dX12_rule_145 rfl ?_
            refine ax_if_eq (tgt := 218) dX12_rule_147 (by decide) (fun _ => ?_) (fun z => absurd (by decide) z)
            refine ax_iconst (v := 0) dX12_rule_218 (by decide) ?_
            refine ax_istore (lv' := [(12, _), (11, _), (10, _), (9, _), (8, _), (7, _), (0, _), (1, _), (2, _), (4, _), (5, _), (6, _)]) dX12_rule_219 (by decide) rfl ?_
            refine ax_iload dX12_rule_221 rfl ?_
            refine ax_if_ne (tgt := 228) dX12_rule_223 (by decide) (fun z => absurd z (by decide)) (fun _ => ?_)
            refine ax_iconst (v := -1) dX12_rule_226 (by decide) ?_
            refine ax_iret dX12_rule_227 rfl rfl ?_
            exact fin2 h (if_pos (fun g => by
                obtain ⟨g1, g2, g3, g4, g5, g6, g7, g8, g9, g10⟩ := g
                first | exact absurd c_43 (Int32.not_lt.mpr g1) | exact c_53 g2 | exact g3.elim c_62 (fun z => z.elim c_68 c_78) | exact c_91 g4 | exact c_104 g5 | exact c_117 g6 | exact c_132 g7 | exact g8.elim c_153 (fun z => absurd z (Int64.not_le.mpr ((lg_cmp_gt _ _).mp c_161))) | exact g9.elim c_167 c_177 | exact g10.elim c_187 (fun z => c_199 z.1) | exact g10.elim c_187 (fun z => c_208 z.2)))
    · refine ax_if_eq (tgt := 142) dX12_rule_56 (by decide) (fun _ => ?_) (fun z => absurd (by decide) z)
      refine ax_iconst (v := 0) dX12_rule_142 (by decide) ?_
      refine ax_istore (lv' := [(12, _), (11, _), (10, _), (9, _), (8, _), (7, _), (0, _), (1, _), (2, _), (4, _), (5, _), (6, _)]) dX12_rule_143 (by decide) rfl ?_
      refine ax_iload dX12_rule_145 rfl ?_
      refine ax_if_eq (tgt := 218) dX12_rule_147 (by decide) (fun _ => ?_) (fun z => absurd (by decide) z)
      refine ax_iconst (v := 0) dX12_rule_218 (by decide) ?_
      refine ax_istore (lv' := [(12, _), (11, _), (10, _), (9, _), (8, _), (7, _), (0, _), (1, _), (2, _), (4, _), (5, _), (6, _)]) dX12_rule_219 (by decide) rfl ?_
      refine ax_iload dX12_rule_221 rfl ?_
      refine ax_if_ne (tgt := 228) dX12_rule_223 (by decide) (fun z => absurd z (by decide)) (fun _ => ?_)
      refine ax_iconst (v := -1) dX12_rule_226 (by decide) ?_
      refine ax_iret dX12_rule_227 rfl rfl ?_
      exact fin2 h (if_pos (fun g => by
          obtain ⟨g1, g2, g3, g4, g5, g6, g7, g8, g9, g10⟩ := g
          first | exact absurd c_43 (Int32.not_lt.mpr g1) | exact c_53 g2 | exact g3.elim c_62 (fun z => z.elim c_68 c_78) | exact c_91 g4 | exact c_104 g5 | exact c_117 g6 | exact c_132 g7 | exact g8.elim c_153 (fun z => absurd z (Int64.not_le.mpr ((lg_cmp_gt _ _).mp c_161))) | exact g9.elim c_167 c_177 | exact g10.elim c_187 (fun z => c_199 z.1) | exact g10.elim c_187 (fun z => c_208 z.2)))
