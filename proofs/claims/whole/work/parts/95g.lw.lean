-- the law's loop
theorem and31 (a : Int32) : 0 ≤ (a &&& 31).toInt ∧ (a &&& 31).toInt ≤ 31 := by
  have h : (a &&& 31).toBitVec.toNat ≤ 31 := by
    rw [Int32.toBitVec_and, BitVec.toNat_and]
    exact Nat.le_trans Nat.and_le_right (by decide)
  rw [← Int32.toInt_toBitVec, BitVec.toInt_eq_toNat_of_lt (by omega)]
  omega
theorem sw_32 {x : Int32} (h : 0 ≤ x.toInt ∧ x.toInt ≤ 31) : x = 0 ∨ x = 1 ∨ x = 2 ∨ x = 3 ∨ x = 4 ∨ x = 5 ∨ x = 6 ∨ x = 7 ∨ x = 8 ∨ x = 9 ∨ x = 10 ∨ x = 11 ∨ x = 12 ∨ x = 13 ∨ x = 14 ∨ x = 15 ∨ x = 16 ∨ x = 17 ∨ x = 18 ∨ x = 19 ∨ x = 20 ∨ x = 21 ∨ x = 22 ∨ x = 23 ∨ x = 24 ∨ x = 25 ∨ x = 26 ∨ x = 27 ∨ x = 28 ∨ x = 29 ∨ x = 30 ∨ x = 31 := by
  have t : x.toInt = 0 ∨ x.toInt = 1 ∨ x.toInt = 2 ∨ x.toInt = 3 ∨ x.toInt = 4 ∨ x.toInt = 5 ∨ x.toInt = 6 ∨ x.toInt = 7 ∨ x.toInt = 8 ∨ x.toInt = 9 ∨ x.toInt = 10 ∨ x.toInt = 11 ∨ x.toInt = 12 ∨ x.toInt = 13 ∨ x.toInt = 14 ∨ x.toInt = 15 ∨ x.toInt = 16 ∨ x.toInt = 17 ∨ x.toInt = 18 ∨ x.toInt = 19 ∨ x.toInt = 20 ∨ x.toInt = 21 ∨ x.toInt = 22 ∨ x.toInt = 23 ∨ x.toInt = 24 ∨ x.toInt = 25 ∨ x.toInt = 26 ∨ x.toInt = 27 ∨ x.toInt = 28 ∨ x.toInt = 29 ∨ x.toInt = 30 ∨ x.toInt = 31 := by omega
  rcases t with e | e | e | e | e | e | e | e | e | e | e | e | e | e | e | e | e | e | e | e | e | e | e | e | e | e | e | e | e | e | e | e
  · exact (Or.inl (Int32.toInt_inj.mp e))
  · exact (Or.inr (Or.inl (Int32.toInt_inj.mp e)))
  · exact (Or.inr (Or.inr (Or.inl (Int32.toInt_inj.mp e))))
  · exact (Or.inr (Or.inr (Or.inr (Or.inl (Int32.toInt_inj.mp e)))))
  · exact (Or.inr (Or.inr (Or.inr (Or.inr (Or.inl (Int32.toInt_inj.mp e))))))
  · exact (Or.inr (Or.inr (Or.inr (Or.inr (Or.inr (Or.inl (Int32.toInt_inj.mp e)))))))
  · exact (Or.inr (Or.inr (Or.inr (Or.inr (Or.inr (Or.inr (Or.inl (Int32.toInt_inj.mp e))))))))
  · exact (Or.inr (Or.inr (Or.inr (Or.inr (Or.inr (Or.inr (Or.inr (Or.inl (Int32.toInt_inj.mp e)))))))))
  · exact (Or.inr (Or.inr (Or.inr (Or.inr (Or.inr (Or.inr (Or.inr (Or.inr (Or.inl (Int32.toInt_inj.mp e))))))))))
  · exact (Or.inr (Or.inr (Or.inr (Or.inr (Or.inr (Or.inr (Or.inr (Or.inr (Or.inr (Or.inl (Int32.toInt_inj.mp e)))))))))))
  · exact (Or.inr (Or.inr (Or.inr (Or.inr (Or.inr (Or.inr (Or.inr (Or.inr (Or.inr (Or.inr (Or.inl (Int32.toInt_inj.mp e))))))))))))
  · exact (Or.inr (Or.inr (Or.inr (Or.inr (Or.inr (Or.inr (Or.inr (Or.inr (Or.inr (Or.inr (Or.inr (Or.inl (Int32.toInt_inj.mp e)))))))))))))
  · exact (Or.inr (Or.inr (Or.inr (Or.inr (Or.inr (Or.inr (Or.inr (Or.inr (Or.inr (Or.inr (Or.inr (Or.inr (Or.inl (Int32.toInt_inj.mp e))))))))))))))
  · exact (Or.inr (Or.inr (Or.inr (Or.inr (Or.inr (Or.inr (Or.inr (Or.inr (Or.inr (Or.inr (Or.inr (Or.inr (Or.inr (Or.inl (Int32.toInt_inj.mp e)))))))))))))))
  · exact (Or.inr (Or.inr (Or.inr (Or.inr (Or.inr (Or.inr (Or.inr (Or.inr (Or.inr (Or.inr (Or.inr (Or.inr (Or.inr (Or.inr (Or.inl (Int32.toInt_inj.mp e))))))))))))))))
  · exact (Or.inr (Or.inr (Or.inr (Or.inr (Or.inr (Or.inr (Or.inr (Or.inr (Or.inr (Or.inr (Or.inr (Or.inr (Or.inr (Or.inr (Or.inr (Or.inl (Int32.toInt_inj.mp e)))))))))))))))))
  · exact (Or.inr (Or.inr (Or.inr (Or.inr (Or.inr (Or.inr (Or.inr (Or.inr (Or.inr (Or.inr (Or.inr (Or.inr (Or.inr (Or.inr (Or.inr (Or.inr (Or.inl (Int32.toInt_inj.mp e))))))))))))))))))
  · exact (Or.inr (Or.inr (Or.inr (Or.inr (Or.inr (Or.inr (Or.inr (Or.inr (Or.inr (Or.inr (Or.inr (Or.inr (Or.inr (Or.inr (Or.inr (Or.inr (Or.inr (Or.inl (Int32.toInt_inj.mp e)))))))))))))))))))
  · exact (Or.inr (Or.inr (Or.inr (Or.inr (Or.inr (Or.inr (Or.inr (Or.inr (Or.inr (Or.inr (Or.inr (Or.inr (Or.inr (Or.inr (Or.inr (Or.inr (Or.inr (Or.inr (Or.inl (Int32.toInt_inj.mp e))))))))))))))))))))
  · exact (Or.inr (Or.inr (Or.inr (Or.inr (Or.inr (Or.inr (Or.inr (Or.inr (Or.inr (Or.inr (Or.inr (Or.inr (Or.inr (Or.inr (Or.inr (Or.inr (Or.inr (Or.inr (Or.inr (Or.inl (Int32.toInt_inj.mp e)))))))))))))))))))))
  · exact (Or.inr (Or.inr (Or.inr (Or.inr (Or.inr (Or.inr (Or.inr (Or.inr (Or.inr (Or.inr (Or.inr (Or.inr (Or.inr (Or.inr (Or.inr (Or.inr (Or.inr (Or.inr (Or.inr (Or.inr (Or.inl (Int32.toInt_inj.mp e))))))))))))))))))))))
  · exact (Or.inr (Or.inr (Or.inr (Or.inr (Or.inr (Or.inr (Or.inr (Or.inr (Or.inr (Or.inr (Or.inr (Or.inr (Or.inr (Or.inr (Or.inr (Or.inr (Or.inr (Or.inr (Or.inr (Or.inr (Or.inr (Or.inl (Int32.toInt_inj.mp e)))))))))))))))))))))))
  · exact (Or.inr (Or.inr (Or.inr (Or.inr (Or.inr (Or.inr (Or.inr (Or.inr (Or.inr (Or.inr (Or.inr (Or.inr (Or.inr (Or.inr (Or.inr (Or.inr (Or.inr (Or.inr (Or.inr (Or.inr (Or.inr (Or.inr (Or.inl (Int32.toInt_inj.mp e))))))))))))))))))))))))
  · exact (Or.inr (Or.inr (Or.inr (Or.inr (Or.inr (Or.inr (Or.inr (Or.inr (Or.inr (Or.inr (Or.inr (Or.inr (Or.inr (Or.inr (Or.inr (Or.inr (Or.inr (Or.inr (Or.inr (Or.inr (Or.inr (Or.inr (Or.inr (Or.inl (Int32.toInt_inj.mp e)))))))))))))))))))))))))
  · exact (Or.inr (Or.inr (Or.inr (Or.inr (Or.inr (Or.inr (Or.inr (Or.inr (Or.inr (Or.inr (Or.inr (Or.inr (Or.inr (Or.inr (Or.inr (Or.inr (Or.inr (Or.inr (Or.inr (Or.inr (Or.inr (Or.inr (Or.inr (Or.inr (Or.inl (Int32.toInt_inj.mp e))))))))))))))))))))))))))
  · exact (Or.inr (Or.inr (Or.inr (Or.inr (Or.inr (Or.inr (Or.inr (Or.inr (Or.inr (Or.inr (Or.inr (Or.inr (Or.inr (Or.inr (Or.inr (Or.inr (Or.inr (Or.inr (Or.inr (Or.inr (Or.inr (Or.inr (Or.inr (Or.inr (Or.inr (Or.inl (Int32.toInt_inj.mp e)))))))))))))))))))))))))))
  · exact (Or.inr (Or.inr (Or.inr (Or.inr (Or.inr (Or.inr (Or.inr (Or.inr (Or.inr (Or.inr (Or.inr (Or.inr (Or.inr (Or.inr (Or.inr (Or.inr (Or.inr (Or.inr (Or.inr (Or.inr (Or.inr (Or.inr (Or.inr (Or.inr (Or.inr (Or.inr (Or.inl (Int32.toInt_inj.mp e))))))))))))))))))))))))))))
  · exact (Or.inr (Or.inr (Or.inr (Or.inr (Or.inr (Or.inr (Or.inr (Or.inr (Or.inr (Or.inr (Or.inr (Or.inr (Or.inr (Or.inr (Or.inr (Or.inr (Or.inr (Or.inr (Or.inr (Or.inr (Or.inr (Or.inr (Or.inr (Or.inr (Or.inr (Or.inr (Or.inr (Or.inl (Int32.toInt_inj.mp e)))))))))))))))))))))))))))))
  · exact (Or.inr (Or.inr (Or.inr (Or.inr (Or.inr (Or.inr (Or.inr (Or.inr (Or.inr (Or.inr (Or.inr (Or.inr (Or.inr (Or.inr (Or.inr (Or.inr (Or.inr (Or.inr (Or.inr (Or.inr (Or.inr (Or.inr (Or.inr (Or.inr (Or.inr (Or.inr (Or.inr (Or.inr (Or.inl (Int32.toInt_inj.mp e))))))))))))))))))))))))))))))
  · exact (Or.inr (Or.inr (Or.inr (Or.inr (Or.inr (Or.inr (Or.inr (Or.inr (Or.inr (Or.inr (Or.inr (Or.inr (Or.inr (Or.inr (Or.inr (Or.inr (Or.inr (Or.inr (Or.inr (Or.inr (Or.inr (Or.inr (Or.inr (Or.inr (Or.inr (Or.inr (Or.inr (Or.inr (Or.inr (Or.inl (Int32.toInt_inj.mp e)))))))))))))))))))))))))))))))
  · exact (Or.inr (Or.inr (Or.inr (Or.inr (Or.inr (Or.inr (Or.inr (Or.inr (Or.inr (Or.inr (Or.inr (Or.inr (Or.inr (Or.inr (Or.inr (Or.inr (Or.inr (Or.inr (Or.inr (Or.inr (Or.inr (Or.inr (Or.inr (Or.inr (Or.inr (Or.inr (Or.inr (Or.inr (Or.inr (Or.inr (Or.inl (Int32.toInt_inj.mp e))))))))))))))))))))))))))))))))
  · exact (Or.inr (Or.inr (Or.inr (Or.inr (Or.inr (Or.inr (Or.inr (Or.inr (Or.inr (Or.inr (Or.inr (Or.inr (Or.inr (Or.inr (Or.inr (Or.inr (Or.inr (Or.inr (Or.inr (Or.inr (Or.inr (Or.inr (Or.inr (Or.inr (Or.inr (Or.inr (Or.inr (Or.inr (Or.inr (Or.inr (Or.inr (Int32.toInt_inj.mp e))))))))))))))))))))))))))))))))
theorem lw_ix (j : Nat) : nI (7 * j) + 7 = nI (7 * (j + 1)) := by
  rw [Nat.mul_add]
  exact nI_add (7 * j) 7
abbrev lwE (r : Option Value) (_ : awS) (mc ms : Nat) : Prop := r = some (.int 1) ∧ mc ≤ 601024 ∧ ms ≤ 7293033
theorem lw_gt {n j : Nat} (hn : n ≤ 3584) (hj : j ≤ 512) : nI n - 7 < nI (7 * j) ↔ n < 7 * j + 7 := by
  have e1 : (nI n - 7).toInt = (n : Int) - 7 := pk_sub_toInt (b := 7) (by omega) (by decide)
  rw [Int32.lt_iff_toInt_lt, e1, nI_toInt (by omega)]
  omega

theorem lw_loop {E : awE} (hn : awE_n E ≤ 3584) : ∀ (m j : Nat) (S : awS) (M : aM) (kc ks : Nat), j + m = awE_n E / 7 → lwS S M → kc ≤ 110 + 60 * j + 4 * zz M → ks ≤ 134500 + 2000 * j + 1300 * zz M → awV true E m_law 23 (lwL j) [] S kc ks lwE := by
  have hnb : awE_n E < 2 ^ 31 := by omega
  intro m
  induction m with
  | zero =>
    intro j S M kc ks hm I b1 b2
    have hz := zz_le I.2.2.1.1.mI
    refine av_iload dL_law_23 rfl ?_
    refine av_aload_n (i := 0) dL_law_25 rfl rfl rfl ?_
    refine av_slen dL_law_26 ?_
    refine av_bipush (v := 7) dL_law_27 (by decide) ?_
    refine av_isub dL_law_29 ?_
    refine av_icmp_gt (tgt := 1491) dL_law_30 (by decide) (fun _ => ?_) (fun z => absurd ((lw_gt hn (by omega)).mpr (by omega)) z)
    refine av_iconst (v := 1) dL_law_1491 (by decide) ?_
    refine av_iret dL_law_1492 rfl rfl ?_
    exact ⟨rfl, by omega, by omega⟩
  | succ m ih =>
    intro j S M kc ks hm I b1 b2
    have hj : 7 * j + 7 ≤ awE_n E := by omega
    have hk : lwK E M j kc ks lwE := fun S' M' mc ms I' hz b3 b4 => by
      refine av_iinc (v := _ + 7) (lv' := [(4, _), (0, _), (1, _), (2, _), (3, _)]) dL_law_1485 rfl rfl (by decide) rfl ?_
      refine av_goto (tgt := 23) dL_law_1488 (by decide) ?_
      rw [lw_ix]
      exact av_loc rfl (ih (j + 1) S' M' mc ms (by omega) I' (by omega) (by omega))
    refine av_iload dL_law_23 rfl ?_
    refine av_aload_n (i := 0) dL_law_25 rfl rfl rfl ?_
    refine av_slen dL_law_26 ?_
    refine av_bipush (v := 7) dL_law_27 (by decide) ?_
    refine av_isub dL_law_29 ?_
    refine av_icmp_gt (tgt := 1491) dL_law_30 (by decide) (fun z => absurd ((lw_gt hn (by omega)).mp z) (by omega)) (fun _ => ?_)
    refine av_aload_n (i := 0) dL_law_33 rfl rfl rfl ?_
    refine av_iload dL_law_34 rfl ?_
    refine av_sldN dL_law_36 (by omega) hnb ?_
    refine av_bipush (v := 31) dL_law_37 (by decide) ?_
    refine av_iand dL_law_39 ?_
    obtain ⟨x, hx⟩ : ∃ x, awE_x E (7 * j) &&& 31 = x := ⟨_, rfl⟩
    have hr := and31 (awE_x E (7 * j))
    rw [hx] at hr ⊢
    clear hx
    rcases sw_32 hr with rfl | rfl | rfl | rfl | rfl | rfl | rfl | rfl | rfl | rfl | rfl | rfl | rfl | rfl | rfl | rfl | rfl | rfl | rfl | rfl | rfl | rfl | rfl | rfl | rfl | rfl | rfl | rfl | rfl | rfl | rfl | rfl
    · exact av_tableIn (tgt := 180) (off := 140) dL_law_40 (by decide) (by decide) (by decide) (by decide) (lc_0 I hj hnb hk)
    · exact av_tableIn (tgt := 205) (off := 165) dL_law_40 (by decide) (by decide) (by decide) (by decide) (lc_1 I hj hnb hk)
    · exact av_tableIn (tgt := 312) (off := 272) dL_law_40 (by decide) (by decide) (by decide) (by decide) (lc_2 I hj hnb hk)
    · exact av_tableIn (tgt := 361) (off := 321) dL_law_40 (by decide) (by decide) (by decide) (by decide) (lc_3 I hj hnb hk)
    · exact av_tableIn (tgt := 434) (off := 394) dL_law_40 (by decide) (by decide) (by decide) (by decide) (lc_4 I hj hnb hk)
    · exact av_tableIn (tgt := 459) (off := 419) dL_law_40 (by decide) (by decide) (by decide) (by decide) (lc_5 I hj hnb hk)
    · exact av_tableIn (tgt := 520) (off := 480) dL_law_40 (by decide) (by decide) (by decide) (by decide) (lc_6 I hj hnb hk)
    · exact av_tableIn (tgt := 533) (off := 493) dL_law_40 (by decide) (by decide) (by decide) (by decide) (lc_7 I hj hnb hk)
    · exact av_tableIn (tgt := 594) (off := 554) dL_law_40 (by decide) (by decide) (by decide) (by decide) (lc_8 I hj hnb hk)
    · exact av_tableIn (tgt := 655) (off := 615) dL_law_40 (by decide) (by decide) (by decide) (by decide) (lc_9 I hj hnb hk)
    · exact av_tableIn (tgt := 702) (off := 662) dL_law_40 (by decide) (by decide) (by decide) (by decide) (lc_10 I hj hnb hk)
    · exact av_tableIn (tgt := 727) (off := 687) dL_law_40 (by decide) (by decide) (by decide) (by decide) (lc_11 I hj hnb hk)
    · exact av_tableIn (tgt := 740) (off := 700) dL_law_40 (by decide) (by decide) (by decide) (by decide) (lc_12 I hj hnb hk)
    · exact av_tableIn (tgt := 777) (off := 737) dL_law_40 (by decide) (by decide) (by decide) (by decide) (lc_13 I hj hnb hk)
    · exact av_tableIn (tgt := 826) (off := 786) dL_law_40 (by decide) (by decide) (by decide) (by decide) (lc_14 I hj hnb hk)
    · exact av_tableIn (tgt := 863) (off := 823) dL_law_40 (by decide) (by decide) (by decide) (by decide) (lc_15 I hj hnb hk)
    · exact av_tableIn (tgt := 900) (off := 860) dL_law_40 (by decide) (by decide) (by decide) (by decide) (lc_16 I hj hnb hk)
    · exact av_tableIn (tgt := 937) (off := 897) dL_law_40 (by decide) (by decide) (by decide) (by decide) (lc_17 I hj hnb hk)
    · exact av_tableIn (tgt := 962) (off := 922) dL_law_40 (by decide) (by decide) (by decide) (by decide) (lc_18 I hj hnb hk)
    · exact av_tableIn (tgt := 999) (off := 959) dL_law_40 (by decide) (by decide) (by decide) (by decide) (lc_19 I hj hnb hk)
    · exact av_tableIn (tgt := 1036) (off := 996) dL_law_40 (by decide) (by decide) (by decide) (by decide) (lc_20 I hj hnb hk)
    · exact av_tableIn (tgt := 1073) (off := 1033) dL_law_40 (by decide) (by decide) (by decide) (by decide) (lc_21 I hj hnb hk)
    · exact av_tableIn (tgt := 1098) (off := 1058) dL_law_40 (by decide) (by decide) (by decide) (by decide) (lc_22 I hj hnb hk)
    · exact av_tableIn (tgt := 1135) (off := 1095) dL_law_40 (by decide) (by decide) (by decide) (by decide) (lc_23 I hj hnb hk)
    · exact av_tableIn (tgt := 1172) (off := 1132) dL_law_40 (by decide) (by decide) (by decide) (by decide) (lc_24 I hj hnb hk)
    · exact av_tableIn (tgt := 1197) (off := 1157) dL_law_40 (by decide) (by decide) (by decide) (by decide) (lc_25 I hj hnb hk)
    · exact av_tableIn (tgt := 1246) (off := 1206) dL_law_40 (by decide) (by decide) (by decide) (by decide) (lc_26 I hj hnb hk)
    · exact av_tableIn (tgt := 1295) (off := 1255) dL_law_40 (by decide) (by decide) (by decide) (by decide) (lc_27 I hj hnb hk)
    · exact av_tableIn (tgt := 1362) (off := 1322) dL_law_40 (by decide) (by decide) (by decide) (by decide) (lc_28 I hj hnb hk)
    · exact av_tableIn (tgt := 1435) (off := 1395) dL_law_40 (by decide) (by decide) (by decide) (by decide) (lc_29 I hj hnb hk)
    · exact av_tableIn (tgt := 1460) (off := 1420) dL_law_40 (by decide) (by decide) (by decide) (by decide) (lc_30 I hj hnb hk)
    · exact av_tableOut (tgt := 1485) dL_law_40 (Or.inr (by decide)) (by decide) (hk S M kc ks I (Nat.le_refl _) (by omega) (by omega))

