theorem wL_g (S : awS) (r j : Nat) (g : Nat → Int64) (v : Int64) : wL (wLf S 21 r g) 21 r j v = wLf S 21 r (uG g j v) := by
  unfold wL wLf u3 uG
  refine Prod.ext rfl (Prod.ext ?_ rfl)
  funext f i k
  dsimp only
  by_cases c : f = 21 ∧ i = r
  · obtain ⟨rfl, rfl⟩ := c
    simp
  · rw [if_neg (fun z => c ⟨z.1, z.2.1⟩), if_neg c, if_neg c]
theorem sL_g {S : awS} {r j : Nat} {g : Nat → Int64} : sL (wLf S 21 r g) 21 r j = g j := if_pos ⟨rfl, rfl⟩
theorem wLf_id (S : awS) (r : Nat) : wLf S 21 r (fun j => sL S 21 r j) = S := by
  obtain ⟨I, L, T⟩ := S
  unfold wLf sL
  refine Prod.ext rfl (Prod.ext ?_ rfl)
  funext f i k
  dsimp only
  by_cases c : f = 21 ∧ i = r
  · obtain ⟨rfl, rfl⟩ := c
    simp
  · rw [if_neg c]
theorem cR.srt {τ : Nat → Nat → Nat} {S : awS} {M : aM} (R : cR τ S M) (r : Nat) (g : Nat → Int64) : cR τ (wLf S 21 r g) M :=
  cR.mk' R.mI R.tow R.lst R.cx R.cnt.2.1 R.cnt.2.2 R.src R.rul R.ala R.ltr R.brd R.ix R.la R.sca R.val R.ref R.wat R.flg R.tru R.hld R.lea R.row R.bdr R.inv
theorem cFm.srt {S : awS} {r : Nat} {g : Nat → Int64} : cFm S (wLf S 21 r g) := fun f hf => ⟨fun _ _ => rfl, fun i k => by
  rw [sL_wLf, if_neg (fun z => hf (by rw [z.1]; exact ⟨by decide, by decide, by decide⟩))], fun _ _ => rfl, fun _ => rfl, rfl⟩
theorem rulS {S : awS} {r i : Nat} {g : Nat → Int64} (h : rulOk S i) : rulOk (wLf S 21 r g) i := h

set_option maxHeartbeats 400000 in
set_option maxRecDepth 100000 in
theorem c_insert {E : awE} {S : awS} {Q : Option Value → awS → Nat → Nat → Prop} {r c : Nat} {v : Int64} {g0 : Nat → Int64} (hr : rulOk S r) (hc : c < 20) (h : Q none (wLf S 21 r (insF v c g0)) 0 0) : awT true E m_X5_insert [.ref (nm 6 r), .long v, .int (nI c)] (wLf S 21 r g0) Q := by
  refine awT.of (by decide) (by decide) (Nat.le_of_ble_eq_true rfl) ?_
  have L : ∀ (p : Nat) (g : Nat → Int64), p < 20 → Q none (wLf S 21 r (insF v p g)) 0 0 → awX true E m_X5_insert 3 [(4, .int (nI p)), (0, .ref (nm 6 r)), (1, .long v), (3, .int (nI c))] [] (wLf S 21 r g) 0 0 Q := by
    intro p
    induction p with
    | zero =>
      intro g hp hq
      refine ax_iload dX5_insert_3 rfl ?_
      refine ax_if_le (tgt := 54) dX5_insert_5 (by decide) (fun c_5 => ?_) (fun c_5 => ?_)
      · refine ax_iload dX5_insert_54 rfl ?_
        refine ax_if_lt (tgt := 77) dX5_insert_56 (by decide) (fun c_56 => ?_) (fun c_56 => ?_)
        · exact absurd c_56 (Int32.not_lt.mpr (nI_nn (by omega)))
        · refine ax_iload dX5_insert_59 rfl ?_
          refine ax_aload_n (i := 0) dX5_insert_61 rfl rfl rfl ?_
          refine ax_getR dX5_insert_62 fl_X5_24 rfl rfl rfl hr.2.2.2.1 ?_
          refine ax_alenN dX5_insert_65 (by decide) rfl hr.2.2.2.2.2.2.2.1 ?_
          refine ax_icmp_ge (tgt := 77) dX5_insert_66 (by decide) (fun c_66 => ?_) (fun c_66 => ?_)
          · exact absurd c_66 (Int32.not_le.mpr (nI_lt (by omega) (by decide)))
          · refine ax_aload_n (i := 0) dX5_insert_69 rfl rfl rfl ?_
            refine ax_getR dX5_insert_70 fl_X5_24 rfl rfl rfl hr.2.2.2.1 ?_
            refine ax_iload dX5_insert_73 rfl ?_
            refine ax_lload_n (i := 1) dX5_insert_75 rfl rfl ?_
            refine ax_lastN dX5_insert_76 rfl rfl hr.2.2.2.2.2.2.2.1 (by decide) (by omega) ?_
            refine ax_vret dX5_insert_77 rfl ?_
            rw [wL_g]
            exact hq
      · exact absurd (by decide) c_5
    | succ p ih =>
      intro g hp hq
      refine ax_iload dX5_insert_3 rfl ?_
      refine ax_if_le (tgt := 54) dX5_insert_5 (by decide) (fun c_5 => ?_) (fun c_5 => ?_)
      · exact absurd c_5 (nI_nle (by omega) (by omega))
      · refine ax_iload dX5_insert_8 rfl ?_
        refine ax_aload_n (i := 0) dX5_insert_10 rfl rfl rfl ?_
        refine ax_getR dX5_insert_11 fl_X5_24 rfl rfl rfl hr.2.2.2.1 ?_
        refine ax_alenN dX5_insert_14 (by decide) rfl hr.2.2.2.2.2.2.2.1 ?_
        refine ax_icmp_ge (tgt := 54) dX5_insert_15 (by decide) (fun c_15 => ?_) (fun c_15 => ?_)
        · exact absurd c_15 (Int32.not_le.mpr (nI_lt (by omega) (by decide)))
        · refine ax_aload_n (i := 0) dX5_insert_18 rfl rfl rfl ?_
          refine ax_getR dX5_insert_19 fl_X5_24 rfl rfl rfl hr.2.2.2.1 ?_
          refine ax_iload dX5_insert_22 rfl ?_
          refine ax_iconst (v := nI 1) dX5_insert_24 (by decide) ?_
          refine ax_isubN dX5_insert_25 (by omega) ?_
          refine ax_laldN dX5_insert_26 rfl rfl hr.2.2.2.2.2.2.2.1 (by decide) (by omega) ?_
          refine ax_lload_n (i := 1) dX5_insert_27 rfl rfl ?_
          refine ax_lcmp dX5_insert_28 ?_
          refine ax_if_le (tgt := 54) dX5_insert_29 (by decide) (fun c_29 => ?_) (fun c_29 => ?_)
          · refine ax_iload dX5_insert_54 rfl ?_
            refine ax_if_lt (tgt := 77) dX5_insert_56 (by decide) (fun c_56 => ?_) (fun c_56 => ?_)
            · exact absurd c_56 (Int32.not_lt.mpr (nI_nn (by omega)))
            · refine ax_iload dX5_insert_59 rfl ?_
              refine ax_aload_n (i := 0) dX5_insert_61 rfl rfl rfl ?_
              refine ax_getR dX5_insert_62 fl_X5_24 rfl rfl rfl hr.2.2.2.1 ?_
              refine ax_alenN dX5_insert_65 (by decide) rfl hr.2.2.2.2.2.2.2.1 ?_
              refine ax_icmp_ge (tgt := 77) dX5_insert_66 (by decide) (fun c_66 => ?_) (fun c_66 => ?_)
              · exact absurd c_66 (Int32.not_le.mpr (nI_lt (by omega) (by decide)))
              · refine ax_aload_n (i := 0) dX5_insert_69 rfl rfl rfl ?_
                refine ax_getR dX5_insert_70 fl_X5_24 rfl rfl rfl hr.2.2.2.1 ?_
                refine ax_iload dX5_insert_73 rfl ?_
                refine ax_lload_n (i := 1) dX5_insert_75 rfl rfl ?_
                refine ax_lastN dX5_insert_76 rfl rfl hr.2.2.2.2.2.2.2.1 (by decide) (by omega) ?_
                refine ax_vret dX5_insert_77 rfl ?_
                rw [sL_g] at c_29
                rw [wL_g]
                rw [show insF v (p + 1) g = uG g (p + 1) v from if_neg (fun z => absurd ((lg_cmp_gt _ _).mpr z) (Int32.not_lt.mpr c_29))] at hq
                exact hq
          · refine ax_aload_n (i := 0) dX5_insert_32 rfl rfl rfl ?_
            refine ax_getR dX5_insert_33 fl_X5_24 rfl rfl rfl hr.2.2.2.1 ?_
            refine ax_iload dX5_insert_36 rfl ?_
            refine ax_aload_n (i := 0) dX5_insert_38 rfl rfl rfl ?_
            refine ax_getR dX5_insert_39 fl_X5_24 rfl rfl rfl hr.2.2.2.1 ?_
            refine ax_iload dX5_insert_42 rfl ?_
            refine ax_iconst (v := nI 1) dX5_insert_44 (by decide) ?_
            refine ax_isubN dX5_insert_45 (by omega) ?_
            refine ax_laldN dX5_insert_46 rfl rfl hr.2.2.2.2.2.2.2.1 (by decide) (by omega) ?_
            refine ax_lastN dX5_insert_47 rfl rfl hr.2.2.2.2.2.2.2.1 (by decide) (by omega) ?_
            rw [sL_g] at c_29
            rw [sL_g, wL_g]
            refine ax_iinc (v := _ + (-1)) (lv' := [(4, _), (0, _), (1, _), (3, _)]) dX5_insert_48 rfl rfl (by decide) rfl ?_
            refine ax_goto (tgt := 3) dX5_insert_51 (by decide) ?_
            rw [pk_m1]
            rw [show insF v (p + 1) g = insF v p (uG g (p + 1) (g p)) from if_pos ((lg_cmp_gt _ _).mp (Int32.not_le.mp c_29))] at hq
            exact ax_loc rfl (ih _ (by omega) hq)
  refine ax_iload_n (i := 3) dX5_insert_0 rfl rfl ?_
  refine ax_istore (lv' := [(4, _), (0, _), (1, _), (3, _)]) dX5_insert_1 (by decide) rfl ?_
  exact ax_loc rfl (L c g0 hc h)
theorem dn_ge {t m : Nat} (ht : t ≤ 400) (hm : m ≤ 400) : nI (t + 1) ≤ nI (t + 1) - nI m ↔ m = 0 := by
  rw [Int32.le_iff_toInt_le, dnt ht hm, nI_toInt (by omega)]
  omega

set_option maxHeartbeats 400000 in
set_option maxRecDepth 100000 in
theorem c_sortBefore {E : awE} {S : awS} {Q : Option Value → awS → Nat → Nat → Prop} {M : aM} {r i T w : Nat} {g0 : Nat → Int64} (hr : rulOk S r) (hs : srcOk S i) (hv : cVal S M) (hi : i < mN M 2) (hT : T ≤ 399) (ew : sI S 6 r 7 = nI w) (hw : w ≤ 20) (h : ∀ (g : Nat → Int64) (c : Nat), c = mCnt M i False 0 T w → srtd g c → (∀ P : Int64 → Prop, mCntP (fun j => P (g j)) c = kCnt M i (fun i' => P (mVal M i i')) T w) → Q (some (.int (nI c))) (wLf S 21 r g) 0 0) : awT true E m_X5_sortBefore [.ref (nm 6 r), .ref (nm 9 i), .int (nI (T + 1))] (wLf S 21 r g0) Q := by
  refine awT.of (by decide) (by decide) (Nat.le_of_ble_eq_true rfl) ?_
  have hT : T ≤ 400 := by omega
  have L : ∀ m, m ≤ w → ∀ (g : Nat → Int64) (c : Nat), c = (mCnt M i False 0 (T - m) (w - m)) → srtd g c → (∀ P : Int64 → Prop, mCntP (fun j => P (g j)) c = kCnt M i (fun i' => P (mVal M i i')) (T - m) (w - m)) → awX true E m_X5_sortBefore 10 [(4, .int (nI (T + 1) - nI m)), (3, .int (nI c)), (0, .ref (nm 6 r)), (1, .ref (nm 9 i)), (2, .int (nI (T + 1)))] [] (wLf S 21 r g) 0 0 Q := by
    intro m
    induction m with
    | zero =>
      intro hm g c hc h1 h2
      refine ax_iload dX5_sortBefore_10 rfl ?_
      refine ax_iload_n (i := 2) dX5_sortBefore_12 rfl rfl ?_
      refine ax_icmp_ge (tgt := 54) dX5_sortBefore_13 (by decide) (fun c_13 => ?_) (fun c_13 => ?_)
      · refine ax_iload_n (i := 3) dX5_sortBefore_54 rfl rfl ?_
        refine ax_iret dX5_sortBefore_55 rfl rfl ?_
        exact h g c hc h1 h2
      · exact absurd ((dn_ge hT (by omega)).mpr rfl) c_13
    | succ m ih =>
      intro hm g c hc h1 h2
      refine ax_iload dX5_sortBefore_10 rfl ?_
      refine ax_iload_n (i := 2) dX5_sortBefore_12 rfl rfl ?_
      refine ax_icmp_ge (tgt := 54) dX5_sortBefore_13 (by decide) (fun c_13 => ?_) (fun c_13 => ?_)
      · exact absurd ((dn_ge hT (by omega)).mp c_13) (by omega)
      · refine ax_aload_n (i := 1) dX5_sortBefore_16 rfl rfl rfl ?_
        refine ax_iload dX5_sortBefore_17 rfl ?_
        refine ax_invV (c := 9) (n := 1) (As := [_]) dX5_sortBefore_19 cb_X8_hasAt cv_X5_69.1 cv_X5_69.2.1 cv_X5_69.2.2 rfl (by decide) rfl ⟨Nat.le_of_ble_eq_true rfl, Nat.le_of_ble_eq_true rfl⟩ (Nat.le_of_ble_eq_true rfl) rfl (c_hasAt (n := T - m) hs (dn_has hT (by omega)) (fun c_19 => ?_) (fun c_19 => ?_))
        · refine ax_if_eq (tgt := 48) dX5_sortBefore_22 (by decide) (fun z => absurd z (by decide)) (fun _ => ?_)
          have hcl : c ≤ w - (m + 1) := by rw [hc]; exact mCnt_le M i False 0 _ _
          refine ax_iload_n (i := 3) dX5_sortBefore_25 rfl rfl ?_
          refine ax_aload_n (i := 0) dX5_sortBefore_26 rfl rfl rfl ?_
          refine ax_getR dX5_sortBefore_27 fl_X5_24 rfl rfl rfl hr.2.2.2.1 ?_
          refine ax_alenN dX5_sortBefore_30 (by decide) rfl hr.2.2.2.2.2.2.2.1 ?_
          refine ax_icmp_ge (tgt := 48) dX5_sortBefore_31 (by decide) (fun c_31 => ?_) (fun c_31 => ?_)
          · exact absurd c_31 (Int32.not_le.mpr (nI_lt (by omega) (by decide)))
          · refine ax_aload_n (i := 0) dX5_sortBefore_34 rfl rfl rfl ?_
            refine ax_aload_n (i := 1) dX5_sortBefore_35 rfl rfl rfl ?_
            refine ax_iload dX5_sortBefore_36 rfl ?_
            refine ax_invV (c := 9) (n := 1) (As := [_]) dX5_sortBefore_38 cb_X8_at cv_X5_73.1 cv_X5_73.2.1 cv_X5_73.2.2 rfl (by decide) rfl ⟨Nat.le_of_ble_eq_true rfl, Nat.le_of_ble_eq_true rfl⟩ (Nat.le_of_ble_eq_true rfl) rfl (c_at (n := T - m) hs (dn_has hT (by omega)) (fun _ => ?_) (fun z => absurd c_19 z))
            refine ax_iload_n (i := 3) dX5_sortBefore_41 rfl rfl ?_
            refine ax_invV (c := 6) (n := 2) (As := [_, _]) dX5_sortBefore_42 cb_X5_insert cv_X5_102.1 cv_X5_102.2.1 cv_X5_102.2.2 rfl (by decide) rfl ⟨Nat.le_of_ble_eq_true rfl, Nat.le_of_ble_eq_true rfl⟩ (Nat.le_of_ble_eq_true rfl) rfl (c_insert (S := S) hr (by omega) ?_)
            refine ax_iinc (v := _ + 1) (lv' := [(3, _), (4, _), (0, _), (1, _), (2, _)]) dX5_sortBefore_45 rfl rfl (by decide) rfl ?_
            rw [nI_1]
            refine ax_iinc (v := _ + 1) (lv' := [(4, _), (3, _), (0, _), (1, _), (2, _)]) dX5_sortBefore_48 rfl rfl (by decide) rfl ?_
            refine ax_goto (tgt := 10) dX5_sortBefore_51 (by decide) ?_
            rw [dnS hT (by omega)]
            have hh : mHas M i (T - m) := (hv.has hi (by omega)).mp c_19
            have ev : sL S 16 i (T - m) = mVal M i (T - m) := (hv i hi (T - m) (by omega)).2
            exact ax_loc rfl (ih (by omega) _ (c + 1) (by rw [mCnt_up M i False 0 (show m < w by omega), iC_t ⟨hh, fun z => z.elim⟩, hc]) (insF_srt _ c g h1) (fun P => by rw [insF_cnt, h2 P, kCnt_up M i (fun i' => P (mVal M i i')) (show m < w by omega)]; exact congrArg (fun x => _ + x) (iC_cg ⟨fun z => ⟨hh, ev ▸ z⟩, fun z => ev ▸ z.2⟩)))
        · refine ax_if_eq (tgt := 48) dX5_sortBefore_22 (by decide) (fun _ => ?_) (fun z => absurd (by decide) z)
          have hn : ¬ mHas M i (T - m) := fun z => c_19 ((hv.has hi (by omega)).mpr z)
          refine ax_iinc (v := _ + 1) (lv' := [(4, _), (3, _), (0, _), (1, _), (2, _)]) dX5_sortBefore_48 rfl rfl (by decide) rfl ?_
          refine ax_goto (tgt := 10) dX5_sortBefore_51 (by decide) ?_
          rw [dnS hT (by omega)]
          exact ax_loc rfl (ih (by omega) g c (by rw [mCnt_up M i False 0 (show m < w by omega), iC_f (fun z => hn z.1)]; exact hc) h1 (fun P => by rw [kCnt_up M i _ (show m < w by omega), iC_f (fun z => hn z.1)]; exact h2 P))
  refine ax_iconst (v := nI 0) dX5_sortBefore_0 (by decide) ?_
  refine ax_istore_n (i := 3) (lv' := [(3, _), (0, _), (1, _), (2, _)]) dX5_sortBefore_1 rfl (by decide) rfl ?_
  refine ax_iload_n (i := 2) dX5_sortBefore_2 rfl rfl ?_
  refine ax_aload_n (i := 0) dX5_sortBefore_3 rfl rfl rfl ?_
  refine ax_getI dX5_sortBefore_4 fl_X5_35 rfl rfl rfl ?_
  refine ax_top ew ?_
  refine ax_isub dX5_sortBefore_7 ?_
  refine ax_istore (lv' := [(4, _), (3, _), (0, _), (1, _), (2, _)]) dX5_sortBefore_8 (by decide) rfl ?_
  exact ax_loc rfl (L w (Nat.le_refl w) g0 0 (by rw [Nat.sub_self]; exact (mCnt_n0 M i False 0 (T - w)).symm) (fun a b _ z => absurd z (Nat.not_lt_zero b)) (fun P => by rw [Nat.sub_self, kCnt_0]; rfl))
theorem neg_le0 {d : Int64} (h : 0 ≤ d) : -d ≤ 0 := by
  rw [Int64.le_iff_toInt_le] at h ⊢
  have e0 : (0 : Int64).toInt = 0 := by decide
  have h2 := Int64.toInt_lt d
  rw [e0] at h ⊢
  rw [Int64.toInt_neg, Int.bmod_eq_of_le (by omega) (by omega)]
  omega

set_option maxHeartbeats 400000 in
set_option maxRecDepth 100000 in
theorem c_isOdd {E : awE} {S : awS} {Q : Option Value → awS → Nat → Nat → Prop} {r c : Nat} {v : Int64} {g : Nat → Int64} (hr : rulOk S r) (hc : c ≤ 20) (h1 : 3 ≤ c ∧ ((if sL S 6 r 2 < 0 then 0 else sL S 6 r 2) < (v - g ((c - 1) / 2)) ∨ (if sL S 6 r 2 < 0 then 0 else sL S 6 r 2) < -(v - g ((c - 1) / 2))) → Q (some (.int 1)) (wLf S 21 r g) 0 0) (h0 : ¬ (3 ≤ c ∧ ((if sL S 6 r 2 < 0 then 0 else sL S 6 r 2) < (v - g ((c - 1) / 2)) ∨ (if sL S 6 r 2 < 0 then 0 else sL S 6 r 2) < -(v - g ((c - 1) / 2)))) → Q (some (.int 0)) (wLf S 21 r g) 0 0) : awT true E m_X5_isOdd [.ref (nm 6 r), .long v, .int (nI c)] (wLf S 21 r g) Q := by
  refine awT.of (by decide) (by decide) (Nat.le_of_ble_eq_true rfl) ?_
  refine ax_iload_n (i := 3) dX5_isOdd_0 rfl rfl ?_
  refine ax_iconst (v := nI 3) dX5_isOdd_1 (by decide) ?_
  refine ax_icmp_ge (tgt := 7) dX5_isOdd_2 (by decide) (fun c_2 => ?_) (fun c_2 => ?_)
  · have h3 : 3 ≤ c := Nat.le_of_not_lt (fun z => absurd c_2 (Int32.not_le.mpr (nI_lt z (by decide))))
    refine ax_iload_n (i := 3) dX5_isOdd_7 rfl rfl ?_
    refine ax_iconst (v := nI 1) dX5_isOdd_8 (by decide) ?_
    refine ax_isubN dX5_isOdd_9 (by omega) ?_
    refine ax_iconst (v := nI 2) dX5_isOdd_10 (by decide) ?_
    refine ax_idiv dX5_isOdd_11 (by decide) ?_
    rw [pk_div (by omega) (by decide) (by decide)]
    refine ax_istore (lv' := [(4, _), (0, _), (1, _), (3, _)]) dX5_isOdd_12 (by decide) rfl ?_
    refine ax_iload dX5_isOdd_14 rfl ?_
    refine ax_aload_n (i := 0) dX5_isOdd_16 rfl rfl rfl ?_
    refine ax_getR dX5_isOdd_17 fl_X5_24 rfl rfl rfl hr.2.2.2.1 ?_
    refine ax_alenN dX5_isOdd_20 (by decide) rfl hr.2.2.2.2.2.2.2.1 ?_
    refine ax_icmp_ge (tgt := 36) dX5_isOdd_21 (by decide) (fun c_21 => ?_) (fun c_21 => ?_)
    · exact absurd c_21 (Int32.not_le.mpr (nI_lt (by omega) (by decide)))
    · refine ax_lload_n (i := 1) dX5_isOdd_24 rfl rfl ?_
      refine ax_aload_n (i := 0) dX5_isOdd_25 rfl rfl rfl ?_
      refine ax_getR dX5_isOdd_26 fl_X5_24 rfl rfl rfl hr.2.2.2.1 ?_
      refine ax_iload dX5_isOdd_29 rfl ?_
      refine ax_laldN dX5_isOdd_31 rfl rfl hr.2.2.2.2.2.2.2.1 (by decide) (by omega) ?_
      rw [sL_g]
      refine ax_lsub dX5_isOdd_32 ?_
      refine ax_goto (tgt := 37) dX5_isOdd_33 (by decide) ?_
      refine ax_lstore (lv' := [(5, _), (4, _), (0, _), (1, _), (3, _)]) dX5_isOdd_37 (by decide) rfl ?_
      refine ax_lload dX5_isOdd_39 rfl ?_
      refine ax_invS (n := 1) (As := [_]) dX5_isOdd_41 cb_J9_abs_067f4 cs_X5_92.1 cs_X5_92.2 rfl ⟨Nat.le_of_ble_eq_true rfl, Nat.le_of_ble_eq_true rfl⟩ (Nat.le_of_ble_eq_true rfl) rfl (t_labs (fun c_41 => ?_) (fun c_41 => ?_))
      · refine ax_aload_n (i := 0) dX5_isOdd_44 rfl rfl rfl ?_
        refine ax_getL dX5_isOdd_45 fl_X5_38 rfl rfl rfl ?_
        refine ax_lconst (v := 0) dX5_isOdd_48 (by decide) ?_
        refine ax_invS (n := 2) (As := [_, _]) dX5_isOdd_49 cb_J9_max_f86c9 cs_X5_98.1 cs_X5_98.2 rfl ⟨Nat.le_of_ble_eq_true rfl, Nat.le_of_ble_eq_true rfl⟩ (Nat.le_of_ble_eq_true rfl) rfl (t_lmax (fun c_49 => ?_) (fun c_49 => ?_))
        · refine ax_lcmp dX5_isOdd_52 ?_
          refine ax_if_le (tgt := 60) dX5_isOdd_53 (by decide) (fun c_53 => ?_) (fun c_53 => ?_)
          · refine ax_iconst (v := 0) dX5_isOdd_60 (by decide) ?_
            refine ax_iret dX5_isOdd_61 rfl rfl ?_
            have e1 : (if sL S 6 r 2 < 0 then 0 else sL S 6 r 2) = 0 := if_pos c_49
            exact h0 (fun z => by rw [e1] at z; exact z.2.elim (fun q => absurd (Int64.lt_trans q c_41) (Int64.not_lt.mpr (Int64.le_refl 0))) (fun q => absurd ((lg_cmp_gt _ _).mpr q) (Int32.not_lt.mpr c_53)))
          · refine ax_iconst (v := 1) dX5_isOdd_56 (by decide) ?_
            refine ax_goto (tgt := 61) dX5_isOdd_57 (by decide) ?_
            refine ax_iret dX5_isOdd_61 rfl rfl ?_
            have e1 : (if sL S 6 r 2 < 0 then 0 else sL S 6 r 2) = 0 := if_pos c_49
            exact h1 ⟨h3, by rw [e1]; exact Or.inr ((lg_cmp_gt _ _).mp (Int32.not_le.mp c_53))⟩
        · refine ax_lcmp dX5_isOdd_52 ?_
          refine ax_if_le (tgt := 60) dX5_isOdd_53 (by decide) (fun c_53 => ?_) (fun c_53 => ?_)
          · refine ax_iconst (v := 0) dX5_isOdd_60 (by decide) ?_
            refine ax_iret dX5_isOdd_61 rfl rfl ?_
            have e1 : (if sL S 6 r 2 < 0 then 0 else sL S 6 r 2) = sL S 6 r 2 := if_neg c_49
            exact h0 (fun z => by rw [e1] at z; exact z.2.elim (fun q => absurd (Int64.lt_trans q c_41) (Int64.not_lt.mpr (Int64.not_lt.mp c_49))) (fun q => absurd ((lg_cmp_gt _ _).mpr q) (Int32.not_lt.mpr c_53)))
          · refine ax_iconst (v := 1) dX5_isOdd_56 (by decide) ?_
            refine ax_goto (tgt := 61) dX5_isOdd_57 (by decide) ?_
            refine ax_iret dX5_isOdd_61 rfl rfl ?_
            have e1 : (if sL S 6 r 2 < 0 then 0 else sL S 6 r 2) = sL S 6 r 2 := if_neg c_49
            exact h1 ⟨h3, by rw [e1]; exact Or.inr ((lg_cmp_gt _ _).mp (Int32.not_le.mp c_53))⟩
      · refine ax_aload_n (i := 0) dX5_isOdd_44 rfl rfl rfl ?_
        refine ax_getL dX5_isOdd_45 fl_X5_38 rfl rfl rfl ?_
        refine ax_lconst (v := 0) dX5_isOdd_48 (by decide) ?_
        refine ax_invS (n := 2) (As := [_, _]) dX5_isOdd_49 cb_J9_max_f86c9 cs_X5_98.1 cs_X5_98.2 rfl ⟨Nat.le_of_ble_eq_true rfl, Nat.le_of_ble_eq_true rfl⟩ (Nat.le_of_ble_eq_true rfl) rfl (t_lmax (fun c_49 => ?_) (fun c_49 => ?_))
        · refine ax_lcmp dX5_isOdd_52 ?_
          refine ax_if_le (tgt := 60) dX5_isOdd_53 (by decide) (fun c_53 => ?_) (fun c_53 => ?_)
          · refine ax_iconst (v := 0) dX5_isOdd_60 (by decide) ?_
            refine ax_iret dX5_isOdd_61 rfl rfl ?_
            have e1 : (if sL S 6 r 2 < 0 then 0 else sL S 6 r 2) = 0 := if_pos c_49
            exact h0 (fun z => by rw [e1] at z; exact z.2.elim (fun q => absurd ((lg_cmp_gt _ _).mpr q) (Int32.not_lt.mpr c_53)) (fun q => absurd (Int64.lt_of_lt_of_le q (neg_le0 (Int64.not_lt.mp c_41))) (Int64.not_lt.mpr (Int64.le_refl 0))))
          · refine ax_iconst (v := 1) dX5_isOdd_56 (by decide) ?_
            refine ax_goto (tgt := 61) dX5_isOdd_57 (by decide) ?_
            refine ax_iret dX5_isOdd_61 rfl rfl ?_
            have e1 : (if sL S 6 r 2 < 0 then 0 else sL S 6 r 2) = 0 := if_pos c_49
            exact h1 ⟨h3, by rw [e1]; exact Or.inl ((lg_cmp_gt _ _).mp (Int32.not_le.mp c_53))⟩
        · refine ax_lcmp dX5_isOdd_52 ?_
          refine ax_if_le (tgt := 60) dX5_isOdd_53 (by decide) (fun c_53 => ?_) (fun c_53 => ?_)
          · refine ax_iconst (v := 0) dX5_isOdd_60 (by decide) ?_
            refine ax_iret dX5_isOdd_61 rfl rfl ?_
            have e1 : (if sL S 6 r 2 < 0 then 0 else sL S 6 r 2) = sL S 6 r 2 := if_neg c_49
            exact h0 (fun z => by rw [e1] at z; exact z.2.elim (fun q => absurd ((lg_cmp_gt _ _).mpr q) (Int32.not_lt.mpr c_53)) (fun q => absurd (Int64.lt_of_lt_of_le q (neg_le0 (Int64.not_lt.mp c_41))) (Int64.not_lt.mpr (Int64.not_lt.mp c_49))))
          · refine ax_iconst (v := 1) dX5_isOdd_56 (by decide) ?_
            refine ax_goto (tgt := 61) dX5_isOdd_57 (by decide) ?_
            refine ax_iret dX5_isOdd_61 rfl rfl ?_
            have e1 : (if sL S 6 r 2 < 0 then 0 else sL S 6 r 2) = sL S 6 r 2 := if_neg c_49
            exact h1 ⟨h3, by rw [e1]; exact Or.inl ((lg_cmp_gt _ _).mp (Int32.not_le.mp c_53))⟩
  · refine ax_iconst (v := 0) dX5_isOdd_5 (by decide) ?_
    refine ax_iret dX5_isOdd_6 rfl rfl ?_
    exact h0 (fun z => c_2 (nI_le (a := 3) z.1 (by omega)))
