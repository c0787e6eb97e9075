theorem mL_wake (M : aM) (t : Nat) : ∀ k j, mL (mWake M t) k j = mL M k j := by
  have hp : ∀ k j, mL (mPlace M t) k j = mL M k j := by
    unfold mPlace
    refine mIter_inv (fun N => ∀ k j, mL N k j = mL M k j) (mIter_inv (fun N => ∀ k j, mL N k j = mL M k j) (fun _ _ => rfl) (fun _ a _ q => q)) (fun k a _ q => ?_)
    show ∀ k' j, mL (mSwapK a t k) k' j = mL M k' j
    unfold mSwapK
    split <;> exact q
  unfold mWake
  refine mIter_inv (fun N => ∀ k j, mL N k j = mL M k j) hp (fun st a _ q => mIter_inv (fun N => ∀ k j, mL N k j = mL M k j) q (fun hd b _ r => ?_))
  show ∀ k' j, mL (mWakeH t st hd b) k' j = mL M k' j
  unfold mWakeH
  split <;> exact r
theorem cFr.fm {f i : Nat} {S S' : awS} (h : cFr f i S S') (hf : fmOk f) : cFm S S' := by
  obtain ⟨I, T⟩ := S
  obtain ⟨I', T'⟩ := S'
  have hT : T' = T := h.1
  subst hT
  intro g hg
  refine ⟨fun i' k' => h.2 g i' k' (fun z => hg (by rw [z]; exact ⟨by decide, by decide, by decide⟩)) (fun z => hg (by rw [z]; exact ⟨by decide, by decide, by decide⟩)) (fun z => hg (by rw [z.1]; exact hf)), fun _ _ => rfl, fun _ _ => rfl, fun _ => rfl, rfl⟩
theorem cR.wake {τ : Nat → Nat → Nat} {S : awS} {M : aM} (R : cR τ S M) (t : Nat) : cR τ S (mWake M t) :=
  R.mc (mWake_inv R.mI t).1 (fun k _ h2 => ((mWake_inv R.mI t).2.1 k h2).trans ((mPlace_inv R.mI t).2 k)) (fun k j h1 h2 _ => ((mWake_inv R.mI t).2.2.1 k j h2).trans (place_o M t k j h1)) (fun k j _ => mL_wake M t k j)
theorem mWake_a {M : aM} (h : mI M) (t k j : Nat) (h1 : ¬ k = 76) (h2 : ¬ k = 77) : mA (mWake M t) k j = mA M k j := ((mWake_inv h t).2.2.1 k j h2).trans (place_o M t k j h1)
theorem mWake_s {M : aM} (h : mI M) (t k : Nat) (h2 : ¬ k = 78) : mS (mWake M t) k = mS M k := ((mWake_inv h t).2.1 k h2).trans ((mPlace_inv h t).2 k)
theorem cRest.wake {M : aM} (h : cRest M) (hI : mI M) (t : Nat) : cRest (mWake M t) := by
  intro i hi he
  have e : mN (mWake M t) 30 = mN M 30 := by unfold mN; rw [mWake_s hI t _ (by decide)]
  rw [e] at hi
  rw [mWake_a hI t _ _ (by decide) (by decide)] at he
  rw [mWake_a hI t _ _ (by decide) (by decide), mWake_a hI t _ _ (by decide) (by decide), mWake_a hI t _ _ (by decide) (by decide), mWake_a hI t _ _ (by decide) (by decide)]
  exact h i hi he

set_option maxHeartbeats 400000 in
set_option maxRecDepth 100000 in
theorem c_awake {E : awE} {S : awS} {M : aM} {Q : Option Value → awS → Nat → Nat → Prop} (R0 : cRR S M) {t i : Int32} (h : cPost S (mAwake M t i) Q) : awT true E m_X11_awake [.ref (nm 12 0), .int t, .int i] S Q := by
  refine awT.of (by decide) (by decide) (Nat.le_of_ble_eq_true rfl) ?_
  obtain ⟨R, hr0⟩ := R0
  refine ax_iload_n (i := 1) dX11_awake_0 rfl rfl ?_
  refine ax_iconst (v := 1) dX11_awake_1 (by decide) ?_
  refine ax_sipush (v := 1000) dX11_awake_2 (by decide) ?_
  refine ax_invS (n := 3) (As := [_, _, _]) dX11_awake_5 cb_X11_isWithin cs_X11_71.1 cs_X11_71.2 rfl ⟨Nat.le_of_ble_eq_true rfl, Nat.le_of_ble_eq_true rfl⟩ (Nat.le_of_ble_eq_true rfl) rfl (c_isWithin (fun c_5 => ?_) (fun c_5 => ?_))
  · refine ax_if_eq (tgt := 15) dX11_awake_8 (by decide) (fun z => absurd z (by decide)) (fun _ => ?_)
    refine ax_iload_n (i := 2) dX11_awake_11 rfl rfl ?_
    refine ax_if_ge (tgt := 17) dX11_awake_12 (by decide) (fun c_12 => ?_) (fun c_12 => ?_)
    · have e_t := le_1000 c_5
      have e_tb := e_t.2
      have R1 := R.t0
      have fe := fillRow_eq (S := S) (M := mT0 M) (t := nN t) (f := 26) (i := 0) (by decide) R1.mI R1.hO
      have fr : cFr 26 0 S (sRow 26 0 (sFind (mT0 M) (nN t) (sStand (mT0 M) (nN t) S))).1 := ((frStand 26 0 _ _ S).tr (frFind 26 0 _ _ _)).tr (frRow 26 0 _)
      have wk := mWake_inv R1.mI (nN t)
      have R2 := (R1.wake (nN t)).sc fr.1 (fun f i k h1 h2 h3 => fr.2 f i k h2 h3 (fun z => h1 z.1))
      have hr2 : cRest (mWake (mT0 M) (nN t)) := cRest.wake (M := mT0 M) hr0 R1.mI (nN t)
      have eCl : mN (mWake (mT0 M) (nN t)) 1 = mN M 1 := by unfold mN; rw [mWake_s R1.mI _ _ (by decide)]; rfl
      rw [e_t.1]
      refine ax_aload_n (i := 0) dX11_awake_17 rfl rfl rfl ?_
      refine ax_getR dX11_awake_18 fl_X11_40 rfl rfl rfl R.tow.2.1 ?_
      refine ax_iload_n (i := 1) dX11_awake_21 rfl rfl ?_
      refine ax_aload_n (i := 0) dX11_awake_22 rfl rfl rfl ?_
      refine ax_getR dX11_awake_23 fl_X11_44 rfl rfl rfl R.tow.2.2.1 ?_
      refine ax_invV (c := 5) (n := 2) (As := [_, _]) dX11_awake_26 cb_X4_fillRow cv_X11_378.1 cv_X11_378.2.1 cv_X11_378.2.2 rfl (by decide) rfl ⟨Nat.le_of_ble_eq_true rfl, Nat.le_of_ble_eq_true rfl⟩ (Nat.le_of_ble_eq_true rfl) rfl (c_fillRow26 (M := mT0 M) (i := 0) R1.ros R1.swp R1.sft R1.hO (by omega) R.tow.2.2.2.1 ?_)
      generalize hW : mWake (mT0 M) (nN t) = MW at fe R2 hr2 wk eCl
      generalize hA : sRow 26 0 (sFind (mT0 M) (nN t) (sStand (mT0 M) (nN t) S)) = A at fe fr R2
      have hA8 : A.2 ≤ 8 := by rw [fe.1]; have := wk.2.2.2.2; omega
      refine ax_istore_n (i := 3) (lv' := [(3, _), (0, _), (1, _), (2, _)]) dX11_awake_29 rfl (by decide) rfl ?_
      refine ax_iload_n (i := 2) dX11_awake_30 rfl rfl ?_
      refine ax_iload_n (i := 3) dX11_awake_31 rfl rfl ?_
      refine ax_icmp_ge (tgt := 53) dX11_awake_32 (by decide) (fun c_32 => ?_) (fun c_32 => ?_)
      · refine ax_bipush (v := -2) dX11_awake_53 (by decide) ?_
        refine ax_iret dX11_awake_55 rfl rfl ?_
        exact cfin (M' := MW) h ((mAwake_b c_5 c_12).trans (by rw [hW]; exact Prod.ext rfl (if_neg (fun z => Int32.not_lt.mpr c_32 (by rw [wk.2.2.2.1, ← fe.1] at z; exact z))))) ⟨by rw [eCl]; exact R2, hr2⟩ (fr.fm ⟨by decide, by decide, by decide⟩) (by decide) (by decide)
      · have e_i := rg_of (n := A.2) c_12 (Int32.not_le.mp c_32) (by omega)
        have e_ib := e_i.2
        rw [e_i.1]
        refine ax_iload_n (i := 2) dX11_awake_35 rfl rfl ?_
        refine ax_aload_n (i := 0) dX11_awake_36 rfl rfl rfl ?_
        refine ax_getR dX11_awake_37 fl_X11_44 rfl rfl rfl R2.tow.2.2.1 ?_
        refine ax_alenN dX11_awake_40 (by decide) rfl R2.tow.2.2.2.1 ?_
        refine ax_icmp_ge (tgt := 53) dX11_awake_41 (by decide) (fun c_41 => ?_) (fun c_41 => ?_)
        · exact absurd c_41 (Int32.not_le.mpr (nI_lt (b := 8) (by omega) (by decide)))
        · refine ax_aload_n (i := 0) dX11_awake_44 rfl rfl rfl ?_
          refine ax_getR dX11_awake_45 fl_X11_44 rfl rfl rfl R2.tow.2.2.1 ?_
          refine ax_iload_n (i := 2) dX11_awake_48 rfl rfl ?_
          refine ax_ialdN dX11_awake_49 rfl rfl R2.tow.2.2.2.1 (by decide) (by omega) ?_
          refine ax_goto (tgt := 55) dX11_awake_50 (by decide) ?_
          refine ax_iret dX11_awake_55 rfl rfl ?_
          exact cfin (M' := MW) h ((mAwake_b c_5 c_12).trans (by rw [hW]; exact Prod.ext rfl ((if_pos (by rw [wk.2.2.2.1, ← fe.1]; exact Int32.not_le.mp c_32)).trans (fe.2 _ e_i.2).symm))) ⟨by rw [eCl]; exact R2, hr2⟩ (fr.fm ⟨by decide, by decide, by decide⟩) (by decide) (by decide)
    · refine ax_iconst (v := -1) dX11_awake_15 (by decide) ?_
      refine ax_iret dX11_awake_16 rfl rfl ?_
      exact cfin h (if_pos (Or.inr (Int32.not_le.mp c_12))) (cRR.t0 ⟨R, hr0⟩) cFm.rf (by decide) (by decide)
  · refine ax_if_eq (tgt := 15) dX11_awake_8 (by decide) (fun _ => ?_) (fun z => absurd (by decide) z)
    refine ax_iconst (v := -1) dX11_awake_15 (by decide) ?_
    refine ax_iret dX11_awake_16 rfl rfl ?_
    exact cfin h (if_pos (Or.inl c_5)) (cRR.t0 ⟨R, hr0⟩) cFm.rf (by decide) (by decide)
