-- the law's own element
def m_Lelt : awM := (⟨"AlarmTowerLaw", "element", "(LAlarmTower;II[J)I"⟩, method_3_code, 5, (some .int), 7, 170, false)
theorem kl_L13 : Cond.classLink "AlarmTowerLaw" 13 "java/lang/IllegalArgumentException" ∈ awBig := awBig_tab (n := 1138) (by decide +kernel) (by decide +kernel)
theorem kl_L15 : Cond.classLink "AlarmTowerLaw" 15 "java/lang/IllegalStateException" ∈ awBig := awBig_tab (n := 1139) (by decide +kernel) (by decide +kernel)
theorem lelC1 : awCatch m_Lelt 5 "java/lang/IllegalArgumentException" 12 := ⟨[], ⟨0, 9, 12, 13⟩, [⟨0, 9, 16, 15⟩], "java/lang/IllegalArgumentException", by decide +kernel, (fun z hz => by cases hz), by decide, by decide, kl_L13, by decide, rfl⟩
theorem lelC2 : awCatch m_Lelt 5 "java/lang/IllegalStateException" 16 := ⟨[⟨0, 9, 12, 13⟩], ⟨0, 9, 16, 15⟩, [], "java/lang/IllegalStateException", by decide +kernel, (fun z hz => by
  rw [List.mem_singleton.mp hz]
  exact Or.inr ⟨by decide, kl_L13, rfl⟩), by decide, by decide, kl_L15, by decide, rfl⟩

set_option maxHeartbeats 400000 in
set_option maxRecDepth 100000 in
theorem c_lel {E : awE} {S : awS} {M : aM} {τ : Nat → Nat → Nat} {Q : Option Value → awS → Nat → Nat → Prop} (R : cR τ S M) (h29 : sN S 29 0 = 1) {d i : Int32} (hg0 : elGood M d i → Q (some (.int 0)) (wL S 29 0 0 (mElement M d i).2) 0 0) (h1 : ¬ okBoard d → Q (some (.int 1)) S 1 6) (h2 : okBoard d → ¬ elGood M d i → Q (some (.int 2)) S 1 6) : awTv true E m_Lelt (awCH m_Lelt) [.ref (nm 12 0), .int d, .int i, .ref (nm 29 0)] S Q := by
  refine awTv.ofH (by decide) (by decide) (Nat.le_of_ble_eq_true rfl) ?_
  refine av_aload_n (i := 3) dL_element_0 rfl rfl rfl ?_
  refine av_iconst (v := nI 0) dL_element_1 (by decide) ?_
  refine av_aload_n (i := 0) dL_element_2 rfl rfl rfl ?_
  refine av_iload_n (i := 1) dL_element_3 rfl rfl ?_
  refine av_iload_n (i := 2) dL_element_4 rfl rfl ?_
  refine av_thV (cc := 12) (n := 2) (As := [_, _]) dL_element_5 cb_Telt cv_Telt.1 cv_Telt.2.1 cv_Telt.2.2 rfl (by decide) rfl ⟨Nat.le_of_ble_eq_true rfl, Nat.le_of_ble_eq_true rfl⟩ (Nat.le_of_ble_eq_true rfl) rfl (c_elt R (fun hg => ?_) (fun n1 => ?_) (fun n1 n2 => ?_))
  · refine Or.inl ⟨rfl, ?_⟩
    refine av_lastN dL_element_8 rfl rfl h29 (by decide) (by decide) ?_
    refine av_goto (tgt := 20) dL_element_9 (by decide) ?_
    refine av_iconst (v := 0) dL_element_20 (by decide) ?_
    refine av_iret dL_element_21 rfl rfl ?_
    exact hg0 hg
  · refine Or.inr ⟨_, 12, 4, _, rfl, lelC1, dL_element_12, by decide, rfl, ?_⟩
    refine av_iconst (v := 1) dL_element_14 (by decide) ?_
    refine av_iret dL_element_15 rfl rfl ?_
    exact h1 n1
  · refine Or.inr ⟨_, 16, 4, _, rfl, lelC2, dL_element_16, by decide, rfl, ?_⟩
    refine av_iconst (v := 2) dL_element_18 (by decide) ?_
    refine av_iret dL_element_19 rfl rfl ?_
    exact h2 n1 n2
