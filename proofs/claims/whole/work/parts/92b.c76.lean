-- the reference's constructor
def mIni (k : Nat) : Int32 := if k = 43 then 1 else if k = 44 then 2 else if k = 45 then 5 else if k = 46 then 20 else if k = 47 then 3 else 0
/-- the fields below n are made -/
def mdS (n : Nat) (B : awS) : awS := (fun f i j => if f = 13 ∧ i = 0 ∧ j < n then mIni j else B.1 f i j, B.2.1, fun f i j => if f = 13 ∧ i = 0 ∧ j < n ∧ 0 < mLen j then some (nm (128 + j) 0) else B.2.2.1 f i j, fun f => if 128 ≤ f ∧ f < 128 + n ∧ 0 < mLen (f - 128) then 1 else B.2.2.2.1 f, fun f i => if 128 ≤ f ∧ f < 128 + n ∧ i = 0 ∧ 0 < mLen (f - 128) then mLen (f - 128) else B.2.2.2.2.1 f i, B.2.2.2.2.2)
/-- nothing of the reference stands -/
def hiZ (B : awS) : Prop := (∀ j, B.1 13 0 j = 0) ∧ (∀ f, 128 ≤ f → B.2.2.2.1 f = 0) ∧ (∀ f j, 128 ≤ f → B.1 f 0 j = 0) ∧ (∀ f j, 128 ≤ f → B.2.1 f 0 j = 0) ∧ (∀ f j, 128 ≤ f → B.2.2.1 f 0 j = none)
theorem md_0 (B : awS) : B = mdS 0 B := by
  unfold mdS
  refine Prod.ext ?_ (Prod.ext rfl (Prod.ext ?_ (Prod.ext ?_ (Prod.ext ?_ rfl)))) <;> (funext f) <;> try grind
theorem md_skip {B : awS} (hB : hiZ B) (k n : Nat) (h : ∀ j, j < k + n → k ≤ j → mLen j = 0 ∧ mIni j = 0) : mdS k B = mdS (k + n) B := by
  obtain ⟨h1, h2, h3, h4, h5⟩ := hB
  unfold mdS
  refine Prod.ext ?_ (Prod.ext rfl (Prod.ext ?_ (Prod.ext ?_ (Prod.ext ?_ rfl))))
  · funext f i j
    dsimp only
    have := h j
    grind
  · funext f i j
    dsimp only
    have := h j
    grind
  · funext f
    dsimp only
    have := h (f - 128)
    grind
  · funext f i
    dsimp only
    have := h (f - 128)
    grind
theorem md_c {B : awS} (hB : hiZ B) (k : Nat) : sC (mdS k B) (128 + k) = 0 := by
  obtain ⟨h1, h2, h3, h4, h5⟩ := hB
  unfold mdS sC
  dsimp only
  rw [if_neg (by omega)]
  exact h2 _ (by omega)
theorem md_arr {B : awS} (hB : hiZ B) (k n : Nat) (hn : mLen k = n) (hp : 0 < n) (h0 : mIni k = 0) : wR (wNew (mdS k B) (128 + k) n) 13 0 k (some (nm (128 + k) 0)) = mdS (k + 1) B := by
  have hc := md_c hB k
  obtain ⟨h1, h2, h3, h4, h5⟩ := hB
  subst hn
  unfold wR wNew u3
  rw [hc]
  unfold mdS
  refine Prod.ext ?_ (Prod.ext ?_ (Prod.ext ?_ (Prod.ext ?_ (Prod.ext ?_ rfl))))
  · funext f i j
    dsimp only
    grind
  · funext f i j
    dsimp only
    grind
  · funext f i j
    dsimp only
    grind
  · funext f
    dsimp only
    have : f = 128 + k → f - 128 = k := by omega
    grind
  · funext f i
    dsimp only
    have : f = 128 + k → f - 128 = k := by omega
    grind
theorem md_int {B : awS} (hB : hiZ B) (k : Nat) (v : Int32) (hv : mIni k = v) (hn : mLen k = 0) : wI (mdS k B) 13 0 k v = mdS (k + 1) B := by
  obtain ⟨h1, h2, h3, h4, h5⟩ := hB
  subst hv
  unfold wI u3 mdS
  refine Prod.ext ?_ (Prod.ext rfl (Prod.ext ?_ (Prod.ext ?_ (Prod.ext ?_ rfl))))
  · funext f i j
    dsimp only
    grind
  · funext f i j
    dsimp only
    grind
  · funext f
    dsimp only
    have : f = 128 + k → f - 128 = k := by omega
    grind
  · funext f i
    dsimp only
    have : f = 128 + k → f - 128 = k := by omega
    grind
/-- what the reference starts with; its rows of nothing before stand below n -/
def iM (n : Nat) : aM := (mIni, fun k j => if (k = 17 ∨ k = 20) ∧ j < n then -1 else 0, fun _ _ => 0)
theorem iM_0 {B : awS} (hB : hiZ B) : mdS 84 B = putM (mdS 84 B) (iM 0) := by
  obtain ⟨h1, h2, h3, h4, h5⟩ := hB
  unfold putM mdS iM
  refine Prod.ext ?_ (Prod.ext ?_ rfl)
  · funext f i j
    dsimp only
    have : 84 ≤ j → mIni j = 0 := fun q => by unfold mIni; grind
    grind
  · funext f i j
    dsimp only
    grind
theorem iM_s (k : Nat) : pA (pA (iM k) 17 k (-1)) 20 k (-1) = iM (k + 1) := by
  unfold pA iM
  refine Prod.ext rfl (Prod.ext ?_ rfl)
  funext a b
  dsimp only
  grind
theorem md_ok (B : awS) : mOk (mdS 84 B) := by
  intro k hk
  have h84 : k < 84 := Nat.lt_of_not_le (fun z => by
    have e : mLen k = 0 := by
      unfold mLen
      rw [List.getD_eq_getElem?_getD, List.getElem?_eq_none (show mLenL.length ≤ k from z)]
      rfl
    omega)
  unfold sR sN mdS
  dsimp only
  rw [if_pos ⟨rfl, rfl, h84, hk⟩, if_pos ⟨by omega, by omega, rfl, by rw [Nat.add_sub_cancel_left]; exact hk⟩, Nat.add_sub_cancel_left]
  exact ⟨rfl, rfl⟩

set_option maxHeartbeats 400000 in
set_option maxRecDepth 100000 in
theorem c_iMod {E : awE} {B : awS} {Q : Option Value → awS → Nat → Nat → Prop} (hB : hiZ B) (h : Q none (putM (mdS 84 B) (iM 256)) (0 + 66) (0 + 133608)) : awT true E m_X12_init [.ref (nm 13 0)] B Q := by
  refine awT.of (by decide) (by decide) (Nat.le_of_ble_eq_true rfl) ?_
  have hm : mOk (mdS 84 B) := md_ok B
  have L : ∀ (m k : Nat), k + m = 256 → awX true E m_X12_init 593 [(1, .int (nI k)), (0, .ref (nm 13 0))] [] (putM (mdS 84 B) (iM k)) (0 + 66) (0 + 133608) Q := by
    intro m
    induction m with
    | zero =>
      intro k hm1 
      refine ax_iload_n (i := 1) dX12_init_593 rfl rfl ?_
      refine ax_sipush (v := 256) dX12_init_594 (by decide) ?_
      refine ax_icmp_ge (tgt := 620) dX12_init_597 (by decide) (fun c_597 => ?_) (fun c_597 => ?_)
      · have hk2 : k = 256 := Nat.le_antisymm (by omega) (ge_of_c (b := 256) rfl c_597 (by omega))
        refine ax_vret dX12_init_620 rfl ?_
        rw [hk2]
        exact h
      · exact absurd (lt_of_c (b := 256) rfl c_597 (by omega)) (by omega)
    | succ m ih =>
      intro k hm1 
      refine ax_iload_n (i := 1) dX12_init_593 rfl rfl ?_
      refine ax_sipush (v := 256) dX12_init_594 (by decide) ?_
      refine ax_icmp_ge (tgt := 620) dX12_init_597 (by decide) (fun c_597 => ?_) (fun c_597 => ?_)
      · exact absurd (ge_of_c (b := 256) rfl c_597 (by omega)) (by omega)
      · have hk2 : k < 256 := lt_of_c (b := 256) rfl c_597 (by omega)
        refine ax_aload_n (i := 0) dX12_init_600 rfl rfl rfl ?_
        refine ax_mR hm dX12_init_601 fl_X12_53 rfl (by decide) ?_
        refine ax_iload_n (i := 1) dX12_init_604 rfl rfl ?_
        refine ax_iconst (v := -1) dX12_init_605 (by decide) ?_
        refine ax_mPIN (N := 256) hm dX12_init_606 rfl rfl (by decide) (by omega) ?_
        refine ax_aload_n (i := 0) dX12_init_607 rfl rfl rfl ?_
        refine ax_mR hm dX12_init_608 fl_X12_62 rfl (by decide) ?_
        refine ax_iload_n (i := 1) dX12_init_611 rfl rfl ?_
        refine ax_iconst (v := -1) dX12_init_612 (by decide) ?_
        refine ax_mPIN (N := 256) hm dX12_init_613 rfl rfl (by decide) (by omega) ?_
        refine ax_mE (iM_s k) ?_
        refine ax_iinc (v := _ + 1) (lv' := [(1, _), (0, _)]) dX12_init_614 rfl rfl (by decide) rfl ?_
        refine ax_goto (tgt := 593) dX12_init_617 (by decide) ?_
        rw [nI_1]
        exact ax_loc rfl (ih (k + 1) (by omega))
  refine ax_aload_n (i := 0) dX12_init_0 rfl rfl rfl ?_
  refine ax_objInit dX12_init_1 ki_X12_1 ko_1 ko_2 ⟨Nat.le_of_ble_eq_true rfl, Nat.le_of_ble_eq_true rfl⟩ (Nat.le_of_ble_eq_true rfl) ?_
  refine ax_sE (md_0 B) ?_
  refine ax_sE (md_skip hB 0 3 (by decide)) ?_
  refine ax_aload_n (i := 0) dX12_init_4 rfl rfl rfl ?_
  refine ax_bipush (v := 16) dX12_init_5 (by decide) ?_
  refine ax_newI (f := 131) (n := 16) dX12_init_7 ka_int rfl rfl (by decide) (by decide) (by decide) ?_
  rw [show sC (mdS 3 B) 131 = 0 from md_c hB 3]
  refine ax_putR dX12_init_9 fl_X12_7 rfl rfl rfl (Or.inr ⟨rfl, rfl, rfl⟩) ?_
  refine ax_sE (md_arr hB 3 16 rfl (by decide) rfl) ?_
  refine ax_aload_n (i := 0) dX12_init_12 rfl rfl rfl ?_
  refine ax_sipush (v := 6416) dX12_init_13 (by decide) ?_
  refine ax_newJ (f := 132) (n := 6416) dX12_init_16 ka_long rfl rfl (by decide) (by decide) (by decide) ?_
  rw [show sC (mdS 4 B) 132 = 0 from md_c hB 4]
  refine ax_putR dX12_init_18 fl_X12_13 rfl rfl rfl (Or.inr ⟨rfl, rfl, rfl⟩) ?_
  refine ax_sE (md_arr hB 4 6416 rfl (by decide) rfl) ?_
  refine ax_aload_n (i := 0) dX12_init_21 rfl rfl rfl ?_
  refine ax_sipush (v := 6416) dX12_init_22 (by decide) ?_
  refine ax_newZ (f := 133) (n := 6416) dX12_init_25 ka_boolean rfl rfl (by decide) (by decide) (by decide) ?_
  rw [show sC (mdS 5 B) 133 = 0 from md_c hB 5]
  refine ax_putR dX12_init_27 fl_X12_17 rfl rfl rfl (Or.inr ⟨rfl, rfl, rfl⟩) ?_
  refine ax_sE (md_arr hB 5 6416 rfl (by decide) rfl) ?_
  refine ax_sE (md_skip hB 6 1 (by decide)) ?_
  refine ax_aload_n (i := 0) dX12_init_30 rfl rfl rfl ?_
  refine ax_bipush (v := 16) dX12_init_31 (by decide) ?_
  refine ax_newI (f := 135) (n := 16) dX12_init_33 ka_int rfl rfl (by decide) (by decide) (by decide) ?_
  rw [show sC (mdS 7 B) 135 = 0 from md_c hB 7]
  refine ax_putR dX12_init_35 fl_X12_21 rfl rfl rfl (Or.inr ⟨rfl, rfl, rfl⟩) ?_
  refine ax_sE (md_arr hB 7 16 rfl (by decide) rfl) ?_
  refine ax_aload_n (i := 0) dX12_init_38 rfl rfl rfl ?_
  refine ax_bipush (v := 16) dX12_init_39 (by decide) ?_
  refine ax_newI (f := 136) (n := 16) dX12_init_41 ka_int rfl rfl (by decide) (by decide) (by decide) ?_
  rw [show sC (mdS 8 B) 136 = 0 from md_c hB 8]
  refine ax_putR dX12_init_43 fl_X12_24 rfl rfl rfl (Or.inr ⟨rfl, rfl, rfl⟩) ?_
  refine ax_sE (md_arr hB 8 16 rfl (by decide) rfl) ?_
  refine ax_aload_n (i := 0) dX12_init_46 rfl rfl rfl ?_
  refine ax_bipush (v := 16) dX12_init_47 (by decide) ?_
  refine ax_newJ (f := 137) (n := 16) dX12_init_49 ka_long rfl rfl (by decide) (by decide) (by decide) ?_
  rw [show sC (mdS 9 B) 137 = 0 from md_c hB 9]
  refine ax_putR dX12_init_51 fl_X12_27 rfl rfl rfl (Or.inr ⟨rfl, rfl, rfl⟩) ?_
  refine ax_sE (md_arr hB 9 16 rfl (by decide) rfl) ?_
  refine ax_aload_n (i := 0) dX12_init_54 rfl rfl rfl ?_
  refine ax_bipush (v := 16) dX12_init_55 (by decide) ?_
  refine ax_newI (f := 138) (n := 16) dX12_init_57 ka_int rfl rfl (by decide) (by decide) (by decide) ?_
  rw [show sC (mdS 10 B) 138 = 0 from md_c hB 10]
  refine ax_putR dX12_init_59 fl_X12_30 rfl rfl rfl (Or.inr ⟨rfl, rfl, rfl⟩) ?_
  refine ax_sE (md_arr hB 10 16 rfl (by decide) rfl) ?_
  refine ax_aload_n (i := 0) dX12_init_62 rfl rfl rfl ?_
  refine ax_bipush (v := 16) dX12_init_63 (by decide) ?_
  refine ax_newI (f := 139) (n := 16) dX12_init_65 ka_int rfl rfl (by decide) (by decide) (by decide) ?_
  rw [show sC (mdS 11 B) 139 = 0 from md_c hB 11]
  refine ax_putR dX12_init_67 fl_X12_33 rfl rfl rfl (Or.inr ⟨rfl, rfl, rfl⟩) ?_
  refine ax_sE (md_arr hB 11 16 rfl (by decide) rfl) ?_
  refine ax_aload_n (i := 0) dX12_init_70 rfl rfl rfl ?_
  refine ax_bipush (v := 16) dX12_init_71 (by decide) ?_
  refine ax_newI (f := 140) (n := 16) dX12_init_73 ka_int rfl rfl (by decide) (by decide) (by decide) ?_
  rw [show sC (mdS 12 B) 140 = 0 from md_c hB 12]
  refine ax_putR dX12_init_75 fl_X12_36 rfl rfl rfl (Or.inr ⟨rfl, rfl, rfl⟩) ?_
  refine ax_sE (md_arr hB 12 16 rfl (by decide) rfl) ?_
  refine ax_aload_n (i := 0) dX12_init_78 rfl rfl rfl ?_
  refine ax_bipush (v := 16) dX12_init_79 (by decide) ?_
  refine ax_newI (f := 141) (n := 16) dX12_init_81 ka_int rfl rfl (by decide) (by decide) (by decide) ?_
  rw [show sC (mdS 13 B) 141 = 0 from md_c hB 13]
  refine ax_putR dX12_init_83 fl_X12_39 rfl rfl rfl (Or.inr ⟨rfl, rfl, rfl⟩) ?_
  refine ax_sE (md_arr hB 13 16 rfl (by decide) rfl) ?_
  refine ax_aload_n (i := 0) dX12_init_86 rfl rfl rfl ?_
  refine ax_bipush (v := 16) dX12_init_87 (by decide) ?_
  refine ax_newI (f := 142) (n := 16) dX12_init_89 ka_int rfl rfl (by decide) (by decide) (by decide) ?_
  rw [show sC (mdS 14 B) 142 = 0 from md_c hB 14]
  refine ax_putR dX12_init_91 fl_X12_42 rfl rfl rfl (Or.inr ⟨rfl, rfl, rfl⟩) ?_
  refine ax_sE (md_arr hB 14 16 rfl (by decide) rfl) ?_
  refine ax_aload_n (i := 0) dX12_init_94 rfl rfl rfl ?_
  refine ax_bipush (v := 16) dX12_init_95 (by decide) ?_
  refine ax_newI (f := 143) (n := 16) dX12_init_97 ka_int rfl rfl (by decide) (by decide) (by decide) ?_
  rw [show sC (mdS 15 B) 143 = 0 from md_c hB 15]
  refine ax_putR dX12_init_99 fl_X12_45 rfl rfl rfl (Or.inr ⟨rfl, rfl, rfl⟩) ?_
  refine ax_sE (md_arr hB 15 16 rfl (by decide) rfl) ?_
  refine ax_aload_n (i := 0) dX12_init_102 rfl rfl rfl ?_
  refine ax_ldc dX12_init_103 kc_X12_48 ?_
  refine ax_newB (f := 144) (n := 102656) dX12_init_105 ka_byte rfl rfl (by decide) (by decide) (by decide) ?_
  rw [show sC (mdS 16 B) 144 = 0 from md_c hB 16]
  refine ax_putR dX12_init_107 fl_X12_49 rfl rfl rfl (Or.inr ⟨rfl, rfl, rfl⟩) ?_
  refine ax_sE (md_arr hB 16 102656 rfl (by decide) rfl) ?_
  refine ax_aload_n (i := 0) dX12_init_110 rfl rfl rfl ?_
  refine ax_sipush (v := 256) dX12_init_111 (by decide) ?_
  refine ax_newI (f := 145) (n := 256) dX12_init_114 ka_int rfl rfl (by decide) (by decide) (by decide) ?_
  rw [show sC (mdS 17 B) 145 = 0 from md_c hB 17]
  refine ax_putR dX12_init_116 fl_X12_53 rfl rfl rfl (Or.inr ⟨rfl, rfl, rfl⟩) ?_
  refine ax_sE (md_arr hB 17 256 rfl (by decide) rfl) ?_
  refine ax_aload_n (i := 0) dX12_init_119 rfl rfl rfl ?_
  refine ax_sipush (v := 256) dX12_init_120 (by decide) ?_
  refine ax_newI (f := 146) (n := 256) dX12_init_123 ka_int rfl rfl (by decide) (by decide) (by decide) ?_
  rw [show sC (mdS 18 B) 146 = 0 from md_c hB 18]
  refine ax_putR dX12_init_125 fl_X12_56 rfl rfl rfl (Or.inr ⟨rfl, rfl, rfl⟩) ?_
  refine ax_sE (md_arr hB 18 256 rfl (by decide) rfl) ?_
  refine ax_aload_n (i := 0) dX12_init_128 rfl rfl rfl ?_
  refine ax_sipush (v := 256) dX12_init_129 (by decide) ?_
  refine ax_newI (f := 147) (n := 256) dX12_init_132 ka_int rfl rfl (by decide) (by decide) (by decide) ?_
  rw [show sC (mdS 19 B) 147 = 0 from md_c hB 19]
  refine ax_putR dX12_init_134 fl_X12_59 rfl rfl rfl (Or.inr ⟨rfl, rfl, rfl⟩) ?_
  refine ax_sE (md_arr hB 19 256 rfl (by decide) rfl) ?_
  refine ax_aload_n (i := 0) dX12_init_137 rfl rfl rfl ?_
  refine ax_sipush (v := 256) dX12_init_138 (by decide) ?_
  refine ax_newI (f := 148) (n := 256) dX12_init_141 ka_int rfl rfl (by decide) (by decide) (by decide) ?_
  rw [show sC (mdS 20 B) 148 = 0 from md_c hB 20]
  refine ax_putR dX12_init_143 fl_X12_62 rfl rfl rfl (Or.inr ⟨rfl, rfl, rfl⟩) ?_
  refine ax_sE (md_arr hB 20 256 rfl (by decide) rfl) ?_
  refine ax_sE (md_skip hB 21 1 (by decide)) ?_
  refine ax_aload_n (i := 0) dX12_init_146 rfl rfl rfl ?_
  refine ax_bipush (v := 40) dX12_init_147 (by decide) ?_
  refine ax_newI (f := 150) (n := 40) dX12_init_149 ka_int rfl rfl (by decide) (by decide) (by decide) ?_
  rw [show sC (mdS 22 B) 150 = 0 from md_c hB 22]
  refine ax_putR dX12_init_151 fl_X12_65 rfl rfl rfl (Or.inr ⟨rfl, rfl, rfl⟩) ?_
  refine ax_sE (md_arr hB 22 40 rfl (by decide) rfl) ?_
  refine ax_aload_n (i := 0) dX12_init_154 rfl rfl rfl ?_
  refine ax_bipush (v := 40) dX12_init_155 (by decide) ?_
  refine ax_newI (f := 151) (n := 40) dX12_init_157 ka_int rfl rfl (by decide) (by decide) (by decide) ?_
  rw [show sC (mdS 23 B) 151 = 0 from md_c hB 23]
  refine ax_putR dX12_init_159 fl_X12_68 rfl rfl rfl (Or.inr ⟨rfl, rfl, rfl⟩) ?_
  refine ax_sE (md_arr hB 23 40 rfl (by decide) rfl) ?_
  refine ax_aload_n (i := 0) dX12_init_162 rfl rfl rfl ?_
  refine ax_bipush (v := 40) dX12_init_163 (by decide) ?_
  refine ax_newI (f := 152) (n := 40) dX12_init_165 ka_int rfl rfl (by decide) (by decide) (by decide) ?_
  rw [show sC (mdS 24 B) 152 = 0 from md_c hB 24]
  refine ax_putR dX12_init_167 fl_X12_71 rfl rfl rfl (Or.inr ⟨rfl, rfl, rfl⟩) ?_
  refine ax_sE (md_arr hB 24 40 rfl (by decide) rfl) ?_
  refine ax_sE (md_skip hB 25 1 (by decide)) ?_
  refine ax_aload_n (i := 0) dX12_init_170 rfl rfl rfl ?_
  refine ax_bipush (v := 20) dX12_init_171 (by decide) ?_
  refine ax_newI (f := 154) (n := 20) dX12_init_173 ka_int rfl rfl (by decide) (by decide) (by decide) ?_
  rw [show sC (mdS 26 B) 154 = 0 from md_c hB 26]
  refine ax_putR dX12_init_175 fl_X12_74 rfl rfl rfl (Or.inr ⟨rfl, rfl, rfl⟩) ?_
  refine ax_sE (md_arr hB 26 20 rfl (by decide) rfl) ?_
  refine ax_aload_n (i := 0) dX12_init_178 rfl rfl rfl ?_
  refine ax_bipush (v := 20) dX12_init_179 (by decide) ?_
  refine ax_newI (f := 155) (n := 20) dX12_init_181 ka_int rfl rfl (by decide) (by decide) (by decide) ?_
  rw [show sC (mdS 27 B) 155 = 0 from md_c hB 27]
  refine ax_putR dX12_init_183 fl_X12_77 rfl rfl rfl (Or.inr ⟨rfl, rfl, rfl⟩) ?_
  refine ax_sE (md_arr hB 27 20 rfl (by decide) rfl) ?_
  refine ax_aload_n (i := 0) dX12_init_186 rfl rfl rfl ?_
  refine ax_bipush (v := 20) dX12_init_187 (by decide) ?_
  refine ax_newI (f := 156) (n := 20) dX12_init_189 ka_int rfl rfl (by decide) (by decide) (by decide) ?_
  rw [show sC (mdS 28 B) 156 = 0 from md_c hB 28]
  refine ax_putR dX12_init_191 fl_X12_80 rfl rfl rfl (Or.inr ⟨rfl, rfl, rfl⟩) ?_
  refine ax_sE (md_arr hB 28 20 rfl (by decide) rfl) ?_
  refine ax_aload_n (i := 0) dX12_init_194 rfl rfl rfl ?_
  refine ax_bipush (v := 20) dX12_init_195 (by decide) ?_
  refine ax_newI (f := 157) (n := 20) dX12_init_197 ka_int rfl rfl (by decide) (by decide) (by decide) ?_
  rw [show sC (mdS 29 B) 157 = 0 from md_c hB 29]
  refine ax_putR dX12_init_199 fl_X12_83 rfl rfl rfl (Or.inr ⟨rfl, rfl, rfl⟩) ?_
  refine ax_sE (md_arr hB 29 20 rfl (by decide) rfl) ?_
  refine ax_sE (md_skip hB 30 1 (by decide)) ?_
  refine ax_aload_n (i := 0) dX12_init_202 rfl rfl rfl ?_
  refine ax_sipush (v := 300) dX12_init_203 (by decide) ?_
  refine ax_newI (f := 159) (n := 300) dX12_init_206 ka_int rfl rfl (by decide) (by decide) (by decide) ?_
  rw [show sC (mdS 31 B) 159 = 0 from md_c hB 31]
  refine ax_putR dX12_init_208 fl_X12_86 rfl rfl rfl (Or.inr ⟨rfl, rfl, rfl⟩) ?_
  refine ax_sE (md_arr hB 31 300 rfl (by decide) rfl) ?_
  refine ax_aload_n (i := 0) dX12_init_211 rfl rfl rfl ?_
  refine ax_sipush (v := 300) dX12_init_212 (by decide) ?_
  refine ax_newI (f := 160) (n := 300) dX12_init_215 ka_int rfl rfl (by decide) (by decide) (by decide) ?_
  rw [show sC (mdS 32 B) 160 = 0 from md_c hB 32]
  refine ax_putR dX12_init_217 fl_X12_89 rfl rfl rfl (Or.inr ⟨rfl, rfl, rfl⟩) ?_
  refine ax_sE (md_arr hB 32 300 rfl (by decide) rfl) ?_
  refine ax_aload_n (i := 0) dX12_init_220 rfl rfl rfl ?_
  refine ax_sipush (v := 300) dX12_init_221 (by decide) ?_
  refine ax_newI (f := 161) (n := 300) dX12_init_224 ka_int rfl rfl (by decide) (by decide) (by decide) ?_
  rw [show sC (mdS 33 B) 161 = 0 from md_c hB 33]
  refine ax_putR dX12_init_226 fl_X12_92 rfl rfl rfl (Or.inr ⟨rfl, rfl, rfl⟩) ?_
  refine ax_sE (md_arr hB 33 300 rfl (by decide) rfl) ?_
  refine ax_aload_n (i := 0) dX12_init_229 rfl rfl rfl ?_
  refine ax_sipush (v := 300) dX12_init_230 (by decide) ?_
  refine ax_newI (f := 162) (n := 300) dX12_init_233 ka_int rfl rfl (by decide) (by decide) (by decide) ?_
  rw [show sC (mdS 34 B) 162 = 0 from md_c hB 34]
  refine ax_putR dX12_init_235 fl_X12_95 rfl rfl rfl (Or.inr ⟨rfl, rfl, rfl⟩) ?_
  refine ax_sE (md_arr hB 34 300 rfl (by decide) rfl) ?_
  refine ax_aload_n (i := 0) dX12_init_238 rfl rfl rfl ?_
  refine ax_sipush (v := 300) dX12_init_239 (by decide) ?_
  refine ax_newZ (f := 163) (n := 300) dX12_init_242 ka_boolean rfl rfl (by decide) (by decide) (by decide) ?_
  rw [show sC (mdS 35 B) 163 = 0 from md_c hB 35]
  refine ax_putR dX12_init_244 fl_X12_98 rfl rfl rfl (Or.inr ⟨rfl, rfl, rfl⟩) ?_
  refine ax_sE (md_arr hB 35 300 rfl (by decide) rfl) ?_
  refine ax_aload_n (i := 0) dX12_init_247 rfl rfl rfl ?_
  refine ax_sipush (v := 300) dX12_init_248 (by decide) ?_
  refine ax_newZ (f := 164) (n := 300) dX12_init_251 ka_boolean rfl rfl (by decide) (by decide) (by decide) ?_
  rw [show sC (mdS 36 B) 164 = 0 from md_c hB 36]
  refine ax_putR dX12_init_253 fl_X12_101 rfl rfl rfl (Or.inr ⟨rfl, rfl, rfl⟩) ?_
  refine ax_sE (md_arr hB 36 300 rfl (by decide) rfl) ?_
  refine ax_aload_n (i := 0) dX12_init_256 rfl rfl rfl ?_
  refine ax_sipush (v := 300) dX12_init_257 (by decide) ?_
  refine ax_newI (f := 165) (n := 300) dX12_init_260 ka_int rfl rfl (by decide) (by decide) (by decide) ?_
  rw [show sC (mdS 37 B) 165 = 0 from md_c hB 37]
  refine ax_putR dX12_init_262 fl_X12_104 rfl rfl rfl (Or.inr ⟨rfl, rfl, rfl⟩) ?_
  refine ax_sE (md_arr hB 37 300 rfl (by decide) rfl) ?_
  refine ax_aload_n (i := 0) dX12_init_265 rfl rfl rfl ?_
  refine ax_sipush (v := 300) dX12_init_266 (by decide) ?_
  refine ax_newI (f := 166) (n := 300) dX12_init_269 ka_int rfl rfl (by decide) (by decide) (by decide) ?_
  rw [show sC (mdS 38 B) 166 = 0 from md_c hB 38]
  refine ax_putR dX12_init_271 fl_X12_107 rfl rfl rfl (Or.inr ⟨rfl, rfl, rfl⟩) ?_
  refine ax_sE (md_arr hB 38 300 rfl (by decide) rfl) ?_
  refine ax_aload_n (i := 0) dX12_init_274 rfl rfl rfl ?_
  refine ax_sipush (v := 300) dX12_init_275 (by decide) ?_
  refine ax_newZ (f := 167) (n := 300) dX12_init_278 ka_boolean rfl rfl (by decide) (by decide) (by decide) ?_
  rw [show sC (mdS 39 B) 167 = 0 from md_c hB 39]
  refine ax_putR dX12_init_280 fl_X12_110 rfl rfl rfl (Or.inr ⟨rfl, rfl, rfl⟩) ?_
  refine ax_sE (md_arr hB 39 300 rfl (by decide) rfl) ?_
  refine ax_aload_n (i := 0) dX12_init_283 rfl rfl rfl ?_
  refine ax_sipush (v := 300) dX12_init_284 (by decide) ?_
  refine ax_newZ (f := 168) (n := 300) dX12_init_287 ka_boolean rfl rfl (by decide) (by decide) (by decide) ?_
  rw [show sC (mdS 40 B) 168 = 0 from md_c hB 40]
  refine ax_putR dX12_init_289 fl_X12_113 rfl rfl rfl (Or.inr ⟨rfl, rfl, rfl⟩) ?_
  refine ax_sE (md_arr hB 40 300 rfl (by decide) rfl) ?_
  refine ax_aload_n (i := 0) dX12_init_292 rfl rfl rfl ?_
  refine ax_sipush (v := 300) dX12_init_293 (by decide) ?_
  refine ax_newZ (f := 169) (n := 300) dX12_init_296 ka_boolean rfl rfl (by decide) (by decide) (by decide) ?_
  rw [show sC (mdS 41 B) 169 = 0 from md_c hB 41]
  refine ax_putR dX12_init_298 fl_X12_116 rfl rfl rfl (Or.inr ⟨rfl, rfl, rfl⟩) ?_
  refine ax_sE (md_arr hB 41 300 rfl (by decide) rfl) ?_
  refine ax_aload_n (i := 0) dX12_init_301 rfl rfl rfl ?_
  refine ax_sipush (v := 300) dX12_init_302 (by decide) ?_
  refine ax_newI (f := 170) (n := 300) dX12_init_305 ka_int rfl rfl (by decide) (by decide) (by decide) ?_
  rw [show sC (mdS 42 B) 170 = 0 from md_c hB 42]
  refine ax_putR dX12_init_307 fl_X12_119 rfl rfl rfl (Or.inr ⟨rfl, rfl, rfl⟩) ?_
  refine ax_sE (md_arr hB 42 300 rfl (by decide) rfl) ?_
  refine ax_aload_n (i := 0) dX12_init_310 rfl rfl rfl ?_
  refine ax_iconst (v := 1) dX12_init_311 (by decide) ?_
  refine ax_putI dX12_init_312 fl_X12_122 rfl rfl rfl (Or.inl rfl) rfl rfl ?_
  refine ax_sE (md_int hB 43 _ rfl rfl) ?_
  refine ax_aload_n (i := 0) dX12_init_315 rfl rfl rfl ?_
  refine ax_iconst (v := 2) dX12_init_316 (by decide) ?_
  refine ax_putI dX12_init_317 fl_X12_126 rfl rfl rfl (Or.inl rfl) rfl rfl ?_
  refine ax_sE (md_int hB 44 _ rfl rfl) ?_
  refine ax_aload_n (i := 0) dX12_init_320 rfl rfl rfl ?_
  refine ax_iconst (v := 5) dX12_init_321 (by decide) ?_
  refine ax_putI dX12_init_322 fl_X12_129 rfl rfl rfl (Or.inl rfl) rfl rfl ?_
  refine ax_sE (md_int hB 45 _ rfl rfl) ?_
  refine ax_aload_n (i := 0) dX12_init_325 rfl rfl rfl ?_
  refine ax_bipush (v := 20) dX12_init_326 (by decide) ?_
  refine ax_putI dX12_init_328 fl_X12_132 rfl rfl rfl (Or.inl rfl) rfl rfl ?_
  refine ax_sE (md_int hB 46 _ rfl rfl) ?_
  refine ax_aload_n (i := 0) dX12_init_331 rfl rfl rfl ?_
  refine ax_iconst (v := 3) dX12_init_332 (by decide) ?_
  refine ax_putI dX12_init_333 fl_X12_135 rfl rfl rfl (Or.inl rfl) rfl rfl ?_
  refine ax_sE (md_int hB 47 _ rfl rfl) ?_
  refine ax_sE (md_skip hB 48 1 (by decide)) ?_
  refine ax_aload_n (i := 0) dX12_init_336 rfl rfl rfl ?_
  refine ax_sipush (v := 300) dX12_init_337 (by decide) ?_
  refine ax_newI (f := 177) (n := 300) dX12_init_340 ka_int rfl rfl (by decide) (by decide) (by decide) ?_
  rw [show sC (mdS 49 B) 177 = 0 from md_c hB 49]
  refine ax_putR dX12_init_342 fl_X12_138 rfl rfl rfl (Or.inr ⟨rfl, rfl, rfl⟩) ?_
  refine ax_sE (md_arr hB 49 300 rfl (by decide) rfl) ?_
  refine ax_aload_n (i := 0) dX12_init_345 rfl rfl rfl ?_
  refine ax_sipush (v := 300) dX12_init_346 (by decide) ?_
  refine ax_newI (f := 178) (n := 300) dX12_init_349 ka_int rfl rfl (by decide) (by decide) (by decide) ?_
  rw [show sC (mdS 50 B) 178 = 0 from md_c hB 50]
  refine ax_putR dX12_init_351 fl_X12_141 rfl rfl rfl (Or.inr ⟨rfl, rfl, rfl⟩) ?_
  refine ax_sE (md_arr hB 50 300 rfl (by decide) rfl) ?_
  refine ax_aload_n (i := 0) dX12_init_354 rfl rfl rfl ?_
  refine ax_sipush (v := 300) dX12_init_355 (by decide) ?_
  refine ax_newZ (f := 179) (n := 300) dX12_init_358 ka_boolean rfl rfl (by decide) (by decide) (by decide) ?_
  rw [show sC (mdS 51 B) 179 = 0 from md_c hB 51]
  refine ax_putR dX12_init_360 fl_X12_144 rfl rfl rfl (Or.inr ⟨rfl, rfl, rfl⟩) ?_
  refine ax_sE (md_arr hB 51 300 rfl (by decide) rfl) ?_
  refine ax_sE (md_skip hB 52 2 (by decide)) ?_
  refine ax_aload_n (i := 0) dX12_init_363 rfl rfl rfl ?_
  refine ax_bipush (v := 40) dX12_init_364 (by decide) ?_
  refine ax_newI (f := 182) (n := 40) dX12_init_366 ka_int rfl rfl (by decide) (by decide) (by decide) ?_
  rw [show sC (mdS 54 B) 182 = 0 from md_c hB 54]
  refine ax_putR dX12_init_368 fl_X12_147 rfl rfl rfl (Or.inr ⟨rfl, rfl, rfl⟩) ?_
  refine ax_sE (md_arr hB 54 40 rfl (by decide) rfl) ?_
  refine ax_aload_n (i := 0) dX12_init_371 rfl rfl rfl ?_
  refine ax_bipush (v := 40) dX12_init_372 (by decide) ?_
  refine ax_newI (f := 183) (n := 40) dX12_init_374 ka_int rfl rfl (by decide) (by decide) (by decide) ?_
  rw [show sC (mdS 55 B) 183 = 0 from md_c hB 55]
  refine ax_putR dX12_init_376 fl_X12_150 rfl rfl rfl (Or.inr ⟨rfl, rfl, rfl⟩) ?_
  refine ax_sE (md_arr hB 55 40 rfl (by decide) rfl) ?_
  refine ax_aload_n (i := 0) dX12_init_379 rfl rfl rfl ?_
  refine ax_bipush (v := 40) dX12_init_380 (by decide) ?_
  refine ax_newI (f := 184) (n := 40) dX12_init_382 ka_int rfl rfl (by decide) (by decide) (by decide) ?_
  rw [show sC (mdS 56 B) 184 = 0 from md_c hB 56]
  refine ax_putR dX12_init_384 fl_X12_153 rfl rfl rfl (Or.inr ⟨rfl, rfl, rfl⟩) ?_
  refine ax_sE (md_arr hB 56 40 rfl (by decide) rfl) ?_
  refine ax_aload_n (i := 0) dX12_init_387 rfl rfl rfl ?_
  refine ax_bipush (v := 40) dX12_init_388 (by decide) ?_
  refine ax_newI (f := 185) (n := 40) dX12_init_390 ka_int rfl rfl (by decide) (by decide) (by decide) ?_
  rw [show sC (mdS 57 B) 185 = 0 from md_c hB 57]
  refine ax_putR dX12_init_392 fl_X12_156 rfl rfl rfl (Or.inr ⟨rfl, rfl, rfl⟩) ?_
  refine ax_sE (md_arr hB 57 40 rfl (by decide) rfl) ?_
  refine ax_sE (md_skip hB 58 1 (by decide)) ?_
  refine ax_aload_n (i := 0) dX12_init_395 rfl rfl rfl ?_
  refine ax_bipush (v := 20) dX12_init_396 (by decide) ?_
  refine ax_newI (f := 187) (n := 20) dX12_init_398 ka_int rfl rfl (by decide) (by decide) (by decide) ?_
  rw [show sC (mdS 59 B) 187 = 0 from md_c hB 59]
  refine ax_putR dX12_init_400 fl_X12_159 rfl rfl rfl (Or.inr ⟨rfl, rfl, rfl⟩) ?_
  refine ax_sE (md_arr hB 59 20 rfl (by decide) rfl) ?_
  refine ax_aload_n (i := 0) dX12_init_403 rfl rfl rfl ?_
  refine ax_bipush (v := 20) dX12_init_404 (by decide) ?_
  refine ax_newI (f := 188) (n := 20) dX12_init_406 ka_int rfl rfl (by decide) (by decide) (by decide) ?_
  rw [show sC (mdS 60 B) 188 = 0 from md_c hB 60]
  refine ax_putR dX12_init_408 fl_X12_162 rfl rfl rfl (Or.inr ⟨rfl, rfl, rfl⟩) ?_
  refine ax_sE (md_arr hB 60 20 rfl (by decide) rfl) ?_
  refine ax_aload_n (i := 0) dX12_init_411 rfl rfl rfl ?_
  refine ax_bipush (v := 20) dX12_init_412 (by decide) ?_
  refine ax_newI (f := 189) (n := 20) dX12_init_414 ka_int rfl rfl (by decide) (by decide) (by decide) ?_
  rw [show sC (mdS 61 B) 189 = 0 from md_c hB 61]
  refine ax_putR dX12_init_416 fl_X12_165 rfl rfl rfl (Or.inr ⟨rfl, rfl, rfl⟩) ?_
  refine ax_sE (md_arr hB 61 20 rfl (by decide) rfl) ?_
  refine ax_aload_n (i := 0) dX12_init_419 rfl rfl rfl ?_
  refine ax_bipush (v := 20) dX12_init_420 (by decide) ?_
  refine ax_newI (f := 190) (n := 20) dX12_init_422 ka_int rfl rfl (by decide) (by decide) (by decide) ?_
  rw [show sC (mdS 62 B) 190 = 0 from md_c hB 62]
  refine ax_putR dX12_init_424 fl_X12_168 rfl rfl rfl (Or.inr ⟨rfl, rfl, rfl⟩) ?_
  refine ax_sE (md_arr hB 62 20 rfl (by decide) rfl) ?_
  refine ax_sE (md_skip hB 63 1 (by decide)) ?_
  refine ax_aload_n (i := 0) dX12_init_427 rfl rfl rfl ?_
  refine ax_sipush (v := 200) dX12_init_428 (by decide) ?_
  refine ax_newI (f := 192) (n := 200) dX12_init_431 ka_int rfl rfl (by decide) (by decide) (by decide) ?_
  rw [show sC (mdS 64 B) 192 = 0 from md_c hB 64]
  refine ax_putR dX12_init_433 fl_X12_171 rfl rfl rfl (Or.inr ⟨rfl, rfl, rfl⟩) ?_
  refine ax_sE (md_arr hB 64 200 rfl (by decide) rfl) ?_
  refine ax_aload_n (i := 0) dX12_init_436 rfl rfl rfl ?_
  refine ax_sipush (v := 200) dX12_init_437 (by decide) ?_
  refine ax_newI (f := 193) (n := 200) dX12_init_440 ka_int rfl rfl (by decide) (by decide) (by decide) ?_
  rw [show sC (mdS 65 B) 193 = 0 from md_c hB 65]
  refine ax_putR dX12_init_442 fl_X12_174 rfl rfl rfl (Or.inr ⟨rfl, rfl, rfl⟩) ?_
  refine ax_sE (md_arr hB 65 200 rfl (by decide) rfl) ?_
  refine ax_aload_n (i := 0) dX12_init_445 rfl rfl rfl ?_
  refine ax_sipush (v := 200) dX12_init_446 (by decide) ?_
  refine ax_newI (f := 194) (n := 200) dX12_init_449 ka_int rfl rfl (by decide) (by decide) (by decide) ?_
  rw [show sC (mdS 66 B) 194 = 0 from md_c hB 66]
  refine ax_putR dX12_init_451 fl_X12_177 rfl rfl rfl (Or.inr ⟨rfl, rfl, rfl⟩) ?_
  refine ax_sE (md_arr hB 66 200 rfl (by decide) rfl) ?_
  refine ax_aload_n (i := 0) dX12_init_454 rfl rfl rfl ?_
  refine ax_sipush (v := 200) dX12_init_455 (by decide) ?_
  refine ax_newI (f := 195) (n := 200) dX12_init_458 ka_int rfl rfl (by decide) (by decide) (by decide) ?_
  rw [show sC (mdS 67 B) 195 = 0 from md_c hB 67]
  refine ax_putR dX12_init_460 fl_X12_180 rfl rfl rfl (Or.inr ⟨rfl, rfl, rfl⟩) ?_
  refine ax_sE (md_arr hB 67 200 rfl (by decide) rfl) ?_
  refine ax_aload_n (i := 0) dX12_init_463 rfl rfl rfl ?_
  refine ax_sipush (v := 8000) dX12_init_464 (by decide) ?_
  refine ax_newI (f := 196) (n := 8000) dX12_init_467 ka_int rfl rfl (by decide) (by decide) (by decide) ?_
  rw [show sC (mdS 68 B) 196 = 0 from md_c hB 68]
  refine ax_putR dX12_init_469 fl_X12_183 rfl rfl rfl (Or.inr ⟨rfl, rfl, rfl⟩) ?_
  refine ax_sE (md_arr hB 68 8000 rfl (by decide) rfl) ?_
  refine ax_aload_n (i := 0) dX12_init_472 rfl rfl rfl ?_
  refine ax_sipush (v := 200) dX12_init_473 (by decide) ?_
  refine ax_newI (f := 197) (n := 200) dX12_init_476 ka_int rfl rfl (by decide) (by decide) (by decide) ?_
  rw [show sC (mdS 69 B) 197 = 0 from md_c hB 69]
  refine ax_putR dX12_init_478 fl_X12_186 rfl rfl rfl (Or.inr ⟨rfl, rfl, rfl⟩) ?_
  refine ax_sE (md_arr hB 69 200 rfl (by decide) rfl) ?_
  refine ax_aload_n (i := 0) dX12_init_481 rfl rfl rfl ?_
  refine ax_sipush (v := 1600) dX12_init_482 (by decide) ?_
  refine ax_newI (f := 198) (n := 1600) dX12_init_485 ka_int rfl rfl (by decide) (by decide) (by decide) ?_
  rw [show sC (mdS 70 B) 198 = 0 from md_c hB 70]
  refine ax_putR dX12_init_487 fl_X12_189 rfl rfl rfl (Or.inr ⟨rfl, rfl, rfl⟩) ?_
  refine ax_sE (md_arr hB 70 1600 rfl (by decide) rfl) ?_
  refine ax_aload_n (i := 0) dX12_init_490 rfl rfl rfl ?_
  refine ax_sipush (v := 200) dX12_init_491 (by decide) ?_
  refine ax_newI (f := 199) (n := 200) dX12_init_494 ka_int rfl rfl (by decide) (by decide) (by decide) ?_
  rw [show sC (mdS 71 B) 199 = 0 from md_c hB 71]
  refine ax_putR dX12_init_496 fl_X12_192 rfl rfl rfl (Or.inr ⟨rfl, rfl, rfl⟩) ?_
  refine ax_sE (md_arr hB 71 200 rfl (by decide) rfl) ?_
  refine ax_aload_n (i := 0) dX12_init_499 rfl rfl rfl ?_
  refine ax_sipush (v := 200) dX12_init_500 (by decide) ?_
  refine ax_newI (f := 200) (n := 200) dX12_init_503 ka_int rfl rfl (by decide) (by decide) (by decide) ?_
  rw [show sC (mdS 72 B) 200 = 0 from md_c hB 72]
  refine ax_putR dX12_init_505 fl_X12_195 rfl rfl rfl (Or.inr ⟨rfl, rfl, rfl⟩) ?_
  refine ax_sE (md_arr hB 72 200 rfl (by decide) rfl) ?_
  refine ax_aload_n (i := 0) dX12_init_508 rfl rfl rfl ?_
  refine ax_sipush (v := 200) dX12_init_509 (by decide) ?_
  refine ax_newI (f := 201) (n := 200) dX12_init_512 ka_int rfl rfl (by decide) (by decide) (by decide) ?_
  rw [show sC (mdS 73 B) 201 = 0 from md_c hB 73]
  refine ax_putR dX12_init_514 fl_X12_198 rfl rfl rfl (Or.inr ⟨rfl, rfl, rfl⟩) ?_
  refine ax_sE (md_arr hB 73 200 rfl (by decide) rfl) ?_
  refine ax_aload_n (i := 0) dX12_init_517 rfl rfl rfl ?_
  refine ax_sipush (v := 200) dX12_init_518 (by decide) ?_
  refine ax_newI (f := 202) (n := 200) dX12_init_521 ka_int rfl rfl (by decide) (by decide) (by decide) ?_
  rw [show sC (mdS 74 B) 202 = 0 from md_c hB 74]
  refine ax_putR dX12_init_523 fl_X12_201 rfl rfl rfl (Or.inr ⟨rfl, rfl, rfl⟩) ?_
  refine ax_sE (md_arr hB 74 200 rfl (by decide) rfl) ?_
  refine ax_aload_n (i := 0) dX12_init_526 rfl rfl rfl ?_
  refine ax_bipush (v := 16) dX12_init_527 (by decide) ?_
  refine ax_newZ (f := 203) (n := 16) dX12_init_529 ka_boolean rfl rfl (by decide) (by decide) (by decide) ?_
  rw [show sC (mdS 75 B) 203 = 0 from md_c hB 75]
  refine ax_putR dX12_init_531 fl_X12_204 rfl rfl rfl (Or.inr ⟨rfl, rfl, rfl⟩) ?_
  refine ax_sE (md_arr hB 75 16 rfl (by decide) rfl) ?_
  refine ax_aload_n (i := 0) dX12_init_534 rfl rfl rfl ?_
  refine ax_bipush (v := 8) dX12_init_535 (by decide) ?_
  refine ax_newI (f := 204) (n := 8) dX12_init_537 ka_int rfl rfl (by decide) (by decide) (by decide) ?_
  rw [show sC (mdS 76 B) 204 = 0 from md_c hB 76]
  refine ax_putR dX12_init_539 fl_X12_207 rfl rfl rfl (Or.inr ⟨rfl, rfl, rfl⟩) ?_
  refine ax_sE (md_arr hB 76 8 rfl (by decide) rfl) ?_
  refine ax_aload_n (i := 0) dX12_init_542 rfl rfl rfl ?_
  refine ax_bipush (v := 8) dX12_init_543 (by decide) ?_
  refine ax_newI (f := 205) (n := 8) dX12_init_545 ka_int rfl rfl (by decide) (by decide) (by decide) ?_
  rw [show sC (mdS 77 B) 205 = 0 from md_c hB 77]
  refine ax_putR dX12_init_547 fl_X12_210 rfl rfl rfl (Or.inr ⟨rfl, rfl, rfl⟩) ?_
  refine ax_sE (md_arr hB 77 8 rfl (by decide) rfl) ?_
  refine ax_sE (md_skip hB 78 1 (by decide)) ?_
  refine ax_aload_n (i := 0) dX12_init_550 rfl rfl rfl ?_
  refine ax_bipush (v := 8) dX12_init_551 (by decide) ?_
  refine ax_newI (f := 207) (n := 8) dX12_init_553 ka_int rfl rfl (by decide) (by decide) (by decide) ?_
  rw [show sC (mdS 79 B) 207 = 0 from md_c hB 79]
  refine ax_putR dX12_init_555 fl_X12_213 rfl rfl rfl (Or.inr ⟨rfl, rfl, rfl⟩) ?_
  refine ax_sE (md_arr hB 79 8 rfl (by decide) rfl) ?_
  refine ax_aload_n (i := 0) dX12_init_558 rfl rfl rfl ?_
  refine ax_bipush (v := 8) dX12_init_559 (by decide) ?_
  refine ax_newI (f := 208) (n := 8) dX12_init_561 ka_int rfl rfl (by decide) (by decide) (by decide) ?_
  rw [show sC (mdS 80 B) 208 = 0 from md_c hB 80]
  refine ax_putR dX12_init_563 fl_X12_216 rfl rfl rfl (Or.inr ⟨rfl, rfl, rfl⟩) ?_
  refine ax_sE (md_arr hB 80 8 rfl (by decide) rfl) ?_
  refine ax_aload_n (i := 0) dX12_init_566 rfl rfl rfl ?_
  refine ax_bipush (v := 8) dX12_init_567 (by decide) ?_
  refine ax_newI (f := 209) (n := 8) dX12_init_569 ka_int rfl rfl (by decide) (by decide) (by decide) ?_
  rw [show sC (mdS 81 B) 209 = 0 from md_c hB 81]
  refine ax_putR dX12_init_571 fl_X12_219 rfl rfl rfl (Or.inr ⟨rfl, rfl, rfl⟩) ?_
  refine ax_sE (md_arr hB 81 8 rfl (by decide) rfl) ?_
  refine ax_aload_n (i := 0) dX12_init_574 rfl rfl rfl ?_
  refine ax_sipush (v := 480) dX12_init_575 (by decide) ?_
  refine ax_newJ (f := 210) (n := 480) dX12_init_578 ka_long rfl rfl (by decide) (by decide) (by decide) ?_
  rw [show sC (mdS 82 B) 210 = 0 from md_c hB 82]
  refine ax_putR dX12_init_580 fl_X12_222 rfl rfl rfl (Or.inr ⟨rfl, rfl, rfl⟩) ?_
  refine ax_sE (md_arr hB 82 480 rfl (by decide) rfl) ?_
  refine ax_aload_n (i := 0) dX12_init_583 rfl rfl rfl ?_
  refine ax_bipush (v := 60) dX12_init_584 (by decide) ?_
  refine ax_newJ (f := 211) (n := 60) dX12_init_586 ka_long rfl rfl (by decide) (by decide) (by decide) ?_
  rw [show sC (mdS 83 B) 211 = 0 from md_c hB 83]
  refine ax_putR dX12_init_588 fl_X12_225 rfl rfl rfl (Or.inr ⟨rfl, rfl, rfl⟩) ?_
  refine ax_sE (md_arr hB 83 60 rfl (by decide) rfl) ?_
  refine ax_iconst (v := nI 0) dX12_init_591 (by decide) ?_
  refine ax_istore_n (i := 1) (lv' := [(1, _), (0, _)]) dX12_init_592 rfl (by decide) rfl ?_
  refine ax_sE (iM_0 hB) ?_
  exact ax_kE (by decide) (by decide) (ax_loc rfl (L 256 0 (by omega)))
