-- the constructor of the tower, from the empty store
def aS00 : awS := (fun _ _ _ => 0, fun _ _ _ => 0, fun _ _ _ => none, fun f => if f = 125 ∨ f = 126 ∨ f = 127 then 1 else 0, fun _ _ => 0, fun _ => (0, fun _ => 0))
def aSz : awS := wNew aS00 12 0

def aT2 : awS := (wR (wK (wK (wNew (wR (wK (wK (wNew (wR (wK (wK (wNew aSz 32 0) 0 (1000000, fun _ => nm (32+0) 0)) 0 (0, nm 9)) 12 0 0 (some (nm 32 0))) 33 0) 1 (1000000, fun _ => nm (32+1) 0)) 1 (0, nm 6)) 12 0 1 (some (nm 33 0))) 34 0) 2 (1000000, fun _ => nm (32+2) 0)) 2 (0, nm 8)) 12 0 2 (some (nm 34 0)))
def aT5 : awS := (wR (wK (wK (wNew (wR (wK (wK (wNew (wR (wK (wK (wNew aT2 35 0) 3 (1000000, fun _ => nm (32+3) 0)) 3 (0, nm 1)) 12 0 3 (some (nm 35 0))) 36 0) 4 (1000000, fun _ => nm (32+4) 0)) 4 (0, nm 3)) 12 0 4 (some (nm 36 0))) 37 0) 5 (1000000, fun _ => nm (32+5) 0)) 5 (0, nm 4)) 12 0 5 (some (nm 37 0)))
def aT6 : awS := (wR (wNew aT5 30 8) 12 0 6 (some (nm 30 0)))
def aT7 : awS := (wR (roS (wNew aT6 5 0)) 12 0 7 (some (nm 5 0)))
def aT8 : awS := (wI (wI (wI (wI (wI (wI (wI (wR (wNew aT7 26 8) 12 0 8 (some (nm 26 0))) 12 0 9 0) 12 0 10 1) 12 0 11 2) 12 0 12 5) 12 0 13 20) 12 0 14 3) 12 0 15 0)
/-- k boards made -/
def bdS : Nat → awS
  | 0 => aT8
  | k + 1 => wR (brS (wNew (bdS k) 2 0) k) 30 0 k (some (nm 2 k))
theorem bd_2 : ∀ k, sC (bdS k) 2 = k ∧ sC (bdS k) 25 = k
  | 0 => ⟨rfl, rfl⟩
  | k + 1 => by
    obtain ⟨h1, h2⟩ := bd_2 k
    refine ⟨?_, ?_⟩
    · show sC (bdS k) 2 + 1 = k + 1
      rw [h1]
    · show sC (bdS k) 25 + 1 = k + 1
      rw [h2]
theorem bd_l : ∀ k, sN (bdS k) 30 0 = 8 ∧ sR (bdS k) 12 0 6 = some (nm 30 0)
  | 0 => ⟨rfl, rfl⟩
  | k + 1 => ⟨(bd_l k).1, (bd_l k).2⟩

theorem ax_dastN {b : Bool} {E : awE} {M : awM} {pc : Nat} {lv : List (Nat × Value)} {st : List Value} {S : awS} {kc ks : Nat} {Q : Option Value → awS → Nat → Nat → Prop} {f i g j n N : Nat} (hd : decode (awM_c M) pc = .ok (.aastore, 1)) (hf : fK f = 26) (hb : nb b f = true) (hq : fK g = 2) (hN : sN S f i = N) (hNb : N < 2 ^ 31) (hn : n < N) (kk : awX b E M (pc + 1) lv st (wR S f i n (some (nm g j))) kc ks Q) : awX b E M pc lv (.ref (nm g j) :: .int (nI n) :: .ref (nm f i) :: st) S kc ks Q := ax_dast hd hf hb hq (by rw [hN]; exact vp_in_nI hn hNb) (by rw [nI_clamp (by omega)]; exact kk)
set_option maxHeartbeats 400000 in
set_option maxRecDepth 100000 in
theorem c_iTow {E : awE} {Q : Option Value → awS → Nat → Nat → Prop} (h : Q none (bdS 8) (13 + 16) (61 + 512)) : awT true E m_X11_init [.ref (nm 12 0)] aSz Q := by
  refine awT.of (by decide) (by decide) (Nat.le_of_ble_eq_true rfl) ?_
  have L : ∀ (m k : Nat), k + m = 8 → awX true E m_X11_init 136 [(1, .int (nI k)), (0, .ref (nm 12 0))] [] (bdS k) (13 + 2 * k) (61 + 64 * k) Q := by
    intro m
    induction m with
    | zero =>
      intro k hm1 
      refine ax_iload_n (i := 1) dX11_init_136 rfl rfl ?_
      refine ax_bipush (v := 8) dX11_init_137 (by decide) ?_
      refine ax_icmp_ge (tgt := 161) dX11_init_139 (by decide) (fun c_139 => ?_) (fun c_139 => ?_)
      · have hk2 : k = 8 := Nat.le_antisymm (by omega) (ge_of_c (b := 8) rfl c_139 (by omega))
        refine ax_vret dX11_init_161 rfl ?_
        rw [hk2]
        exact h
      · exact absurd (lt_of_c (b := 8) rfl c_139 (by omega)) (by omega)
    | succ m ih =>
      intro k hm1 
      refine ax_iload_n (i := 1) dX11_init_136 rfl rfl ?_
      refine ax_bipush (v := 8) dX11_init_137 (by decide) ?_
      refine ax_icmp_ge (tgt := 161) dX11_init_139 (by decide) (fun c_139 => ?_) (fun c_139 => ?_)
      · exact absurd (ge_of_c (b := 8) rfl c_139 (by omega)) (by omega)
      · have hk2 : k < 8 := lt_of_c (b := 8) rfl c_139 (by omega)
        refine ax_aload_n (i := 0) dX11_init_142 rfl rfl rfl ?_
        refine ax_getR dX11_init_143 fl_X11_33 rfl rfl rfl (show sR (bdS k) 12 0 6 = some (nm 30 0) from (bd_l k).2) ?_
        refine ax_iload_n (i := 1) dX11_init_146 rfl rfl ?_
        refine ax_new (f := 2) dX11_init_147 nw_X11_31 rfl rfl ?_
        rw [show sC (bdS k) 2 = k from (bd_2 k).1]
        refine ax_dup dX11_init_150 rfl ?_
        refine ax_invIN (n := 0) (As := []) dX11_init_151 cb_X1_init (host := "AlarmTower") (by decide) cn_X11_70 rfl rfl rfl ⟨Nat.le_of_ble_eq_true rfl, Nat.le_of_ble_eq_true rfl⟩ (Nat.le_of_ble_eq_true rfl) rfl (c_iBrd (d := k) (bd_2 k).2 ?_)
        refine ax_dastN dX11_init_154 rfl rfl rfl (show sN (brS (wNew (bdS k) 2 0) k) 30 0 = 8 from (bd_l k).1) (by decide) (by omega) ?_
        refine ax_sE (S' := bdS (k + 1)) rfl ?_
        refine ax_iinc (v := _ + 1) (lv' := [(1, _), (0, _)]) dX11_init_155 rfl rfl (by decide) rfl ?_
        refine ax_goto (tgt := 136) dX11_init_158 (by decide) ?_
        rw [nI_1]
        exact ax_kE (by omega) (by have e : (oCl 2).2.2 = 4 := rfl; rw [e]; omega) (ax_loc rfl (ih (k + 1) (by omega)))
  refine ax_aload_n (i := 0) dX11_init_0 rfl rfl rfl ?_
  refine ax_objInit dX11_init_1 ki_X11_1 ko_1 ko_2 ⟨Nat.le_of_ble_eq_true rfl, Nat.le_of_ble_eq_true rfl⟩ (Nat.le_of_ble_eq_true rfl) ?_
  refine ax_aload_n (i := 0) dX11_init_4 rfl rfl rfl ?_
  refine ax_newLst (q := 0) dX11_init_5 nw_X11_7 (by decide) (show sC aSz 32 = 0 from rfl) ?_
  refine ax_dup dX11_init_8 rfl ?_
  refine ax_invI (n := 0) (As := []) dX11_init_9 cb_Jx4a65c_init_da8c8 ci_X11_9.1 ci_X11_9.2 rfl rfl rfl ⟨Nat.le_of_ble_eq_true rfl, Nat.le_of_ble_eq_true rfl⟩ (Nat.le_of_ble_eq_true rfl) rfl (t_lsInit (q := 0) (el := nm 9) (by decide) (show sC (wK (wNew aSz 32 0) 0 (1000000, fun _ => nm (32+0) 0)) 32 = 1 from rfl) rfl ?_)
  refine ax_putR dX11_init_12 fl_X11_10 rfl rfl rfl (Or.inr ⟨rfl, rfl, rfl⟩) ?_
  refine ax_aload_n (i := 0) dX11_init_15 rfl rfl rfl ?_
  refine ax_newLst (q := 1) dX11_init_16 nw_X11_7 (by decide) (show sC (wR (wK (wK (wNew aSz 32 0) 0 (1000000, fun _ => nm (32+0) 0)) 0 (0, nm 9)) 12 0 0 (some (nm 32 0))) 33 = 0 from rfl) ?_
  refine ax_dup dX11_init_19 rfl ?_
  refine ax_invI (n := 0) (As := []) dX11_init_20 cb_Jx4a65c_init_da8c8 ci_X11_9.1 ci_X11_9.2 rfl rfl rfl ⟨Nat.le_of_ble_eq_true rfl, Nat.le_of_ble_eq_true rfl⟩ (Nat.le_of_ble_eq_true rfl) rfl (t_lsInit (q := 1) (el := nm 6) (by decide) (show sC (wK (wNew (wR (wK (wK (wNew aSz 32 0) 0 (1000000, fun _ => nm (32+0) 0)) 0 (0, nm 9)) 12 0 0 (some (nm 32 0))) 33 0) 1 (1000000, fun _ => nm (32+1) 0)) 33 = 1 from rfl) rfl ?_)
  refine ax_putR dX11_init_23 fl_X11_16 rfl rfl rfl (Or.inr ⟨rfl, rfl, rfl⟩) ?_
  refine ax_aload_n (i := 0) dX11_init_26 rfl rfl rfl ?_
  refine ax_newLst (q := 2) dX11_init_27 nw_X11_7 (by decide) (show sC (wR (wK (wK (wNew (wR (wK (wK (wNew aSz 32 0) 0 (1000000, fun _ => nm (32+0) 0)) 0 (0, nm 9)) 12 0 0 (some (nm 32 0))) 33 0) 1 (1000000, fun _ => nm (32+1) 0)) 1 (0, nm 6)) 12 0 1 (some (nm 33 0))) 34 = 0 from rfl) ?_
  refine ax_dup dX11_init_30 rfl ?_
  refine ax_invI (n := 0) (As := []) dX11_init_31 cb_Jx4a65c_init_da8c8 ci_X11_9.1 ci_X11_9.2 rfl rfl rfl ⟨Nat.le_of_ble_eq_true rfl, Nat.le_of_ble_eq_true rfl⟩ (Nat.le_of_ble_eq_true rfl) rfl (t_lsInit (q := 2) (el := nm 8) (by decide) (show sC (wK (wNew (wR (wK (wK (wNew (wR (wK (wK (wNew aSz 32 0) 0 (1000000, fun _ => nm (32+0) 0)) 0 (0, nm 9)) 12 0 0 (some (nm 32 0))) 33 0) 1 (1000000, fun _ => nm (32+1) 0)) 1 (0, nm 6)) 12 0 1 (some (nm 33 0))) 34 0) 2 (1000000, fun _ => nm (32+2) 0)) 34 = 1 from rfl) rfl ?_)
  refine ax_putR dX11_init_34 fl_X11_19 rfl rfl rfl (Or.inr ⟨rfl, rfl, rfl⟩) ?_
  refine ax_sE (S' := aT2) rfl ?_
  refine ax_aload_n (i := 0) dX11_init_37 rfl rfl rfl ?_
  refine ax_newLst (q := 3) dX11_init_38 nw_X11_7 (by decide) (show sC aT2 35 = 0 from rfl) ?_
  refine ax_dup dX11_init_41 rfl ?_
  refine ax_invI (n := 0) (As := []) dX11_init_42 cb_Jx4a65c_init_da8c8 ci_X11_9.1 ci_X11_9.2 rfl rfl rfl ⟨Nat.le_of_ble_eq_true rfl, Nat.le_of_ble_eq_true rfl⟩ (Nat.le_of_ble_eq_true rfl) rfl (t_lsInit (q := 3) (el := nm 1) (by decide) (show sC (wK (wNew aT2 35 0) 3 (1000000, fun _ => nm (32+3) 0)) 35 = 1 from rfl) rfl ?_)
  refine ax_putR dX11_init_45 fl_X11_22 rfl rfl rfl (Or.inr ⟨rfl, rfl, rfl⟩) ?_
  refine ax_aload_n (i := 0) dX11_init_48 rfl rfl rfl ?_
  refine ax_newLst (q := 4) dX11_init_49 nw_X11_7 (by decide) (show sC (wR (wK (wK (wNew aT2 35 0) 3 (1000000, fun _ => nm (32+3) 0)) 3 (0, nm 1)) 12 0 3 (some (nm 35 0))) 36 = 0 from rfl) ?_
  refine ax_dup dX11_init_52 rfl ?_
  refine ax_invI (n := 0) (As := []) dX11_init_53 cb_Jx4a65c_init_da8c8 ci_X11_9.1 ci_X11_9.2 rfl rfl rfl ⟨Nat.le_of_ble_eq_true rfl, Nat.le_of_ble_eq_true rfl⟩ (Nat.le_of_ble_eq_true rfl) rfl (t_lsInit (q := 4) (el := nm 3) (by decide) (show sC (wK (wNew (wR (wK (wK (wNew aT2 35 0) 3 (1000000, fun _ => nm (32+3) 0)) 3 (0, nm 1)) 12 0 3 (some (nm 35 0))) 36 0) 4 (1000000, fun _ => nm (32+4) 0)) 36 = 1 from rfl) rfl ?_)
  refine ax_putR dX11_init_56 fl_X11_25 rfl rfl rfl (Or.inr ⟨rfl, rfl, rfl⟩) ?_
  refine ax_aload_n (i := 0) dX11_init_59 rfl rfl rfl ?_
  refine ax_newLst (q := 5) dX11_init_60 nw_X11_7 (by decide) (show sC (wR (wK (wK (wNew (wR (wK (wK (wNew aT2 35 0) 3 (1000000, fun _ => nm (32+3) 0)) 3 (0, nm 1)) 12 0 3 (some (nm 35 0))) 36 0) 4 (1000000, fun _ => nm (32+4) 0)) 4 (0, nm 3)) 12 0 4 (some (nm 36 0))) 37 = 0 from rfl) ?_
  refine ax_dup dX11_init_63 rfl ?_
  refine ax_invI (n := 0) (As := []) dX11_init_64 cb_Jx4a65c_init_da8c8 ci_X11_9.1 ci_X11_9.2 rfl rfl rfl ⟨Nat.le_of_ble_eq_true rfl, Nat.le_of_ble_eq_true rfl⟩ (Nat.le_of_ble_eq_true rfl) rfl (t_lsInit (q := 5) (el := nm 4) (by decide) (show sC (wK (wNew (wR (wK (wK (wNew (wR (wK (wK (wNew aT2 35 0) 3 (1000000, fun _ => nm (32+3) 0)) 3 (0, nm 1)) 12 0 3 (some (nm 35 0))) 36 0) 4 (1000000, fun _ => nm (32+4) 0)) 4 (0, nm 3)) 12 0 4 (some (nm 36 0))) 37 0) 5 (1000000, fun _ => nm (32+5) 0)) 37 = 1 from rfl) rfl ?_)
  refine ax_putR dX11_init_67 fl_X11_28 rfl rfl rfl (Or.inr ⟨rfl, rfl, rfl⟩) ?_
  refine ax_sE (S' := aT5) rfl ?_
  refine ax_aload_n (i := 0) dX11_init_70 rfl rfl rfl ?_
  refine ax_bipush (v := 8) dX11_init_71 (by decide) ?_
  refine ax_newD (f := 30) (n := 8) dX11_init_73 kl_X11_31 rfl rfl (by decide) (by decide) (by decide) ?_
  rw [show sC aT5 30 = 0 from rfl]
  refine ax_putR dX11_init_76 fl_X11_33 rfl rfl rfl (Or.inr ⟨rfl, rfl, rfl⟩) ?_
  refine ax_sE (S' := aT6) rfl ?_
  refine ax_aload_n (i := 0) dX11_init_79 rfl rfl rfl ?_
  refine ax_new (f := 5) dX11_init_80 nw_X11_37 rfl rfl ?_
  refine ax_dup dX11_init_83 rfl ?_
  refine ax_invIN (n := 0) (As := []) dX11_init_84 cb_X4_init (host := "AlarmTower") (by decide) cn_X11_39 rfl rfl rfl ⟨Nat.le_of_ble_eq_true rfl, Nat.le_of_ble_eq_true rfl⟩ (Nat.le_of_ble_eq_true rfl) rfl (c_iRos rfl rfl rfl rfl ?_)
  refine ax_putR dX11_init_87 fl_X11_40 rfl rfl rfl (Or.inr ⟨rfl, rfl, rfl⟩) ?_
  refine ax_sE (S' := aT7) rfl ?_
  refine ax_aload_n (i := 0) dX11_init_90 rfl rfl rfl ?_
  refine ax_bipush (v := 8) dX11_init_91 (by decide) ?_
  refine ax_newI (f := 26) (n := 8) dX11_init_93 ka_int rfl rfl (by decide) (by decide) (by decide) ?_
  rw [show sC aT7 26 = 0 from rfl]
  refine ax_putR dX11_init_95 fl_X11_44 rfl rfl rfl (Or.inr ⟨rfl, rfl, rfl⟩) ?_
  refine ax_aload_n (i := 0) dX11_init_98 rfl rfl rfl ?_
  refine ax_iconst (v := 0) dX11_init_99 (by decide) ?_
  refine ax_putI dX11_init_100 fl_X11_48 rfl rfl rfl (Or.inl rfl) rfl rfl ?_
  refine ax_aload_n (i := 0) dX11_init_103 rfl rfl rfl ?_
  refine ax_iconst (v := 1) dX11_init_104 (by decide) ?_
  refine ax_putI dX11_init_105 fl_X11_52 rfl rfl rfl (Or.inl rfl) rfl rfl ?_
  refine ax_aload_n (i := 0) dX11_init_108 rfl rfl rfl ?_
  refine ax_iconst (v := 2) dX11_init_109 (by decide) ?_
  refine ax_putI dX11_init_110 fl_X11_55 rfl rfl rfl (Or.inl rfl) rfl rfl ?_
  refine ax_aload_n (i := 0) dX11_init_113 rfl rfl rfl ?_
  refine ax_iconst (v := 5) dX11_init_114 (by decide) ?_
  refine ax_putI dX11_init_115 fl_X11_58 rfl rfl rfl (Or.inl rfl) rfl rfl ?_
  refine ax_aload_n (i := 0) dX11_init_118 rfl rfl rfl ?_
  refine ax_bipush (v := 20) dX11_init_119 (by decide) ?_
  refine ax_putI dX11_init_121 fl_X11_61 rfl rfl rfl (Or.inl rfl) rfl rfl ?_
  refine ax_aload_n (i := 0) dX11_init_124 rfl rfl rfl ?_
  refine ax_iconst (v := 3) dX11_init_125 (by decide) ?_
  refine ax_putI dX11_init_126 fl_X11_64 rfl rfl rfl (Or.inl rfl) rfl rfl ?_
  refine ax_aload_n (i := 0) dX11_init_129 rfl rfl rfl ?_
  refine ax_iconst (v := 0) dX11_init_130 (by decide) ?_
  refine ax_putI dX11_init_131 fl_X11_67 rfl rfl rfl (Or.inl rfl) rfl rfl ?_
  refine ax_sE (S' := bdS 0) rfl ?_
  refine ax_iconst (v := nI 0) dX11_init_134 (by decide) ?_
  refine ax_istore_n (i := 1) (lv' := [(1, _), (0, _)]) dX11_init_135 rfl (by decide) rfl ?_
  exact ax_kE rfl rfl (ax_loc rfl (L 8 0 (by omega)))
