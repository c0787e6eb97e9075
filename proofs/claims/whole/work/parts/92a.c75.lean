-- the constructor of the tower, from the empty store
def aS00 : awS := (fun _ _ _ => 0, fun _ _ _ => 0, fun _ _ _ => none, fun f => if f = 125 ∨ f = 126 ∨ f = 127 then 1 else 0, fun _ _ => 0, fun _ => (0, fun _ => 0))
def aSz : awS := wNew aS00 12 0

def aT2 : awS := (wR (wK (wK (wNew (wR (wK (wK (wNew (wR (wK (wK (wNew aSz 32 0) 0 (1000000, fun _ => nm (32+0) 0)) 0 (0, nm 9)) 12 0 0 (some (nm 32 0))) 33 0) 1 (1000000, fun _ => nm (32+1) 0)) 1 (0, nm 6)) 12 0 1 (some (nm 33 0))) 34 0) 2 (1000000, fun _ => nm (32+2) 0)) 2 (0, nm 8)) 12 0 2 (some (nm 34 0)))
def aT5 : awS := (wR (wK (wK (wNew (wR (wK (wK (wNew (wR (wK (wK (wNew aT2 35 0) 3 (1000000, fun _ => nm (32+3) 0)) 3 (0, nm 1)) 12 0 3 (some (nm 35 0))) 36 0) 4 (1000000, fun _ => nm (32+4) 0)) 4 (0, nm 3)) 12 0 4 (some (nm 36 0))) 37 0) 5 (1000000, fun _ => nm (32+5) 0)) 5 (0, nm 4)) 12 0 5 (some (nm 37 0)))
def aT6 : awS := (wR (wK (wK (wNew aT5 38 0) 6 (1000000, fun _ => nm (32+6) 0)) 6 (0, nm 2)) 12 0 6 (some (nm 38 0)))
def aT7 : awS := (wR (roS (wNew aT6 5 0)) 12 0 7 (some (nm 5 0)))
def aT8 : awS := (wI (wI (wI (wI (wI (wI (wI (wR (wNew aT7 26 8) 12 0 8 (some (nm 26 0))) 12 0 9 0) 12 0 10 1) 12 0 11 2) 12 0 12 5) 12 0 13 20) 12 0 14 3) 12 0 15 0)
/-- k boards made -/
def bdS : Nat → awS
  | 0 => aT8
  | k + 1 => wK (brS (wNew (bdS k) 2 0) k) 6 (k + 1, nm 2)
theorem bd_2 : ∀ k, sC (bdS k) 2 = k ∧ sC (bdS k) 25 = k
  | 0 => ⟨rfl, rfl⟩
  | k + 1 => by
    obtain ⟨h1, h2⟩ := bd_2 k
    refine ⟨?_, ?_⟩
    · show sC (bdS k) 2 + 1 = k + 1
      rw [h1]
    · show sC (bdS k) 25 + 1 = k + 1
      rw [h2]
theorem bd_l : ∀ k, sC (bdS k) 38 = 1 ∧ sR (bdS k) 12 0 6 = some (nm 38 0)
  | 0 => ⟨rfl, rfl⟩
  | k + 1 => ⟨(bd_l k).1, (bd_l k).2⟩
theorem bd_k : ∀ k, sK (bdS k) 6 = (k, nm 2)
  | 0 => rfl
  | k + 1 => rfl

/-- the slots of k boards -/
def bdK : Nat → Nat
  | 0 => 0
  | k + 1 => bdK k + (4 + 60 + (2 * k + 12))
theorem bd_ks {c : Nat} (k : Nat) : c + bdK k + 4 + 60 + (2 * k + 12) = c + bdK (k + 1) := by
  show _ = c + (bdK k + (4 + 60 + (2 * k + 12)))
  omega

set_option maxHeartbeats 400000 in
set_option maxRecDepth 100000 in
theorem c_iTow {E : awE} {Q : Option Value → awS → Nat → Nat → Prop} (h : Q none (bdS 8) (13 + 24) (56 + bdK 8)) : awT true E m_X11_init [.ref (nm 12 0)] aSz Q := by
  refine awT.of (by decide) (by decide) (Nat.le_of_ble_eq_true rfl) ?_
  have L : ∀ (m k : Nat), k + m = 8 → awX true E m_X11_init 138 [(1, .int (nI k)), (0, .ref (nm 12 0))] [] (bdS k) (13 + 3 * k) (56 + bdK k) Q := by
    intro m
    induction m with
    | zero =>
      intro k hm1 
      refine ax_iload_n (i := 1) dX11_init_138 rfl rfl ?_
      refine ax_bipush (v := 8) dX11_init_139 (by decide) ?_
      refine ax_icmp_ge (tgt := 165) dX11_init_141 (by decide) (fun c_141 => ?_) (fun c_141 => ?_)
      · have hk2 : k = 8 := Nat.le_antisymm (by omega) (ge_of_c (b := 8) rfl c_141 (by omega))
        refine ax_vret dX11_init_165 rfl ?_
        rw [hk2]
        exact h
      · exact absurd (lt_of_c (b := 8) rfl c_141 (by omega)) (by omega)
    | succ m ih =>
      intro k hm1 
      refine ax_iload_n (i := 1) dX11_init_138 rfl rfl ?_
      refine ax_bipush (v := 8) dX11_init_139 (by decide) ?_
      refine ax_icmp_ge (tgt := 165) dX11_init_141 (by decide) (fun c_141 => ?_) (fun c_141 => ?_)
      · exact absurd (ge_of_c (b := 8) rfl c_141 (by omega)) (by omega)
      · have hk2 : k < 8 := lt_of_c (b := 8) rfl c_141 (by omega)
        refine ax_aload_n (i := 0) dX11_init_144 rfl rfl rfl ?_
        refine ax_getR dX11_init_145 fl_X11_31 rfl rfl rfl (show sR (bdS k) 12 0 6 = some (nm 38 0) from (bd_l k).2) ?_
        refine ax_new (f := 2) dX11_init_148 nw_X11_67 rfl rfl ?_
        rw [show sC (bdS k) 2 = k from (bd_2 k).1]
        refine ax_dup dX11_init_151 rfl ?_
        refine ax_invIN (n := 0) (As := []) dX11_init_152 cb_X1_init (host := "AlarmTower") (by decide) cn_X11_69 rfl rfl rfl ⟨Nat.le_of_ble_eq_true rfl, Nat.le_of_ble_eq_true rfl⟩ (Nat.le_of_ble_eq_true rfl) rfl (c_iBrd (d := k) (bd_2 k).2 ?_)
        refine ax_invV (c := 0) (n := 1) (As := [_]) dX11_init_155 cb_Jx4a65c_add_9ea2d cv_X11_70.1 cv_X11_70.2.1 cv_X11_70.2.2 rfl (by decide) rfl ⟨Nat.le_of_ble_eq_true rfl, Nat.le_of_ble_eq_true rfl⟩ (Nat.le_of_ble_eq_true rfl) rfl (t_lsAdd (q := 6) (by decide) (show sC (brS (wNew (bdS k) 2 0) k) 38 = 1 from (bd_l k).1) (show sK (brS (wNew (bdS k) 2 0) k) 6 = (k, nm 2) from bd_k k) (by omega) (by decide) (by decide) ?_)
        refine ax_pop dX11_init_158 rfl ?_
        refine ax_sE (S' := bdS (k + 1)) (congrArg (fun z => wK (brS (wNew (bdS k) 2 0) k) 6 (k + 1, z)) (elU_nm 2 k)) ?_
        refine ax_iinc (v := _ + 1) (lv' := [(1, _), (0, _)]) dX11_init_159 rfl rfl (by decide) rfl ?_
        refine ax_goto (tgt := 138) dX11_init_162 (by decide) ?_
        rw [nI_1]
        exact ax_kE (by omega) (by have e : (oCl 2).2.2 = 4 := rfl; rw [e]; exact bd_ks k) (ax_loc rfl (ih (k + 1) (by omega)))
  refine ax_aload_n (i := 0) dX11_init_0 rfl rfl rfl ?_
  refine ax_objInit dX11_init_1 ki_X11_1 ko_1 ko_2 ⟨Nat.le_of_ble_eq_true rfl, Nat.le_of_ble_eq_true rfl⟩ (Nat.le_of_ble_eq_true rfl) ?_
  refine ax_aload_n (i := 0) dX11_init_4 rfl rfl rfl ?_
  refine ax_newLst (q := 0) dX11_init_5 nw_X11_7 (by decide) (show sC aSz 32 = 0 from rfl) ?_
  refine ax_dup dX11_init_8 rfl ?_
  refine ax_invI (n := 0) (As := []) dX11_init_9 cb_Jx4a65c_init_da8c8 ci_X11_9.1 ci_X11_9.2 rfl rfl rfl ⟨Nat.le_of_ble_eq_true rfl, Nat.le_of_ble_eq_true rfl⟩ (Nat.le_of_ble_eq_true rfl) rfl (t_lsInit (q := 0) (el := nm 9) (by decide) (show sC (wK (wNew aSz 32 0) 0 (1000000, fun _ => nm (32+0) 0)) 32 = 1 from rfl) rfl ?_)
  refine ax_putR dX11_init_12 fl_X11_10 rfl rfl rfl (Or.inr ⟨rfl, rfl, rfl⟩) ?_
  refine ax_aload_n (i := 0) dX11_init_15 rfl rfl rfl ?_
  refine ax_newLst (q := 1) dX11_init_16 nw_X11_7 (by decide) (show sC (wR (wK (wK (wNew aSz 32 0) 0 (1000000, fun _ => nm (32+0) 0)) 0 (0, nm 9)) 12 0 0 (some (nm 32 0))) 33 = 0 from rfl) ?_
  refine ax_dup dX11_init_19 rfl ?_
  refine ax_invI (n := 0) (As := []) dX11_init_20 cb_Jx4a65c_init_da8c8 ci_X11_9.1 ci_X11_9.2 rfl rfl rfl ⟨Nat.le_of_ble_eq_true rfl, Nat.le_of_ble_eq_true rfl⟩ (Nat.le_of_ble_eq_true rfl) rfl (t_lsInit (q := 1) (el := nm 6) (by decide) (show sC (wK (wNew (wR (wK (wK (wNew aSz 32 0) 0 (1000000, fun _ => nm (32+0) 0)) 0 (0, nm 9)) 12 0 0 (some (nm 32 0))) 33 0) 1 (1000000, fun _ => nm (32+1) 0)) 33 = 1 from rfl) rfl ?_)
  refine ax_putR dX11_init_23 fl_X11_16 rfl rfl rfl (Or.inr ⟨rfl, rfl, rfl⟩) ?_
  refine ax_aload_n (i := 0) dX11_init_26 rfl rfl rfl ?_
  refine ax_newLst (q := 2) dX11_init_27 nw_X11_7 (by decide) (show sC (wR (wK (wK (wNew (wR (wK (wK (wNew aSz 32 0) 0 (1000000, fun _ => nm (32+0) 0)) 0 (0, nm 9)) 12 0 0 (some (nm 32 0))) 33 0) 1 (1000000, fun _ => nm (32+1) 0)) 1 (0, nm 6)) 12 0 1 (some (nm 33 0))) 34 = 0 from rfl) ?_
  refine ax_dup dX11_init_30 rfl ?_
  refine ax_invI (n := 0) (As := []) dX11_init_31 cb_Jx4a65c_init_da8c8 ci_X11_9.1 ci_X11_9.2 rfl rfl rfl ⟨Nat.le_of_ble_eq_true rfl, Nat.le_of_ble_eq_true rfl⟩ (Nat.le_of_ble_eq_true rfl) rfl (t_lsInit (q := 2) (el := nm 8) (by decide) (show sC (wK (wNew (wR (wK (wK (wNew (wR (wK (wK (wNew aSz 32 0) 0 (1000000, fun _ => nm (32+0) 0)) 0 (0, nm 9)) 12 0 0 (some (nm 32 0))) 33 0) 1 (1000000, fun _ => nm (32+1) 0)) 1 (0, nm 6)) 12 0 1 (some (nm 33 0))) 34 0) 2 (1000000, fun _ => nm (32+2) 0)) 34 = 1 from rfl) rfl ?_)
  refine ax_putR dX11_init_34 fl_X11_19 rfl rfl rfl (Or.inr ⟨rfl, rfl, rfl⟩) ?_
  refine ax_sE (S' := aT2) rfl ?_
  refine ax_aload_n (i := 0) dX11_init_37 rfl rfl rfl ?_
  refine ax_newLst (q := 3) dX11_init_38 nw_X11_7 (by decide) (show sC aT2 35 = 0 from rfl) ?_
  refine ax_dup dX11_init_41 rfl ?_
  refine ax_invI (n := 0) (As := []) dX11_init_42 cb_Jx4a65c_init_da8c8 ci_X11_9.1 ci_X11_9.2 rfl rfl rfl ⟨Nat.le_of_ble_eq_true rfl, Nat.le_of_ble_eq_true rfl⟩ (Nat.le_of_ble_eq_true rfl) rfl (t_lsInit (q := 3) (el := nm 1) (by decide) (show sC (wK (wNew aT2 35 0) 3 (1000000, fun _ => nm (32+3) 0)) 35 = 1 from rfl) rfl ?_)
  refine ax_putR dX11_init_45 fl_X11_22 rfl rfl rfl (Or.inr ⟨rfl, rfl, rfl⟩) ?_
  refine ax_aload_n (i := 0) dX11_init_48 rfl rfl rfl ?_
  refine ax_newLst (q := 4) dX11_init_49 nw_X11_7 (by decide) (show sC (wR (wK (wK (wNew aT2 35 0) 3 (1000000, fun _ => nm (32+3) 0)) 3 (0, nm 1)) 12 0 3 (some (nm 35 0))) 36 = 0 from rfl) ?_
  refine ax_dup dX11_init_52 rfl ?_
  refine ax_invI (n := 0) (As := []) dX11_init_53 cb_Jx4a65c_init_da8c8 ci_X11_9.1 ci_X11_9.2 rfl rfl rfl ⟨Nat.le_of_ble_eq_true rfl, Nat.le_of_ble_eq_true rfl⟩ (Nat.le_of_ble_eq_true rfl) rfl (t_lsInit (q := 4) (el := nm 3) (by decide) (show sC (wK (wNew (wR (wK (wK (wNew aT2 35 0) 3 (1000000, fun _ => nm (32+3) 0)) 3 (0, nm 1)) 12 0 3 (some (nm 35 0))) 36 0) 4 (1000000, fun _ => nm (32+4) 0)) 36 = 1 from rfl) rfl ?_)
  refine ax_putR dX11_init_56 fl_X11_25 rfl rfl rfl (Or.inr ⟨rfl, rfl, rfl⟩) ?_
  refine ax_aload_n (i := 0) dX11_init_59 rfl rfl rfl ?_
  refine ax_newLst (q := 5) dX11_init_60 nw_X11_7 (by decide) (show sC (wR (wK (wK (wNew (wR (wK (wK (wNew aT2 35 0) 3 (1000000, fun _ => nm (32+3) 0)) 3 (0, nm 1)) 12 0 3 (some (nm 35 0))) 36 0) 4 (1000000, fun _ => nm (32+4) 0)) 4 (0, nm 3)) 12 0 4 (some (nm 36 0))) 37 = 0 from rfl) ?_
  refine ax_dup dX11_init_63 rfl ?_
  refine ax_invI (n := 0) (As := []) dX11_init_64 cb_Jx4a65c_init_da8c8 ci_X11_9.1 ci_X11_9.2 rfl rfl rfl ⟨Nat.le_of_ble_eq_true rfl, Nat.le_of_ble_eq_true rfl⟩ (Nat.le_of_ble_eq_true rfl) rfl (t_lsInit (q := 5) (el := nm 4) (by decide) (show sC (wK (wNew (wR (wK (wK (wNew (wR (wK (wK (wNew aT2 35 0) 3 (1000000, fun _ => nm (32+3) 0)) 3 (0, nm 1)) 12 0 3 (some (nm 35 0))) 36 0) 4 (1000000, fun _ => nm (32+4) 0)) 4 (0, nm 3)) 12 0 4 (some (nm 36 0))) 37 0) 5 (1000000, fun _ => nm (32+5) 0)) 37 = 1 from rfl) rfl ?_)
  refine ax_putR dX11_init_67 fl_X11_28 rfl rfl rfl (Or.inr ⟨rfl, rfl, rfl⟩) ?_
  refine ax_sE (S' := aT5) rfl ?_
  refine ax_aload_n (i := 0) dX11_init_70 rfl rfl rfl ?_
  refine ax_newLst (q := 6) dX11_init_71 nw_X11_7 (by decide) (show sC aT5 38 = 0 from rfl) ?_
  refine ax_dup dX11_init_74 rfl ?_
  refine ax_invI (n := 0) (As := []) dX11_init_75 cb_Jx4a65c_init_da8c8 ci_X11_9.1 ci_X11_9.2 rfl rfl rfl ⟨Nat.le_of_ble_eq_true rfl, Nat.le_of_ble_eq_true rfl⟩ (Nat.le_of_ble_eq_true rfl) rfl (t_lsInit (q := 6) (el := nm 2) (by decide) (show sC (wK (wNew aT5 38 0) 6 (1000000, fun _ => nm (32+6) 0)) 38 = 1 from rfl) rfl ?_)
  refine ax_putR dX11_init_78 fl_X11_31 rfl rfl rfl (Or.inr ⟨rfl, rfl, rfl⟩) ?_
  refine ax_sE (S' := aT6) rfl ?_
  refine ax_aload_n (i := 0) dX11_init_81 rfl rfl rfl ?_
  refine ax_new (f := 5) dX11_init_82 nw_X11_34 rfl rfl ?_
  refine ax_dup dX11_init_85 rfl ?_
  refine ax_invIN (n := 0) (As := []) dX11_init_86 cb_X4_init (host := "AlarmTower") (by decide) cn_X11_36 rfl rfl rfl ⟨Nat.le_of_ble_eq_true rfl, Nat.le_of_ble_eq_true rfl⟩ (Nat.le_of_ble_eq_true rfl) rfl (c_iRos rfl rfl rfl rfl ?_)
  refine ax_putR dX11_init_89 fl_X11_37 rfl rfl rfl (Or.inr ⟨rfl, rfl, rfl⟩) ?_
  refine ax_sE (S' := aT7) rfl ?_
  refine ax_aload_n (i := 0) dX11_init_92 rfl rfl rfl ?_
  refine ax_bipush (v := 8) dX11_init_93 (by decide) ?_
  refine ax_newI (f := 26) (n := 8) dX11_init_95 ka_int rfl rfl (by decide) (by decide) (by decide) ?_
  rw [show sC aT7 26 = 0 from rfl]
  refine ax_putR dX11_init_97 fl_X11_41 rfl rfl rfl (Or.inr ⟨rfl, rfl, rfl⟩) ?_
  refine ax_aload_n (i := 0) dX11_init_100 rfl rfl rfl ?_
  refine ax_iconst (v := 0) dX11_init_101 (by decide) ?_
  refine ax_putI dX11_init_102 fl_X11_45 rfl rfl rfl (Or.inl rfl) rfl rfl ?_
  refine ax_aload_n (i := 0) dX11_init_105 rfl rfl rfl ?_
  refine ax_iconst (v := 1) dX11_init_106 (by decide) ?_
  refine ax_putI dX11_init_107 fl_X11_49 rfl rfl rfl (Or.inl rfl) rfl rfl ?_
  refine ax_aload_n (i := 0) dX11_init_110 rfl rfl rfl ?_
  refine ax_iconst (v := 2) dX11_init_111 (by decide) ?_
  refine ax_putI dX11_init_112 fl_X11_52 rfl rfl rfl (Or.inl rfl) rfl rfl ?_
  refine ax_aload_n (i := 0) dX11_init_115 rfl rfl rfl ?_
  refine ax_iconst (v := 5) dX11_init_116 (by decide) ?_
  refine ax_putI dX11_init_117 fl_X11_55 rfl rfl rfl (Or.inl rfl) rfl rfl ?_
  refine ax_aload_n (i := 0) dX11_init_120 rfl rfl rfl ?_
  refine ax_bipush (v := 20) dX11_init_121 (by decide) ?_
  refine ax_putI dX11_init_123 fl_X11_58 rfl rfl rfl (Or.inl rfl) rfl rfl ?_
  refine ax_aload_n (i := 0) dX11_init_126 rfl rfl rfl ?_
  refine ax_iconst (v := 3) dX11_init_127 (by decide) ?_
  refine ax_putI dX11_init_128 fl_X11_61 rfl rfl rfl (Or.inl rfl) rfl rfl ?_
  refine ax_aload_n (i := 0) dX11_init_131 rfl rfl rfl ?_
  refine ax_iconst (v := 0) dX11_init_132 (by decide) ?_
  refine ax_putI dX11_init_133 fl_X11_64 rfl rfl rfl (Or.inl rfl) rfl rfl ?_
  refine ax_sE (S' := bdS 0) rfl ?_
  refine ax_iconst (v := nI 0) dX11_init_136 (by decide) ?_
  refine ax_istore_n (i := 1) (lv' := [(1, _), (0, _)]) dX11_init_137 rfl (by decide) rfl ?_
  exact ax_kE rfl rfl (ax_loc rfl (L 8 0 (by omega)))
