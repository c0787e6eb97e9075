theorem ax_aastN {b : Bool} {E : awE} {M : awM} {pc : Nat} {lv : List (Nat × Value)} {st : List Value} {S : awS} {kc ks : Nat} {Q : Option Value → awS → Nat → Nat → Prop} {f i g j n N : Nat} (hd : decode (awM_c M) pc = .ok (.aastore, 1)) (hf : fK f = 24) (hb : nb b f = true) (hq : fK g = 11) (hN : sN S f i = N) (hNb : N < 2 ^ 31) (hn : n < N) (kk : awX b E M (pc + 1) lv st (wR S f i n (some (nm g j))) kc ks Q) : awX b E M pc lv (.ref (nm g j) :: .int (nI n) :: .ref (nm f i) :: st) S kc ks Q := ax_aast hd hf hb hq (by rw [hN]; exact vp_in_nI hn hNb) (by rw [nI_clamp (by omega)]; exact kk)

def ruB (S : awS) (n : Nat) (num what : Int32) (a : Int64) (b_ how site : Int32) : awS := (wI (wI (wI (wI (wI (wL (wI (wI (wI (wR (wNew (wR (wNew (wR (wNew (wR (wNew S 18 16) 6 n 9 (some (nm 18 n))) 19 3) 6 n 10 (some (nm 19 n))) 20 11) 6 n 11 (some (nm 20 n))) 21 20) 6 n 12 (some (nm 21 n))) 6 n 0 num) 6 n 1 (what - what / 100 * 100)) 6 n 7 (what / 100)) 6 n 2 a) 6 n 3 b_) 6 n 4 (how - how / 100 * 100)) 6 n 5 (how / 100 - how / 100 / 100 * 100)) 6 n 6 (how / 10000)) 6 n 8 site)
theorem ruB_9 (S : awS) (n : Nat) (num what : Int32) (a : Int64) (b_ how site : Int32) : sR (ruB S n num what a b_ how site) 6 n 9 = some (nm 18 n) := by
  simp [ruB, sR_wI, sR_wL, sR_wR, sR_wN]
theorem ruB_18 {S : awS} {n : Nat} (h : sC S 18 = n) (num what : Int32) (a : Int64) (b_ how site : Int32) : sN (ruB S n num what a b_ how site) 18 n = 16 := by
  simp [ruB, sN_wI, sN_wL, sN_wR, sN_wN, sC_wR, sC_wN, h]
theorem ruB_c {S : awS} (n : Nat) (num what : Int32) (a : Int64) (b_ how site : Int32) {f : Nat} (hf : ¬ f = 18 ∧ ¬ f = 19 ∧ ¬ f = 20 ∧ ¬ f = 21) : sC (ruB S n num what a b_ how site) f = sC S f := by
  simp [ruB, sC_wI, sC_wL, sC_wR, sC_wN, hf.1, hf.2.1, hf.2.2.1, hf.2.2.2]

set_option maxHeartbeats 400000 in
set_option maxRecDepth 100000 in
theorem c_iRulL {E : awE} {Q : Option Value → awS → Nat → Nat → Prop} {B : awS} {n : Nat} {num what : Int32} {a : Int64} {b_ how site : Int32} (h9 : sR B 6 n 9 = some (nm 18 n)) (hB : sN B 18 n = 16) (h : Q none (ruS n 16 B) 36 322) : awX true E m_X5_init 108 [(8, .int (nI 0)), (0, .ref (nm 6 n)), (1, .int num), (2, .int what), (3, .long a), (5, .int b_), (6, .int how), (7, .int site)] [] (ruS n 0 B) 4 50 Q := by
  have L : ∀ (m k : Nat), k + m = 16 → awX true E m_X5_init 108 [(8, .int (nI k)), (0, .ref (nm 6 n)), (1, .int num), (2, .int what), (3, .long a), (5, .int b_), (6, .int how), (7, .int site)] [] (ruS n k B) (4 + 2 * k) (50 + 17 * k) Q := by
    intro m
    induction m with
    | zero =>
      intro k hm1 
      refine ax_iload dX5_init_108 rfl ?_
      refine ax_bipush (v := 16) dX5_init_110 (by decide) ?_
      refine ax_icmp_ge (tgt := 135) dX5_init_112 (by decide) (fun c_112 => ?_) (fun c_112 => ?_)
      · have hk2 : k = 16 := Nat.le_antisymm (by omega) (ge_of_c (b := 16) rfl c_112 (by omega))
        refine ax_vret dX5_init_135 rfl ?_
        rw [hk2]
        exact h
      · exact absurd (lt_of_c (b := 16) rfl c_112 (by omega)) (by omega)
    | succ m ih =>
      intro k hm1 
      refine ax_iload dX5_init_108 rfl ?_
      refine ax_bipush (v := 16) dX5_init_110 (by decide) ?_
      refine ax_icmp_ge (tgt := 135) dX5_init_112 (by decide) (fun c_112 => ?_) (fun c_112 => ?_)
      · exact absurd (ge_of_c (b := 16) rfl c_112 (by omega)) (by omega)
      · have hk2 : k < 16 := lt_of_c (b := 16) rfl c_112 (by omega)
        refine ax_aload_n (i := 0) dX5_init_115 rfl rfl rfl ?_
        refine ax_getR dX5_init_116 fl_X5_11 rfl rfl rfl (show sR (ruS n k B) 6 n 9 = some (nm 18 n) from h9) ?_
        refine ax_iload dX5_init_119 rfl ?_
        refine ax_new (f := 11) dX5_init_121 nw_X5_9 rfl rfl ?_
        refine ax_dup dX5_init_124 rfl ?_
        refine ax_invIN (n := 0) (As := []) dX5_init_125 cb_X10_init (host := "AlarmTower") (by decide) cn_X5_57 rfl rfl rfl ⟨Nat.le_of_ble_eq_true rfl, Nat.le_of_ble_eq_true rfl⟩ (Nat.le_of_ble_eq_true rfl) rfl (c_iWat ?_)
        refine ax_aastN dX5_init_128 rfl rfl rfl (show sN (watS (ruS n k B) (16 * n + k)) 18 n = 16 from hB) (by decide) (by omega) ?_
        refine ax_sE (S' := ruS n (k + 1) B) (ruS_1 (n := n) (k := k) (B := B)) ?_
        refine ax_iinc (v := _ + 1) (lv' := [(8, _), (0, _), (1, _), (2, _), (3, _), (5, _), (6, _), (7, _)]) dX5_init_129 rfl rfl (by decide) rfl ?_
        refine ax_goto (tgt := 108) dX5_init_132 (by decide) ?_
        rw [nI_1]
        exact ax_kE (by omega) (by have e : (oCl 11).2.2 = 6 := rfl; omega) (ax_loc rfl (ih (k + 1) (by omega)))
  exact ax_loc rfl (L 16 0 (by omega))

set_option maxHeartbeats 400000 in
set_option maxRecDepth 100000 in
theorem c_iRul {E : awE} {S : awS} {Q : Option Value → awS → Nat → Nat → Prop} {n : Nat} {num what : Int32} {a : Int64} {b_ how site : Int32} (h18 : sC S 18 = n) (h19 : sC S 19 = n) (h20 : sC S 20 = n) (h21 : sC S 21 = n) (h11 : sC S 11 = 16 * n) (h22 : sC S 22 = 16 * n) (h : Q none (ruS n 16 (ruB S n num what a b_ how site)) 36 322) : awT true E m_X5_init [.ref (nm 6 n), .int num, .int what, .long a, .int b_, .int how, .int site] S Q := by
  refine awT.of (by decide) (by decide) (Nat.le_of_ble_eq_true rfl) ?_
  refine ax_aload_n (i := 0) dX5_init_0 rfl rfl rfl ?_
  refine ax_objInit dX5_init_1 ki_X5_3 ko_1 ko_2 ⟨Nat.le_of_ble_eq_true rfl, Nat.le_of_ble_eq_true rfl⟩ (Nat.le_of_ble_eq_true rfl) ?_
  refine ax_aload_n (i := 0) dX5_init_4 rfl rfl rfl ?_
  refine ax_bipush (v := 16) dX5_init_5 (by decide) ?_
  refine ax_newA (f := 18) (n := 16) dX5_init_7 kl_X5_9 rfl rfl (by decide) (by decide) (by decide) ?_
  rw [h18]
  refine ax_putR dX5_init_10 fl_X5_11 rfl rfl rfl (Or.inr ⟨rfl, rfl, rfl⟩) ?_
  refine ax_aload_n (i := 0) dX5_init_13 rfl rfl rfl ?_
  refine ax_iconst (v := 3) dX5_init_14 (by decide) ?_
  refine ax_newI (f := 19) (n := 3) dX5_init_15 ka_int rfl rfl (by decide) (by decide) (by decide) ?_
  rw [show sC (wR (wNew S 18 16) 6 n 9 (some (nm 18 n))) 19 = n from h19]
  refine ax_putR dX5_init_17 fl_X5_17 rfl rfl rfl (Or.inr ⟨rfl, rfl, rfl⟩) ?_
  refine ax_aload_n (i := 0) dX5_init_20 rfl rfl rfl ?_
  refine ax_bipush (v := 11) dX5_init_21 (by decide) ?_
  refine ax_newI (f := 20) (n := 11) dX5_init_23 ka_int rfl rfl (by decide) (by decide) (by decide) ?_
  rw [show sC (wR (wNew (wR (wNew S 18 16) 6 n 9 (some (nm 18 n))) 19 3) 6 n 10 (some (nm 19 n))) 20 = n from h20]
  refine ax_putR dX5_init_25 fl_X5_21 rfl rfl rfl (Or.inr ⟨rfl, rfl, rfl⟩) ?_
  refine ax_aload_n (i := 0) dX5_init_28 rfl rfl rfl ?_
  refine ax_bipush (v := 20) dX5_init_29 (by decide) ?_
  refine ax_newJ (f := 21) (n := 20) dX5_init_31 ka_long rfl rfl (by decide) (by decide) (by decide) ?_
  rw [show sC (wR (wNew (wR (wNew (wR (wNew S 18 16) 6 n 9 (some (nm 18 n))) 19 3) 6 n 10 (some (nm 19 n))) 20 11) 6 n 11 (some (nm 20 n))) 21 = n from h21]
  refine ax_putR dX5_init_33 fl_X5_24 rfl rfl rfl (Or.inr ⟨rfl, rfl, rfl⟩) ?_
  refine ax_aload_n (i := 0) dX5_init_36 rfl rfl rfl ?_
  refine ax_iload_n (i := 1) dX5_init_37 rfl rfl ?_
  refine ax_putI dX5_init_38 fl_X5_28 rfl rfl rfl (Or.inr ⟨rfl, rfl, rfl⟩) rfl rfl ?_
  refine ax_aload_n (i := 0) dX5_init_41 rfl rfl rfl ?_
  refine ax_iload_n (i := 2) dX5_init_42 rfl rfl ?_
  refine ax_bipush (v := 100) dX5_init_43 (by decide) ?_
  refine ax_irem dX5_init_45 (by decide) ?_
  refine ax_putI dX5_init_46 fl_X5_32 rfl rfl rfl (Or.inr ⟨rfl, rfl, rfl⟩) rfl rfl ?_
  refine ax_aload_n (i := 0) dX5_init_49 rfl rfl rfl ?_
  refine ax_iload_n (i := 2) dX5_init_50 rfl rfl ?_
  refine ax_bipush (v := 100) dX5_init_51 (by decide) ?_
  refine ax_idiv dX5_init_53 (by decide) ?_
  refine ax_putI dX5_init_54 fl_X5_35 rfl rfl rfl (Or.inr ⟨rfl, rfl, rfl⟩) rfl rfl ?_
  refine ax_aload_n (i := 0) dX5_init_57 rfl rfl rfl ?_
  refine ax_lload_n (i := 3) dX5_init_58 rfl rfl ?_
  refine ax_putL dX5_init_59 fl_X5_38 rfl rfl rfl (Or.inr ⟨rfl, rfl, rfl⟩) rfl rfl ?_
  refine ax_aload_n (i := 0) dX5_init_62 rfl rfl rfl ?_
  refine ax_iload dX5_init_63 rfl ?_
  refine ax_putI dX5_init_65 fl_X5_42 rfl rfl rfl (Or.inr ⟨rfl, rfl, rfl⟩) rfl rfl ?_
  refine ax_aload_n (i := 0) dX5_init_68 rfl rfl rfl ?_
  refine ax_iload dX5_init_69 rfl ?_
  refine ax_bipush (v := 100) dX5_init_71 (by decide) ?_
  refine ax_irem dX5_init_73 (by decide) ?_
  refine ax_putI dX5_init_74 fl_X5_45 rfl rfl rfl (Or.inr ⟨rfl, rfl, rfl⟩) rfl rfl ?_
  refine ax_aload_n (i := 0) dX5_init_77 rfl rfl rfl ?_
  refine ax_iload dX5_init_78 rfl ?_
  refine ax_bipush (v := 100) dX5_init_80 (by decide) ?_
  refine ax_idiv dX5_init_82 (by decide) ?_
  refine ax_bipush (v := 100) dX5_init_83 (by decide) ?_
  refine ax_irem dX5_init_85 (by decide) ?_
  refine ax_putI dX5_init_86 fl_X5_48 rfl rfl rfl (Or.inr ⟨rfl, rfl, rfl⟩) rfl rfl ?_
  refine ax_aload_n (i := 0) dX5_init_89 rfl rfl rfl ?_
  refine ax_iload dX5_init_90 rfl ?_
  refine ax_sipush (v := 10000) dX5_init_92 (by decide) ?_
  refine ax_idiv dX5_init_95 (by decide) ?_
  refine ax_putI dX5_init_96 fl_X5_51 rfl rfl rfl (Or.inr ⟨rfl, rfl, rfl⟩) rfl rfl ?_
  refine ax_aload_n (i := 0) dX5_init_99 rfl rfl rfl ?_
  refine ax_iload dX5_init_100 rfl ?_
  refine ax_putI dX5_init_102 fl_X5_54 rfl rfl rfl (Or.inr ⟨rfl, rfl, rfl⟩) rfl rfl ?_
  refine ax_iconst (v := nI 0) dX5_init_105 (by decide) ?_
  refine ax_istore (lv' := [(8, _), (0, _), (1, _), (2, _), (3, _), (5, _), (6, _), (7, _)]) dX5_init_106 (by decide) rfl ?_
  refine ax_sE (S' := ruS n 0 (ruB S n num what a b_ how site)) (ruS_0 (B := ruB S n num what a b_ how site) ((ruB_c n num what a b_ how site ⟨by decide, by decide, by decide, by decide⟩).trans h11) ((ruB_c n num what a b_ how site ⟨by decide, by decide, by decide, by decide⟩).trans h22)).symm ?_
  exact ax_kE (by omega) (by omega) (ax_loc rfl (c_iRulL (ruB_9 S n num what a b_ how site) (ruB_18 h18 num what a b_ how site) h))
