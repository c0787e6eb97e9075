theorem wI_self (S : awS) (f i k : Nat) : wI S f i k (sI S f i k) = S := by
  obtain ⟨I, T⟩ := S
  refine Prod.ext ?_ rfl
  funext f' i' k'
  show u3 I f i k (I f i k) f' i' k' = I f' i' k'
  unfold u3
  by_cases c : f' = f ∧ i' = i ∧ k' = k
  · rw [if_pos c, c.1, c.2.1, c.2.2]
  · rw [if_neg c]
def sFillI (f i : Nat) (v : Int32) (n : Nat) (S : awS) : awS := mIter (fun j S => wI S f i j v) n S
def sFillJ (f i : Nat) (v : Int64) (n : Nat) (S : awS) : awS := mIter (fun j S => wL S f i j v) n S
theorem sN_fillI (f i : Nat) (v : Int32) (S : awS) (f' i' : Nat) : ∀ n, sN (sFillI f i v n S) f' i' = sN S f' i'
  | 0 => rfl
  | n + 1 => sN_fillI f i v S f' i' n
theorem sN_fillJ (f i : Nat) (v : Int64) (S : awS) (f' i' : Nat) : ∀ n, sN (sFillJ f i v n S) f' i' = sN S f' i'
  | 0 => rfl
  | n + 1 => sN_fillJ f i v S f' i' n
theorem sI_fillI (f i : Nat) (v : Int32) (S : awS) (f' i' k' : Nat) : ∀ n, sI (sFillI f i v n S) f' i' k' = if f' = f ∧ i' = i ∧ k' < n then v else sI S f' i' k'
  | 0 => (if_neg (fun z => absurd z.2.2 (Nat.not_lt_zero _))).symm
  | n + 1 => by
    show sI (wI (sFillI f i v n S) f i n v) f' i' k' = _
    rw [sI_wI, sI_fillI f i v S f' i' k' n]
    by_cases c : f' = f ∧ i' = i ∧ k' = n
    · rw [if_pos c, if_pos ⟨c.1, c.2.1, by omega⟩]
    · rw [if_neg c]
      by_cases d : f' = f ∧ i' = i ∧ k' < n
      · rw [if_pos d, if_pos ⟨d.1, d.2.1, by omega⟩]
      · rw [if_neg d, if_neg (fun z => d ⟨z.1, z.2.1, Nat.lt_of_le_of_ne (Nat.le_of_lt_succ z.2.2) (fun e => c ⟨z.1, z.2.1, e⟩)⟩)]
theorem sL_fillJ (f i : Nat) (v : Int64) (S : awS) (f' i' k' : Nat) : ∀ n, sL (sFillJ f i v n S) f' i' k' = if f' = f ∧ i' = i ∧ k' < n then v else sL S f' i' k'
  | 0 => (if_neg (fun z => absurd z.2.2 (Nat.not_lt_zero _))).symm
  | n + 1 => by
    show sL (wL (sFillJ f i v n S) f i n v) f' i' k' = _
    rw [sL_wL, sL_fillJ f i v S f' i' k' n]
    by_cases c : f' = f ∧ i' = i ∧ k' = n
    · rw [if_pos c, if_pos ⟨c.1, c.2.1, by omega⟩]
    · rw [if_neg c]
      by_cases d : f' = f ∧ i' = i ∧ k' < n
      · rw [if_pos d, if_pos ⟨d.1, d.2.1, by omega⟩]
      · rw [if_neg d, if_neg (fun z => d ⟨z.1, z.2.1, Nat.lt_of_le_of_ne (Nat.le_of_lt_succ z.2.2) (fun e => c ⟨z.1, z.2.1, e⟩)⟩)]

set_option maxHeartbeats 4000000 in
set_option maxRecDepth 100000 in
theorem c_fillint {b : Bool} {E : awE} {S : awS} {Q : Option Value → awS → Nat → Nat → Prop} {f i m0 : Nat} {v : Int32} (hf : fK f = 20) (hb : nb b f = true) (hN : sN S f i = m0) (hm : m0 ≤ 1000) (h : Q none (sFillI f i v m0 S) 0 0) : awT b E m_J7_fill_53178 [.ref (nm f i), .int v] S Q := by
  refine awT.ofF (by decide +kernel) (by decide) (Nat.le_of_ble_eq_true rfl) ?_
  have L : ∀ (m k : Nat), k + m = m0 → awX b E m_J7_fill_53178 5 [(2, .int (nI k)), (3, .int (nI m0)), (0, .ref (nm f i)), (1, .int v)] [] (sFillI f i v k S) 0 0 Q := by
    intro m
    induction m with
    | zero =>
      intro k hm1
      refine ax_iload_n (i := 2) dJ7_fill_53178_5 rfl rfl ?_
      refine ax_iload_n (i := 3) dJ7_fill_53178_6 rfl rfl ?_
      refine ax_icmp_ge (tgt := 20) dJ7_fill_53178_7 (by decide) (fun c1 => ?_) (fun c1 => absurd (lt_of_c (b := m0) rfl c1 (by omega)) (by omega))
      have e0 : k = m0 := by omega
      rw [e0]
      exact ax_vret dJ7_fill_53178_20 rfl h
    | succ m ih =>
      intro k hm1
      refine ax_iload_n (i := 2) dJ7_fill_53178_5 rfl rfl ?_
      refine ax_iload_n (i := 3) dJ7_fill_53178_6 rfl rfl ?_
      refine ax_icmp_ge (tgt := 20) dJ7_fill_53178_7 (by decide) (fun c1 => absurd (ge_of_c (b := m0) rfl c1 (by omega)) (by omega)) (fun c1 => ?_)
      refine ax_aload_n (i := 0) dJ7_fill_53178_10 rfl rfl rfl ?_
      refine ax_iload_n (i := 2) dJ7_fill_53178_11 rfl rfl ?_
      refine ax_iload_n (i := 1) dJ7_fill_53178_12 rfl rfl ?_
      refine ax_iastN (N := m0) dJ7_fill_53178_13 hf hb (by rw [sN_fillI]; exact hN) (by omega) (by omega) ?_
      refine ax_iinc (v := _ + 1) (lv' := [(2, _), (3, _), (0, _), (1, _)]) dJ7_fill_53178_14 rfl rfl (by decide) rfl ?_
      refine ax_goto (tgt := 5) dJ7_fill_53178_17 (by decide) ?_
      rw [nI_1]
      exact ax_loc rfl (ih (k + 1) (by omega))
  refine ax_iconst (v := nI 0) dJ7_fill_53178_0 (by decide) ?_
  refine ax_istore_n (i := 2) (lv' := [(2, _), (0, _), (1, _)]) dJ7_fill_53178_1 rfl (by decide) rfl ?_
  refine ax_aload_n (i := 0) dJ7_fill_53178_2 rfl rfl rfl ?_
  refine ax_alenN dJ7_fill_53178_3 (by rw [hf]; decide) hb hN ?_
  refine ax_istore_n (i := 3) (lv' := [(3, _), (2, _), (0, _), (1, _)]) dJ7_fill_53178_4 rfl (by decide) rfl ?_
  exact ax_loc rfl (L m0 0 (by omega))
set_option maxHeartbeats 4000000 in
set_option maxRecDepth 100000 in
theorem c_filllong {b : Bool} {E : awE} {S : awS} {Q : Option Value → awS → Nat → Nat → Prop} {f i m0 : Nat} {v : Int64} (hf : fK f = 21) (hb : nb b f = true) (hN : sN S f i = m0) (hm : m0 ≤ 1000) (h : Q none (sFillJ f i v m0 S) 0 0) : awT b E m_J7_fill_d0a16 [.ref (nm f i), .long v] S Q := by
  refine awT.ofF (by decide +kernel) (by decide) (Nat.le_of_ble_eq_true rfl) ?_
  have L : ∀ (m k : Nat), k + m = m0 → awX b E m_J7_fill_d0a16 6 [(3, .int (nI k)), (4, .int (nI m0)), (0, .ref (nm f i)), (1, .long v)] [] (sFillJ f i v k S) 0 0 Q := by
    intro m
    induction m with
    | zero =>
      intro k hm1
      refine ax_iload_n (i := 3) dJ7_fill_d0a16_6 rfl rfl ?_
      refine ax_iload dJ7_fill_d0a16_7 rfl ?_
      refine ax_icmp_ge (tgt := 22) dJ7_fill_d0a16_9 (by decide) (fun c1 => ?_) (fun c1 => absurd (lt_of_c (b := m0) rfl c1 (by omega)) (by omega))
      have e0 : k = m0 := by omega
      rw [e0]
      exact ax_vret dJ7_fill_d0a16_22 rfl h
    | succ m ih =>
      intro k hm1
      refine ax_iload_n (i := 3) dJ7_fill_d0a16_6 rfl rfl ?_
      refine ax_iload dJ7_fill_d0a16_7 rfl ?_
      refine ax_icmp_ge (tgt := 22) dJ7_fill_d0a16_9 (by decide) (fun c1 => absurd (ge_of_c (b := m0) rfl c1 (by omega)) (by omega)) (fun c1 => ?_)
      refine ax_aload_n (i := 0) dJ7_fill_d0a16_12 rfl rfl rfl ?_
      refine ax_iload_n (i := 3) dJ7_fill_d0a16_13 rfl rfl ?_
      refine ax_lload_n (i := 1) dJ7_fill_d0a16_14 rfl rfl ?_
      refine ax_lastN (N := m0) dJ7_fill_d0a16_15 hf hb (by rw [sN_fillJ]; exact hN) (by omega) (by omega) ?_
      refine ax_iinc (v := _ + 1) (lv' := [(3, _), (4, _), (0, _), (1, _)]) dJ7_fill_d0a16_16 rfl rfl (by decide) rfl ?_
      refine ax_goto (tgt := 6) dJ7_fill_d0a16_19 (by decide) ?_
      rw [nI_1]
      exact ax_loc rfl (ih (k + 1) (by omega))
  refine ax_iconst (v := nI 0) dJ7_fill_d0a16_0 (by decide) ?_
  refine ax_istore_n (i := 3) (lv' := [(3, _), (0, _), (1, _)]) dJ7_fill_d0a16_1 rfl (by decide) rfl ?_
  refine ax_aload_n (i := 0) dJ7_fill_d0a16_2 rfl rfl rfl ?_
  refine ax_alenN dJ7_fill_d0a16_3 (by rw [hf]; decide) hb hN ?_
  refine ax_istore (lv' := [(4, _), (3, _), (0, _), (1, _)]) dJ7_fill_d0a16_4 (by decide) rfl ?_
  exact ax_loc rfl (L m0 0 (by omega))
abbrev rosOk (S : awS) (M : aM) : Prop := sR S 5 0 1 = some (nm 39 0) ∧ sR S 5 0 2 = some (nm 40 0) ∧ sR S 5 0 3 = some (nm 27 0) ∧ sR S 5 0 4 = some (nm 28 0) ∧ sN S 27 0 = 8 ∧ sN S 28 0 = 8 ∧ sC S 39 = 1 ∧ sC S 40 = 1 ∧ sI S 5 0 0 = nI (mN M 52) ∧ sK S 7 = (mN M 53, nm 7) ∧ sK S 8 = (mN M 58, nm 10)
def sExch (a c : Nat) (S : awS) : awS := wI (wI S 27 0 a (sI S 27 0 c)) 27 0 c (sI S 27 0 a)
def sSwap (M : aM) (t k : Nat) (S : awS) : awS := if mA M 61 k ≤ nI t ∧ nI t ≤ mA M 62 k then sExch (mE M 59 k) (mE M 60 k) S else S
def sStand0 (n : Nat) (S : awS) : awS := mIter (fun h S => wI S 27 0 h (nI h)) n S
def sStand1 (M : aM) (t n : Nat) (S : awS) : awS := mIter (sSwap M t) n S
def sStand (M : aM) (t : Nat) (S : awS) : awS := sStand1 M t (mN M 58) (sStand0 8 S)
def sWakeH (M : aM) (k h : Nat) (S : awS) : awS := if sI S 27 0 h = mA M 54 k ∧ mA M 57 k < sI S 28 0 h then wI S 28 0 h (mA M 57 k) else S
def sWakeK (M : aM) (t k : Nat) (S : awS) : awS := if (t % 48 + 48 - mE M 55 k) % 48 < mE M 56 k then mIter (sWakeH M k) 8 S else S
def sFind (M : aM) (t : Nat) (S : awS) : awS := mIter (sWakeK M t) (mN M 53) (sFillI 28 0 10 8 S)
def sRowH (f i st h : Nat) (a : awS × Nat) : awS × Nat := if sI a.1 28 0 h = nI st ∧ a.2 < 8 then (wI a.1 f i a.2 (nI h), a.2 + 1) else a
def sRow (f i : Nat) (S : awS) : awS × Nat := mIter (fun st a => mIter (sRowH f i st) 8 a) 10 (S, 0)
/-- what is written: ints of 27, 28 and one row alone -/
def cFr (f i : Nat) (S S' : awS) : Prop := S'.2 = S.2 ∧ ∀ f' i' k', ¬ f' = 27 → ¬ f' = 28 → ¬ (f' = f ∧ i' = i) → sI S' f' i' k' = sI S f' i' k'
theorem cFr.rf {f i : Nat} {S : awS} : cFr f i S S := ⟨rfl, fun _ _ _ _ _ _ => rfl⟩
theorem cFr.tr {f i : Nat} {S S' S'' : awS} (h : cFr f i S S') (h' : cFr f i S' S'') : cFr f i S S'' := ⟨h'.1.trans h.1, fun a c d e g k => (h'.2 a c d e g k).trans (h.2 a c d e g k)⟩
theorem cFr.w {f i : Nat} {S : awS} {g j k : Nat} {v : Int32} (hg : g = 27 ∨ g = 28 ∨ (g = f ∧ j = i)) : cFr f i S (wI S g j k v) := ⟨rfl, fun f' i' k' h1 h2 h3 => by
  rw [sI_wI, if_neg (fun z => by
    rcases hg with q | q | q
    · exact h1 (z.1.trans q)
    · exact h2 (z.1.trans q)
    · exact h3 ⟨z.1.trans q.1, z.2.1.trans q.2⟩)]⟩
theorem cFr.it {α : Type} {f i : Nat} {p : α → awS} {g : Nat → α → α} (hg : ∀ k a, cFr f i (p a) (p (g k a))) : ∀ n a, cFr f i (p a) (p (mIter g n a))
  | 0, _ => cFr.rf
  | n + 1, a => (cFr.it hg n a).tr (hg n _)
theorem cFr.ros {f i : Nat} {S S' : awS} {M : aM} (h : cFr f i S S') (hf : ¬ f = 5) (r : rosOk S M) : rosOk S' M := by
  obtain ⟨I, T⟩ := S
  obtain ⟨I', T'⟩ := S'
  obtain ⟨h1, h2⟩ := h
  have h1 : T' = T := h1
  subst h1
  obtain ⟨r1, r2, r3, r4, r5, r6, r7, r8, r9, r10, r11⟩ := r
  exact ⟨r1, r2, r3, r4, r5, r6, r7, r8, (h2 5 0 0 (by decide) (by decide) (fun z => hf z.1.symm)).trans r9, r10, r11⟩
theorem cFr.rd {f i : Nat} {S S' : awS} (h : cFr f i S S') {f' i' k' : Nat} (h1 : ¬ f' = 27) (h2 : ¬ f' = 28) (h3 : ¬ (f' = f ∧ i' = i)) : sI S' f' i' k' = sI S f' i' k' := h.2 f' i' k' h1 h2 h3
theorem frExch (f i a c : Nat) (S : awS) : cFr f i S (sExch a c S) := (cFr.w (Or.inl rfl)).tr (cFr.w (Or.inl rfl))
theorem frSwap (f i : Nat) (M : aM) (t k : Nat) (S : awS) : cFr f i S (sSwap M t k S) := by
  unfold sSwap
  split
  · exact frExch _ _ _ _ _
  · exact cFr.rf
theorem frStand0 (f i n : Nat) (S : awS) : cFr f i S (sStand0 n S) := cFr.it (p := fun S => S) (fun k a => cFr.w (Or.inl rfl)) n S
theorem frStand1 (f i : Nat) (M : aM) (t n : Nat) (S : awS) : cFr f i S (sStand1 M t n S) := cFr.it (p := fun S => S) (fun k a => frSwap f i M t k a) n S
theorem frStand (f i : Nat) (M : aM) (t : Nat) (S : awS) : cFr f i S (sStand M t S) := (frStand0 f i 8 S).tr (frStand1 f i M t _ _)
theorem frWakeH (f i : Nat) (M : aM) (k h : Nat) (S : awS) : cFr f i S (sWakeH M k h S) := by
  unfold sWakeH
  split
  · exact cFr.w (Or.inr (Or.inl rfl))
  · exact cFr.rf
theorem frWakeK (f i : Nat) (M : aM) (t k : Nat) (S : awS) : cFr f i S (sWakeK M t k S) := by
  unfold sWakeK
  split
  · exact cFr.it (p := fun S => S) (fun h a => frWakeH f i M k h a) 8 S
  · exact cFr.rf
theorem frFill28 (f i : Nat) (v : Int32) (n : Nat) (S : awS) : cFr f i S (sFillI 28 0 v n S) := cFr.it (p := fun S => S) (fun k a => cFr.w (Or.inr (Or.inl rfl))) n S
theorem frFind (f i : Nat) (M : aM) (t : Nat) (S : awS) : cFr f i S (sFind M t S) := (frFill28 f i 10 8 S).tr (cFr.it (p := fun S => S) (fun k a => frWakeK f i M t k a) _ _)
theorem frRowH (f i st h : Nat) (a : awS × Nat) : cFr f i a.1 (sRowH f i st h a).1 := by
  unfold sRowH
  split
  · exact cFr.w (Or.inr (Or.inr ⟨rfl, rfl⟩))
  · exact cFr.rf
theorem frRow (f i : Nat) (S : awS) : cFr f i S (sRow f i S).1 := cFr.it (p := fun a : awS × Nat => a.1) (fun st a => cFr.it (p := fun a : awS × Nat => a.1) (fun h a => frRowH f i st h a) 8 a) 10 (S, 0)

