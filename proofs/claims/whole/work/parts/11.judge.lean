-- the judgement
abbrev awM : Type := MethodName × ByteArray × Nat × Option FieldType × Nat × Nat × Bool
abbrev awM_y (M : awM) : MethodName := M.1
abbrev awM_c (M : awM) : ByteArray := M.2.1
abbrev awM_n (M : awM) : Nat := M.2.2.1
abbrev awM_r (M : awM) : Option FieldType := M.2.2.2.1
abbrev awM_f (M : awM) : Nat := M.2.2.2.2.1
abbrev awM_l (M : awM) : Nat := M.2.2.2.2.2.1
abbrev awM_i (M : awM) : Bool := M.2.2.2.2.2.2
def awLo (E : awE) : Nat → Prop := fun q => awE_lo E ≤ q
def awCst : List (String × String) := [("AlarmTower", "java/lang/Object"), ("AlarmTower$Alarm", "java/lang/Object"), ("AlarmTower$Board", "java/lang/Object"), ("AlarmTower$Group", "java/lang/Object"), ("AlarmTower$Letter", "java/lang/Object"), ("AlarmTower$Roster", "java/lang/Object"), ("AlarmTower$Rule", "java/lang/Object"), ("AlarmTower$Shift", "java/lang/Object"), ("AlarmTower$Silence", "java/lang/Object"), ("AlarmTower$Source", "java/lang/Object"), ("AlarmTower$Swap", "java/lang/Object"), ("AlarmTower$Watch", "java/lang/Object"), ("AlarmTowerModel", "java/lang/Object"), ("[B", "java/lang/Object"), ("[I", "java/lang/Object"), ("[J", "java/lang/Object"), ("[LAlarmTower$Watch;", "java/lang/Object"), ("[Ljava/lang/Object;", "java/lang/Object"), ("[Z", "java/lang/Object"), ("java/lang/IllegalArgumentException", "java/lang/IllegalArgumentException"), ("java/lang/IllegalArgumentException", "java/lang/Object"), ("java/lang/IllegalStateException", "java/lang/IllegalStateException"), ("java/lang/IllegalStateException", "java/lang/Object"), ("java/lang/String", "java/lang/Object"), ("java/lang/Throwable", "java/lang/Object"), ("java/util/ArrayList", "java/lang/Object")]
def awNst : List (String × Nat × MethodName × String) := [("AlarmTower", 39, ⟨"AlarmTower$Roster", "<init>", "()V"⟩, "AlarmTower"), ("AlarmTower", 70, ⟨"AlarmTower$Board", "<init>", "()V"⟩, "AlarmTower"), ("AlarmTower$Rule", 57, ⟨"AlarmTower$Watch", "<init>", "()V"⟩, "AlarmTower"), ("AlarmTower$Rule", 65, ⟨"AlarmTower", "bit", "(Z)I"⟩, "AlarmTower")]
/-- what the tables say, in any state of the run -/
def awKs (E : awE) (U : State) : Prop := va_K (awE_D E) vwCl (awTys (awE_A E)) U ∧ va_Z "java/util/ArrayList" "DEFAULTCAPACITY_EMPTY_ELEMENTDATA" "[Ljava/lang/Object;" (.ref (awE_e E)) (awLo E) U (awE_H E) ∧ va_T (.object "java/lang/Object") (awE_e E) 0 (fun _ => .null) (awLo E) U (awE_H E) ∧ va_X (awE_b E) (awE_n E) (awE_x E) U (awE_H E) ∧
  (∀ q ∈ awCst, va_Nw (.castable q.1 q.2) U) ∧ (∀ q ∈ awNst, va_Nw (.methodLinkNest q.1 q.2.1 q.2.2.1 q.2.2.2) U) ∧ va_AO "java/lang/Object" U ∧ (va_AO "AlarmTower$Watch" U ∧ va_AO "AlarmTower$Board" U) ∧ va_Mi "[Ljava/lang/Object;" (awE_c E) U ∧ va_Dc U
def awC (E : awE) (M : awM) (p : Program) (s : State) (m : MethodId) (args : Array Value) (meth : Method) (c : Code) : Prop :=
  p.tables.exec = Jvm.exec ∧ c.code = awM_c M ∧ meth.sig.returnType = awM_r M ∧ meth.locks = false ∧ c.maxLocals = awM_n M ∧ s.vm.findClass (awM_y M).cls = some m.cls ∧ (∀ w ∈ awBig, w.before args s = true) ∧ awKs E s ∧ (awM_i M = true → meth.name = "<init>") ∧ (∀ q, q < awE_lo E → s.heap[q]? = (awE_H E)[q]?) ∧ awE_lo E ≤ s.heap.size
def awWf (S : awS) (lv : List (Nat × Value)) (st : List Value) : Prop := (∀ q ∈ lv, lvV S q.2) ∧ ∀ v ∈ st, lvV S v
def awAg (S : awS) (ad ad' : Nat → Nat) : Prop := ∀ n, lvN S n → ad' n = ad n
def awUp (S S' : awS) : Prop := ∀ n, lvN S n → lvN S' n
def awX (b : Bool) (E : awE) (M : awM) (pc : Nat) (lv : List (Nat × Value)) (st : List Value) (S : awS) (kc ks : Nat) (Q : Option Value → awS → Nat → Nat → Prop) : Prop :=
  ∃ (r : Option Value) (S' : awS) (mc ms : Nat), Q r S' mc ms ∧ kc ≤ mc ∧ ks ≤ ms ∧ awUp S S' ∧
    ∀ (p : Program) (e : Env) (R : Room) (s : State) (m : MethodId) (args : Array Value) (below : List Frame) (meth : Method) (c : Code), awC E M p s m args meth c → awM_f M ≤ R.frames → awM_l M ≤ R.locals → mc ≤ R.cells → ms ≤ R.slots →
    ∀ (Qc : Array Value → State → Outcome → State → Prop) (H : Heap) (locs : List Loc) (ad : Nat → Nat) (ls : Array Slot), awWf S lv st → awR b E S ad H → (∀ q ∈ locs, awE_lo E ≤ q.base) → lv_has ls (awM_n M) (lvm ad lv) →
      (∀ (ad' : Nat → Nat) (t : State), awAg S ad ad' → awR b E S' ad' t.heap → (∀ v, r = some v → lvV S' v) → Qc args s (.returned (r.map (rnv ad'))) t) →
      W p (awE_l E) e R s m args below meth c H locs kc ks (MQ below Qc args s mc ms (awLo E)) (F0 m pc ls (st.map (rnv ad)))
/-- a call of M with the arguments As (the receiver first) -/
def awT (b : Bool) (E : awE) (M : awM) (As : List Value) (S : awS) (Q : Option Value → awS → Nat → Nat → Prop) : Prop :=
  ∃ (r : Option Value) (S' : awS) (mc ms : Nat), Q r S' mc ms ∧ awUp S S' ∧
    ∀ ad : Nat → Nat, (∀ v ∈ As, lvV S v) → Met (awE_l E) (awM_y M) (Cond.code (awM_y M) (awM_c M) (awM_n M) (awM_r M) :: awBig) { frames := awM_f M, cells := mc, slots := ms, locals := awM_l M } (va_Pc (As.map (rnv ad)) (fun U => awR b E S ad U.heap ∧ awKs E U))
      (fun _ _ o t => ∃ ad', awAg S ad ad' ∧ o = .returned (r.map (rnv ad')) ∧ awR b E S' ad' t.heap ∧ ∀ v, r = some v → lvV S' v) mc ms (awLo E)
theorem awUp_rf {S : awS} : awUp S S := fun _ h => h
theorem awUp.tr {S S' S'' : awS} (h : awUp S S') (h' : awUp S' S'') : awUp S S'' := fun n q => h' n (h n q)
theorem awAg_rf {S : awS} {ad : Nat → Nat} : awAg S ad ad := fun _ _ => rfl
theorem lvV.up {S S' : awS} (h : awUp S S') {v : Value} (q : lvV S v) : lvV S' v := by cases v <;> first | exact h _ q | exact q
theorem rnv_ag {S : awS} {ad ad' : Nat → Nat} (h : awAg S ad ad') {v : Value} (q : lvV S v) : rnv ad' v = rnv ad v := by
  cases v <;> first | rfl | exact congrArg Value.ref (h _ q)
theorem lvm_ag {S : awS} {ad ad' : Nat → Nat} (h : awAg S ad ad') {lv : List (Nat × Value)} (q : ∀ x ∈ lv, lvV S x.2) : lvm ad' lv = lvm ad lv := List.map_congr_left fun x hx => by rw [rnv_ag h (q x hx)]
theorem st_ag {S : awS} {ad ad' : Nat → Nat} (h : awAg S ad ad') {st : List Value} (q : ∀ x ∈ st, lvV S x) : st.map (rnv ad') = st.map (rnv ad) := List.map_congr_left fun x hx => rnv_ag h (q x hx)
theorem awKs.moved {E : awE} {u U : State} (hW : u.WarmedH U.vm) (h : awKs E u) : awKs E U := by
  obtain ⟨h1, h2, h3, h4, h5, h6, h7, h8, h9, h10⟩ := h
  have hvm := hW.alike
  exact ⟨h1.moved hvm, h2.moved hvm, h3.moved hvm, h4.moved hvm, fun q hq => (h5 q hq).warmC hW, fun q hq => (h6 q hq).warmM hW, h7.moved hvm, ⟨h8.1.moved hvm, h8.2.moved hvm⟩, h9.moved hvm, h10.moved hvm⟩
theorem awKs.calling {E : awE} {U : State} {g : JFrame} {mk : MethodId} {a : Array Value} (h : awKs E U) : awKs E (U.calling g mk a) := by
  obtain ⟨h1, h2, h3, h4, h5, h6, h7, h8, h9, h10⟩ := h
  have hvm : U.vm.Alike (U.calling g mk a).vm := Vm.Alike.refl U.vm
  exact ⟨h1.moved hvm, h2.moved hvm, h3.moved hvm, h4.moved hvm, fun q hq => (h5 q hq).same rfl rfl, fun q hq => (h6 q hq).same rfl rfl, h7.moved hvm, ⟨h8.1.moved hvm, h8.2.moved hvm⟩, h9.moved hvm, h10.moved hvm⟩
/-- an instruction that leaves the store alone -/
theorem awX.pure {b : Bool} {E : awE} {M : awM} {pc pc' : Nat} {lv lv' : List (Nat × Value)} {st st' : List Value} {S : awS} {kc ks : Nat} {Q : Option Value → awS → Nat → Nat → Prop} (hw : awWf S lv st → awWf S lv' st')
    (go : ∀ (p : Program) (e : Env) (R : Room) (s : State) (m : MethodId) (args : Array Value) (below : List Frame) (meth : Method) (c : Code) (H : Heap) (locs : List Loc) (ad : Nat → Nat) (ls : Array Slot) (Z : State → Prop), awC E M p s m args meth c → awWf S lv st → awR b E S ad H → lv_has ls (awM_n M) (lvm ad lv) →
      (∀ ls' : Array Slot, lv_has ls' (awM_n M) (lvm ad lv') → W p (awE_l E) e R s m args below meth c H locs kc ks Z (F0 m pc' ls' (st'.map (rnv ad)))) → W p (awE_l E) e R s m args below meth c H locs kc ks Z (F0 m pc ls (st.map (rnv ad))))
    (k : awX b E M pc' lv' st' S kc ks Q) : awX b E M pc lv st S kc ks Q := by
  obtain ⟨r, S', mc, ms, hQ, h1, h2, hu, hk⟩ := k
  exact ⟨r, S', mc, ms, hQ, h1, h2, hu, fun p e R s m args below meth c hC hf hl hcc hss Qc H locs ad ls wf hR hlo hls hq => go p e R s m args below meth c H locs ad ls _ hC wf hR hls (fun ls' hls' => hk p e R s m args below meth c hC hf hl hcc hss Qc H locs ad ls' (hw wf) hR hlo hls' hq)⟩
def lk (lv : List (Nat × Value)) (i : Nat) : Option Value := match lv with
  | [] => none
  | q :: l => if q.1 = i then some q.2 else lk l i
theorem lk_mem : ∀ {lv : List (Nat × Value)} {i : Nat} {v : Value}, lk lv i = some v → (i, v) ∈ lv
  | [], i, v, h => by cases h
  | q :: l, i, v, h => by
    unfold lk at h
    by_cases e : q.1 = i
    · rw [if_pos e] at h
      cases h; subst e; exact List.mem_cons_self
    · rw [if_neg e] at h
      exact List.mem_cons_of_mem _ (lk_mem h)
theorem lk_ls {lv : List (Nat × Value)} {ad : Nat → Nat} {ls : Array Slot} {n i : Nat} {v : Value} (h : lv_has ls n (lvm ad lv)) (hk : lk lv i = some v) : ls[i]? = some (.val (rnv ad v)) := h.2.2 (i, rnv ad v) (List.mem_map.mpr ⟨(i, v), lk_mem hk, rfl⟩)
