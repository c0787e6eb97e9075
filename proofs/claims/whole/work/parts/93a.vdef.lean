-- methods that throw or catch: the judgement
def awDcl : List MethodName := [⟨"java/lang/RuntimeException", "<init>", "(Ljava/lang/String;)V"⟩, ⟨"java/lang/Exception", "<init>", "(Ljava/lang/String;)V"⟩, ⟨"java/lang/Throwable", "<init>", "(Ljava/lang/String;)V"⟩]
def awStr : List (Nat × String) := [(493, "no such board"), (504, "no such element"), (531, "the alarm's failure")]
/-- what a throw needs beside -/
def awKx (E : awE) (U : State) : Prop := (awE_l E).stackTraces = false ∧ vx_Zq Bundle.tN "UNASSIGNED_STACK" Bundle.steD (awLo E) U (awE_H E) ∧ vx_Zq Bundle.tN "SUPPRESSED_SENTINEL" Bundle.listD (awLo E) U (awE_H E) ∧ (∀ q ∈ awDcl, va_Nw (.declares q) U) ∧ (∀ q ∈ awStr, ∃ a, vk_R "AlarmTower" q.1 q.2 a U) ∧ va_Nc "java/lang/IllegalStateException" "java/lang/IllegalArgumentException" U
theorem awKx.moved {E : awE} {u U : State} (hW : u.WarmedH U.vm) (h : awKx E u) : awKx E U := by
  obtain ⟨h1, h2, h3, h4, h5, h6⟩ := h
  have hvm := hW.alike
  exact ⟨h1, h2.moved hvm, h3.moved hvm, fun q hq => (h4 q hq).warmD hW, fun q hq => by obtain ⟨a, ha⟩ := h5 q hq; exact ⟨a, vk_R.warm hW ha⟩, h6.moved hvm⟩
theorem awKx.calling {E : awE} {U : State} {g : JFrame} {mk : MethodId} {a : Array Value} (h : awKx E U) : awKx E (U.calling g mk a) := by
  obtain ⟨h1, h2, h3, h4, h5, h6⟩ := h
  have hvm : U.vm.Alike (U.calling g mk a).vm := Vm.Alike.refl U.vm
  exact ⟨h1, h2.moved hvm, h3.moved hvm, fun q hq => (h4 q hq).same rfl rfl, fun q hq => by obtain ⟨x, hx⟩ := h5 q hq; exact ⟨x, vk_R.same rfl hx⟩, h6.moved hvm⟩
/-- a method's table of handlers -/
def awHh (M : awM) : List (Nat × Nat × Nat × Nat) := if awM_y M = ⟨"AlarmTower", "toss", "(I)I"⟩ then [(22, 28, 29, 502)] else if awM_y M = ⟨"AlarmTowerLaw", "element", "(LAlarmTower;II[J)I"⟩ then [(0, 9, 12, 13), (0, 9, 16, 15)] else []
/-- an end by a throw is written as a double, which no method here gives: 1 and 2 -/
def xK : Option Value → Option String
  | some (.double x) => some (if x = 1 then "java/lang/IllegalArgumentException" else "java/lang/IllegalStateException")
  | _ => none
def awCx (E : awE) (M : awM) (p : Program) (s : State) (m : MethodId) (args : Array Value) (meth : Method) (c : Code) : Prop := awC E M p s m args meth c ∧ awKx E s ∧ (¬ awM_y M = ⟨"AlarmTowerLaw", "law", "([I)Z"⟩ → c.exceptionTable.toList = tableOf (awHh M))
def awV (b : Bool) (E : awE) (M : awM) (pc : Nat) (lv : List (Nat × Value)) (st : List Value) (S : awS) (kc ks : Nat) (Q : Option Value → awS → Nat → Nat → Prop) : Prop :=
  ∃ (r : Option Value) (S' : awS) (mc ms : Nat), Q r S' mc ms ∧ kc ≤ mc ∧ ks ≤ ms ∧ awUp S S' ∧
    ∀ (p : Program) (e : Env) (R : Room) (s : State) (m : MethodId) (args : Array Value) (below : List Frame) (meth : Method) (c : Code), awCx E M p s m args meth c → awM_f M ≤ R.frames → awM_l M ≤ R.locals → mc ≤ R.cells → ms ≤ R.slots →
    ∀ (Qc : Array Value → State → Outcome → State → Prop) (XC : String → State → State → Prop) (H : Heap) (locs : List Loc) (ad : Nat → Nat) (ls : Array Slot), awWf S lv st → awR b E S ad H → (∀ q ∈ locs, awE_lo E ≤ q.base) → lv_has ls (awM_n M) (lvm ad lv) →
      (∀ (ad' : Nat → Nat) (t : State), awAg S ad ad' → awR b E S' ad' t.heap → xK r = none → (∀ v, r = some v → lvV S' v) → Qc args s (.returned (r.map (rnv ad'))) t) →
      (∀ (X : String) (ad' : Nat → Nat) (t : State), xK r = some X → awAg S ad ad' → awR b E S' ad' t.heap → XC X s t) →
      W p (awE_l E) e R s m args below meth c H locs kc ks (vx_MQ below Qc XC args s mc ms (awLo E)) (F0 m pc ls (st.map (rnv ad)))
theorem awV.pure {b : Bool} {E : awE} {M : awM} {pc pc' : Nat} {lv lv' : List (Nat × Value)} {st st' : List Value} {S : awS} {kc ks : Nat} {Q : Option Value → awS → Nat → Nat → Prop} (hw : awWf S lv st → awWf S lv' st')
    (go : ∀ (p : Program) (e : Env) (R : Room) (s : State) (m : MethodId) (args : Array Value) (below : List Frame) (meth : Method) (c : Code) (H : Heap) (locs : List Loc) (ad : Nat → Nat) (ls : Array Slot) (Z : State → Prop), awC E M p s m args meth c → awWf S lv st → awR b E S ad H → lv_has ls (awM_n M) (lvm ad lv) →
      (∀ ls' : Array Slot, lv_has ls' (awM_n M) (lvm ad lv') → W p (awE_l E) e R s m args below meth c H locs kc ks Z (F0 m pc' ls' (st'.map (rnv ad)))) → W p (awE_l E) e R s m args below meth c H locs kc ks Z (F0 m pc ls (st.map (rnv ad))))
    (k : awV b E M pc' lv' st' S kc ks Q) : awV b E M pc lv st S kc ks Q := by
  obtain ⟨r, S', mc, ms, hQ, h1, h2, hu, hk⟩ := k
  exact ⟨r, S', mc, ms, hQ, h1, h2, hu, fun p e R s m args below meth c hC hf hl hcc hss Qc XC H locs ad ls wf hR hlo hls hq hx => go p e R s m args below meth c H locs ad ls _ hC.1 wf hR hls (fun ls' hls' => hk p e R s m args below meth c hC hf hl hcc hss Qc XC H locs ad ls' (hw wf) hR hlo hls' hq hx)⟩
theorem awV.step {b : Bool} {E : awE} {M : awM} {pc pc' : Nat} {lv lv' : List (Nat × Value)} {st st' : List Value} {S S1 : awS} {kc ks kc' ks' : Nat} {Q : Option Value → awS → Nat → Nat → Prop} (hup : awUp S S1) (h1 : kc ≤ kc') (h2 : ks ≤ ks')
    (go : ∀ (p : Program) (e : Env) (R : Room) (s : State) (m : MethodId) (args : Array Value) (below : List Frame) (meth : Method) (c : Code) (H : Heap) (locs : List Loc) (ad : Nat → Nat) (ls : Array Slot) (Z : State → Prop), awC E M p s m args meth c → awWf S lv st → awR b E S ad H → (∀ q ∈ locs, awE_lo E ≤ q.base) → lv_has ls (awM_n M) (lvm ad lv) →
      awM_f M ≤ R.frames → awM_l M ≤ R.locals → kc' ≤ R.cells → ks' ≤ R.slots →
      (∀ (H' : Heap) (locs' : List Loc) (ad' : Nat → Nat) (ls' : Array Slot), awAg S ad ad' → awWf S1 lv' st' → awR b E S1 ad' H' → (∀ q ∈ locs', awE_lo E ≤ q.base) → lv_has ls' (awM_n M) (lvm ad' lv') → W p (awE_l E) e R s m args below meth c H' locs' kc' ks' Z (F0 m pc' ls' (st'.map (rnv ad')))) →
      W p (awE_l E) e R s m args below meth c H locs kc ks Z (F0 m pc ls (st.map (rnv ad))))
    (k : awV b E M pc' lv' st' S1 kc' ks' Q) : awV b E M pc lv st S kc ks Q := by
  obtain ⟨r, S', mc, ms, hQ, e1, e2, hu, hk⟩ := k
  refine ⟨r, S', mc, ms, hQ, Nat.le_trans h1 e1, Nat.le_trans h2 e2, hup.tr hu, fun p e R s m args below meth c hC hf hl hcc hss Qc XC H locs ad ls wf hR hlo hls hq hx => ?_⟩
  exact go p e R s m args below meth c H locs ad ls _ hC.1 wf hR hlo hls hf hl (Nat.le_trans e1 hcc) (Nat.le_trans e2 hss) (fun H' locs' ad' ls' hag wf' hR' hlo' hls' =>
    hk p e R s m args below meth c hC hf hl hcc hss Qc XC H' locs' ad' ls' wf' hR' hlo' hls' (fun ad'' t g1 g2 g4 g3 => hq ad'' t (fun n hn => (g1 n (hup n hn)).trans (hag n hn)) g2 g4 g3) (fun X ad'' t g4 g1 g2 => hx X ad'' t g4 (fun n hn => (g1 n (hup n hn)).trans (hag n hn)) g2))
/-- a way that returns, as it is proved for the others -/
theorem awX.v {b : Bool} {E : awE} {M : awM} {pc : Nat} {lv : List (Nat × Value)} {st : List Value} {S : awS} {kc ks : Nat} {Q : Option Value → awS → Nat → Nat → Prop} (h : awX b E M pc lv st S kc ks (fun r S' mc ms => xK r = none ∧ Q r S' mc ms)) : awV b E M pc lv st S kc ks Q := by
  obtain ⟨r, S', mc, ms, ⟨hx, hQ⟩, h1, h2, hu, hk⟩ := h
  exact ⟨r, S', mc, ms, hQ, h1, h2, hu, fun p e R s m args below meth c hC hf hl hcc hss Qc XC H locs ad ls wf hR hlo hls hq _ => vx_ret (hk p e R s m args below meth c hC.1 hf hl hcc hss Qc H locs ad ls wf hR hlo hls (fun ad' t g1 g2 g3 => hq ad' t g1 g2 hx g3))⟩
