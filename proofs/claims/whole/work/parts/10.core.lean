/-! THE CALCULUS. A store S of columns by families of objects: the object i of family f is named nm f i. awX: what a method's frame does over such a store; awT: what a call of a method does. -/
def awBig : List Cond := lw_tbl.filter goodWord
theorem awBig_in {w : Cond} (h : w ∈ lw_tbl) (g : goodWord w = true) : w ∈ awBig := List.mem_filter.mpr ⟨h, g⟩
theorem awBig_tab {w : Cond} {n : Nat} (h : tables_1[n]? = some w) (g : goodWord w = true) : w ∈ awBig := awBig_in (List.mem_append_right _ (List.mem_of_getElem? h)) g
theorem awBig_sel {w : Cond} {n : Nat} (h : (k2_sels lw_privs)[n]? = some w) (g : goodWord w = true) : w ∈ awBig := awBig_in (List.mem_append_left _ (List.mem_of_getElem? h)) g
theorem awBig_good : ∀ w ∈ awBig, w ∈ awBig ∧ ((w.onTables && w.keeps) = true ∨ ∃ ty, w = .arrayClass ty) := fun w h => ⟨h, good_of_word (List.mem_filter.mp h).2⟩
theorem awBig_cons {w : Cond} (h : w ∈ awBig) : GoodIn awBig (w :: awBig) := fun v hv => (List.mem_cons.mp hv).elim (fun e => by rw [e]; exact awBig_good w h) (fun h => awBig_good v h)
-- the store
abbrev awS : Type := (Nat → Nat → Nat → Int32) × (Nat → Nat → Nat → Int64) × (Nat → Nat → Nat → Option Nat) × (Nat → Nat) × (Nat → Nat → Nat) × (Nat → Nat × (Nat → Nat))
def sI (S : awS) (f i k : Nat) : Int32 := S.1 f i k
def sL (S : awS) (f i k : Nat) : Int64 := S.2.1 f i k
def sR (S : awS) (f i k : Nat) : Option Nat := S.2.2.1 f i k
def sC (S : awS) (f : Nat) : Nat := S.2.2.2.1 f
def sN (S : awS) (f i : Nat) : Nat := S.2.2.2.2.1 f i
def sK (S : awS) (q : Nat) : Nat × (Nat → Nat) := S.2.2.2.2.2 q
def u3 {α : Type} (g : Nat → Nat → Nat → α) (f i k : Nat) (v : α) : Nat → Nat → Nat → α := fun f' i' k' => if f' = f ∧ i' = i ∧ k' = k then v else g f' i' k'
def wI (S : awS) (f i k : Nat) (v : Int32) : awS := (u3 S.1 f i k v, S.2)
def wL (S : awS) (f i k : Nat) (v : Int64) : awS := (S.1, u3 S.2.1 f i k v, S.2.2)
def wR (S : awS) (f i k : Nat) (v : Option Nat) : awS := (S.1, S.2.1, u3 S.2.2.1 f i k v, S.2.2.2)
def wK (S : awS) (q : Nat) (v : Nat × (Nat → Nat)) : awS := (S.1, S.2.1, S.2.2.1, S.2.2.2.1, S.2.2.2.2.1, fun q' => if q' = q then v else S.2.2.2.2.2 q')
/-- a new one of family f, with n places if it is a row -/
def wNew (S : awS) (f n : Nat) : awS := (fun f' i' k' => if f' = f ∧ i' = sC S f then 0 else S.1 f' i' k', fun f' i' k' => if f' = f ∧ i' = sC S f then 0 else S.2.1 f' i' k', fun f' i' k' => if f' = f ∧ i' = sC S f then none else S.2.2.1 f' i' k', fun f' => if f' = f then sC S f + 1 else S.2.2.2.1 f', fun f' i' => if f' = f ∧ i' = sC S f then n else S.2.2.2.2.1 f' i', S.2.2.2.2.2)
theorem sI_wI (S : awS) (f i k : Nat) (v : Int32) (f' i' k' : Nat) : sI (wI S f i k v) f' i' k' = if f' = f ∧ i' = i ∧ k' = k then v else sI S f' i' k' := rfl
theorem sI_wL (S : awS) (f i k : Nat) (v : Int64) (f' i' k' : Nat) : sI (wL S f i k v) f' i' k' = sI S f' i' k' := rfl
theorem sI_wR (S : awS) (f i k : Nat) (v : Option Nat) (f' i' k' : Nat) : sI (wR S f i k v) f' i' k' = sI S f' i' k' := rfl
theorem sI_wK (S : awS) (q : Nat) (v : Nat × (Nat → Nat)) (f' i' k' : Nat) : sI (wK S q v) f' i' k' = sI S f' i' k' := rfl
theorem sI_wN (S : awS) (f n : Nat) (f' i' k' : Nat) : sI (wNew S f n) f' i' k' = if f' = f ∧ i' = sC S f then 0 else sI S f' i' k' := rfl
theorem sL_wI (S : awS) (f i k : Nat) (v : Int32) (f' i' k' : Nat) : sL (wI S f i k v) f' i' k' = sL S f' i' k' := rfl
theorem sL_wL (S : awS) (f i k : Nat) (v : Int64) (f' i' k' : Nat) : sL (wL S f i k v) f' i' k' = if f' = f ∧ i' = i ∧ k' = k then v else sL S f' i' k' := rfl
theorem sL_wR (S : awS) (f i k : Nat) (v : Option Nat) (f' i' k' : Nat) : sL (wR S f i k v) f' i' k' = sL S f' i' k' := rfl
theorem sL_wK (S : awS) (q : Nat) (v : Nat × (Nat → Nat)) (f' i' k' : Nat) : sL (wK S q v) f' i' k' = sL S f' i' k' := rfl
theorem sL_wN (S : awS) (f n : Nat) (f' i' k' : Nat) : sL (wNew S f n) f' i' k' = if f' = f ∧ i' = sC S f then 0 else sL S f' i' k' := rfl
theorem sR_wI (S : awS) (f i k : Nat) (v : Int32) (f' i' k' : Nat) : sR (wI S f i k v) f' i' k' = sR S f' i' k' := rfl
theorem sR_wL (S : awS) (f i k : Nat) (v : Int64) (f' i' k' : Nat) : sR (wL S f i k v) f' i' k' = sR S f' i' k' := rfl
theorem sR_wR (S : awS) (f i k : Nat) (v : Option Nat) (f' i' k' : Nat) : sR (wR S f i k v) f' i' k' = if f' = f ∧ i' = i ∧ k' = k then v else sR S f' i' k' := rfl
theorem sR_wK (S : awS) (q : Nat) (v : Nat × (Nat → Nat)) (f' i' k' : Nat) : sR (wK S q v) f' i' k' = sR S f' i' k' := rfl
theorem sR_wN (S : awS) (f n : Nat) (f' i' k' : Nat) : sR (wNew S f n) f' i' k' = if f' = f ∧ i' = sC S f then none else sR S f' i' k' := rfl
theorem sC_wI (S : awS) (f i k : Nat) (v : Int32) (f' : Nat) : sC (wI S f i k v) f' = sC S f' := rfl
theorem sC_wL (S : awS) (f i k : Nat) (v : Int64) (f' : Nat) : sC (wL S f i k v) f' = sC S f' := rfl
theorem sC_wR (S : awS) (f i k : Nat) (v : Option Nat) (f' : Nat) : sC (wR S f i k v) f' = sC S f' := rfl
theorem sC_wK (S : awS) (q : Nat) (v : Nat × (Nat → Nat)) (f' : Nat) : sC (wK S q v) f' = sC S f' := rfl
theorem sC_wN (S : awS) (f n : Nat) (f' : Nat) : sC (wNew S f n) f' = if f' = f then sC S f + 1 else sC S f' := rfl
theorem sN_wI (S : awS) (f i k : Nat) (v : Int32) (f' i' : Nat) : sN (wI S f i k v) f' i' = sN S f' i' := rfl
theorem sN_wL (S : awS) (f i k : Nat) (v : Int64) (f' i' : Nat) : sN (wL S f i k v) f' i' = sN S f' i' := rfl
theorem sN_wR (S : awS) (f i k : Nat) (v : Option Nat) (f' i' : Nat) : sN (wR S f i k v) f' i' = sN S f' i' := rfl
theorem sN_wK (S : awS) (q : Nat) (v : Nat × (Nat → Nat)) (f' i' : Nat) : sN (wK S q v) f' i' = sN S f' i' := rfl
theorem sN_wN (S : awS) (f n : Nat) (f' i' : Nat) : sN (wNew S f n) f' i' = if f' = f ∧ i' = sC S f then n else sN S f' i' := rfl
theorem sK_wI (S : awS) (f i k : Nat) (v : Int32) (q' : Nat) : sK (wI S f i k v) q' = sK S q' := rfl
theorem sK_wL (S : awS) (f i k : Nat) (v : Int64) (q' : Nat) : sK (wL S f i k v) q' = sK S q' := rfl
theorem sK_wR (S : awS) (f i k : Nat) (v : Option Nat) (q' : Nat) : sK (wR S f i k v) q' = sK S q' := rfl
theorem sK_wK (S : awS) (q : Nat) (v : Nat × (Nat → Nat)) (q' : Nat) : sK (wK S q v) q' = if q' = q then v else sK S q' := rfl
theorem sK_wN (S : awS) (f n : Nat) (q' : Nat) : sK (wNew S f n) q' = sK S q' := rfl
-- names, families
def nm (f i : Nat) : Nat := f + 256 * i
theorem nm_f {f i : Nat} (h : f < 256) : nm f i % 256 = f := by unfold nm; omega
theorem nm_i {f i : Nat} (h : f < 256) : nm f i / 256 = i := by unfold nm; omega
theorem nm_eq {f i f' i' : Nat} (h : f < 256) (h' : f' < 256) : nm f i = nm f' i' ↔ f = f' ∧ i = i' := by
  constructor
  · intro e
    have h1 := nm_f (i := i) h
    have h2 := nm_i (i := i) h
    rw [e, nm_f h'] at h1
    rw [e, nm_i h'] at h2
    exact ⟨h1.symm, h2.symm⟩
  · rintro ⟨rfl, rfl⟩; rfl
theorem nm_self (n : Nat) : nm (n % 256) (n / 256) = n := by unfold nm; omega
/-- which kind a family is: up to 13 an object's number in vwCl; 20 int, 21 long, 22 boolean, 23 byte rows, 24 rows of Watch, 25 of Object, 26 of Board; 98 the one empty row of ArrayList; 97 the script -/
def fKl : List Nat := [99, 1, 2, 3, 4, 5, 6, 7, 8, 9, 10, 11, 12, 13, 99, 99, 21, 22, 24, 20, 20, 21, 22, 20, 20, 21, 20, 20, 20, 21, 26, 99, 0, 0, 0, 0, 0, 0, 0, 0, 0, 99, 99, 99, 99, 99, 99, 99, 25, 25, 25, 25, 25, 25, 25, 25, 25]
def fKm (k : Nat) : Nat := match tyX12 k with
  | .array .int => 20
  | .array .long => 21
  | .array .boolean => 22
  | .array .byte => 23
  | _ => 99
def fK (f : Nat) : Nat := if f < 57 then fKl.getD f 99 else if f = 125 then 96 else if f = 126 then 97 else if f = 127 then 98 else if 128 ≤ f ∧ f < 212 then fKm (f - 128) else 99
def oTy (c : Nat) : Nat → FieldType := match c with
  | 0 => tyJx4a65c | 1 => tyX0 | 2 => tyX1 | 3 => tyX2 | 4 => tyX3 | 5 => tyX4 | 6 => tyX5 | 7 => tyX6 | 8 => tyX7 | 9 => tyX8 | 10 => tyX9 | 11 => tyX10 | 12 => tyX11 | _ => tyX12
def oCl (c : Nat) : vw_C := vwCl.getD c (RX0, TX0, 13)
def tyK : FieldType → Nat
  | .long => 1
  | .object _ => 2
  | .array _ => 2
  | _ => 0
def fv (ad : Nat → Nat) (S : awS) (f i c k : Nat) : Value := match tyK (oTy c k) with
  | 1 => .long (sL S f i k)
  | 2 => va_rf ((sR S f i k).map ad)
  | _ => .int (sI S f i k)
def fs (ad : Nat → Nat) (S : awS) (f i c : Nat) : List Value := (List.range (oCl c).2.2).map (fv ad S f i c)
def awCell (DA : Nat → ClassId) (ad : Nat → Nat) (S : awS) (f i : Nat) : va_E := if fK f < 14 then .inr (fK f, fs ad S f i (fK f)) else match fK f with
  | 20 => .inl (DA 0, sN S f i, .inl (fun j => sI S f i j))
  | 21 => .inl (DA 1, sN S f i, .inr (.inl (fun j => sL S f i j)))
  | 22 => .inl (DA 2, sN S f i, .inl (fun j => sI S f i j))
  | 23 => .inl (DA 3, sN S f i, .inl (fun j => sI S f i j))
  | 24 => .inl (DA 4, sN S f i, .inr (.inr (.inr (.inr (fun j => (sR S f i j).map ad)))))
  | 26 => .inl (DA 6, sN S f i, .inr (.inr (.inr (.inr (fun j => (sR S f i j).map ad)))))
  | _ => .inl (DA 5, sN S f i, .inr (.inr (.inr (.inr (fun j => (sR S f i j).map ad)))))
def lvN (S : awS) (n : Nat) : Prop := n / 256 < sC S (n % 256)
theorem lvN_nm {S : awS} {f i : Nat} (h : f < 256) : lvN S (nm f i) ↔ i < sC S f := by unfold lvN; rw [nm_f h, nm_i h]
def lvV (S : awS) : Value → Prop
  | .ref n => lvN S n
  | _ => True
def rnv (ad : Nat → Nat) : Value → Value
  | .ref n => .ref (ad n)
  | v => v
theorem rnv_rf (ad : Nat → Nat) (r : Option Nat) : rnv ad (va_rf r) = va_rf (r.map ad) := by cases r <;> rfl
theorem rnv_cat (ad : Nat → Nat) (v : Value) : (rnv ad v).category = v.category := by cases v <;> rfl
def lvm (ad : Nat → Nat) (lv : List (Nat × Value)) : List (Nat × Value) := lv.map (fun q => (q.1, rnv ad q.2))
def nmE : Nat := nm 127 0
def nmS : Nat := nm 126 0
def nmC : Nat := nm 125 0
-- the surroundings: the launch, the heap below lo, the numbers of the tables, the empty row's address, the script
abbrev awE : Type := Launch × Nat × Heap × va_G × (Nat → ClassId) × Nat × Nat × Nat × (Nat → Int32) × Nat
abbrev awE_l (E : awE) : Launch := E.1
abbrev awE_lo (E : awE) : Nat := E.2.1
abbrev awE_H (E : awE) : Heap := E.2.2.1
abbrev awE_D (E : awE) : va_G := E.2.2.2.1
abbrev awE_A (E : awE) : Nat → ClassId := E.2.2.2.2.1
abbrev awE_e (E : awE) : Nat := E.2.2.2.2.2.1
abbrev awE_b (E : awE) : Nat := E.2.2.2.2.2.2.1
abbrev awE_n (E : awE) : Nat := E.2.2.2.2.2.2.2.1
abbrev awE_x (E : awE) : Nat → Int32 := E.2.2.2.2.2.2.2.2.1
abbrev awE_c (E : awE) : Nat := E.2.2.2.2.2.2.2.2.2
def awTys (DA : Nat → ClassId) : List (ClassId × FieldType) := [(DA 0, .int), (DA 1, .long), (DA 2, .boolean), (DA 3, .byte), (DA 4, .object "AlarmTower$Watch"), (DA 5, .object "java/lang/Object"), (DA 6, .object "AlarmTower$Board")]
/-- the heap H holds the store S, at the addresses ad (the lists as they lie) -/
def awR0 (E : awE) (S : awS) (ad : Nat → Nat) (H : Heap) : Prop :=
  (∀ q, q < awE_lo E → H[q]? = (awE_H E)[q]?) ∧ awE_lo E ≤ H.size ∧
  (∀ n, lvN S n → (n % 256 < 125 ∨ 127 < n % 256) → awE_lo E ≤ ad n ∧ va_at (awE_D E) vwCl (ad n, awCell (awE_A E) ad S (n % 256) (n / 256)) H) ∧
  (∀ n n', lvN S n → lvN S n' → (n % 256 < 125 ∨ 127 < n % 256) → (n' % 256 < 125 ∨ 127 < n' % 256) → ad n = ad n' → n = n') ∧
  (∀ f i k r, i < sC S f → sR S f i k = some r → lvN S r) ∧
  (ad nmE = awE_e E ∧ awE_e E < awE_lo E ∧ sC S 127 = 1) ∧ (ad nmS = awE_b E ∧ awE_b E < awE_lo E ∧ sC S 126 = 1) ∧ (ad nmC = awE_c E ∧ sC S 125 = 1)
/-- the lists hidden: what S says of them is what lies there -/
def awHid (S S0 : awS) : Prop :=
  (∀ f, ¬ (32 ≤ f ∧ f < 64) → (∀ i k, sI S0 f i k = sI S f i k) ∧ (∀ i k, sL S0 f i k = sL S f i k) ∧ (∀ i k, sR S0 f i k = sR S f i k) ∧ (∀ i, sN S0 f i = sN S f i)) ∧
  (∀ f, ¬ (48 ≤ f ∧ f < 64) → sC S0 f = sC S f) ∧ (∀ f, 48 ≤ f → f < 64 → sC S f = 0) ∧
  (∀ q, q < 9 → sC S (32 + q) = 1 → (sK S q).1 < 1000001 → sI S0 (32 + q) 0 2 = nI ((sK S q).1 % 1000000) ∧ (∀ j, j < (sK S q).1 → lvN S ((sK S q).2 j)) ∧
    (((sK S q).1 = 0 ∧ sR S0 (32 + q) 0 1 = some nmE ∨ (sK S q).1 = 1000000) ∨
      ∃ g, g < sC S0 (48 + q) ∧ sR S0 (32 + q) 0 1 = some (nm (48 + q) g) ∧ (sK S q).1 ≤ sN S0 (48 + q) g ∧ 10 ≤ sN S0 (48 + q) g ∧ sN S0 (48 + q) g ≤ 10 + 2 * (sK S q).1 ∧ (∀ j, j < (sK S q).1 → sR S0 (48 + q) g j = some ((sK S q).2 j)) ∧ ∀ j r, sR S0 (48 + q) g j = some r → fK (r % 256) < 14)) ∧
  (∀ f i k r, ¬ (32 ≤ f ∧ f < 64) → i < sC S f → sR S f i k = some r → lvN S r)
def awR (b : Bool) (E : awE) (S : awS) (ad : Nat → Nat) (H : Heap) : Prop := match b with
  | true => ∃ S0, awHid S S0 ∧ awR0 E S0 ad H
  | false => awR0 E S ad H
def nb (b : Bool) (f : Nat) : Bool := !b || !(decide (32 ≤ f) && decide (f < 64))
