-- what the reference does, as functions over its state (field numbers are put in by program)
def mN (M : aM) (k : Nat) : Nat := (mS M k).toNatClampNeg
def mE (M : aM) (k j : Nat) : Nat := (mA M k j).toNatClampNeg
def nN (x : Int32) : Nat := x.toNatClampNeg
/-- a step done for 0 .. n - 1, one after the other -/
def mIter {α : Type} (f : Nat → α → α) : Nat → α → α
  | 0, a => a
  | n + 1, a => f n (mIter f n a)
def mT0 (M : aM) : aM := pS M 0 0
def bI (p : Prop) [Decidable p] : Int32 := if p then 1 else 0
abbrev okSource (M : aM) (s : Int32) : Prop := 0 ≤ s ∧ s < mS M 2
abbrev okRule (M : aM) (r : Int32) : Prop := 0 ≤ r ∧ r < mS M 6
abbrev okHand (M : aM) (h : Int32) : Prop := 0 ≤ h ∧ h < mS M 52
abbrev okLetter (M : aM) (l : Int32) : Prop := 0 ≤ l ∧ l < mS M 63
abbrev okBoard (d : Int32) : Prop := 0 ≤ d ∧ d < 8
def mSource (M : aM) (w : Int32) : aM × Int32 :=
  if ¬ (0 ≤ w ∧ w ≤ 9) then (mT0 M, -1) else if mS M 2 = 16 then (mT0 M, -2) else
  (pS (pA (mT0 M) 3 (mN M 2) w) 2 (mS M 2 + 1), mS M 2 + 1 - 1)
abbrev ruleGood (M : aM) (what : Int32) (na : Int64) (nb how w : Int32) : Prop :=
  let k := what - what / 100 * 100; let n := what / 100; let p := how - how / 100 * 100; let e := how / 100 - how / 100 / 100 * 100; let g := how / 10000
  0 ≤ what ∧ (0 ≤ k ∧ k ≤ 6) ∧ (k < 2 ∨ 5 < k ∨ (1 ≤ n ∧ n ≤ 20)) ∧ (1 ≤ p ∧ p ≤ 10) ∧ (1 ≤ e ∧ e ≤ 10) ∧ (1 ≤ g ∧ g ≤ 5) ∧ (-1 ≤ w ∧ w ≤ 9) ∧ (¬ k = 1 ∨ nb.toInt64 ≤ na) ∧ (¬ k = 3 ∨ (1 ≤ nb ∧ nb ≤ 100)) ∧ (¬ k = 6 ∨ ((0 ≤ na ∧ na ≤ (mS M 6 - 1).toInt64) ∧ okRule M nb))
def mRuleM (M : aM) (what : Int32) (na : Int64) (nb how w : Int32) : aM :=
  let i := mN M 6
  pS (pA (pA (pA (pA (pA (pA (pL (pA (pA (mT0 M) 7 i (what - what / 100 * 100)) 8 i (what / 100)) 9 i na) 10 i nb) 11 i (how - how / 100 * 100)) 12 i (how / 100 - how / 100 / 100 * 100)) 13 i (how / 10000)) 14 i w) 15 i (mS M 1 + 1)) 6 (mS M 6 + 1)
def mRule (M : aM) (what : Int32) (na : Int64) (nb how w : Int32) : aM × Int32 :=
  if ¬ ruleGood M what na nb how w then (mT0 M, -1) else if mS M 6 = 16 then (mT0 M, -2) else (mRuleM M what na nb how w, mS M 6 + 1 - 1)
def mSilence (M : aM) (w r fr to hand : Int32) : aM × Int32 :=
  if ¬ ((-1 ≤ w ∧ w ≤ 9) ∧ (r = -1 ∨ okRule M r) ∧ (1 ≤ fr ∧ fr ≤ 1000) ∧ (fr ≤ to ∧ to ≤ 1000) ∧ okHand M hand) then (mT0 M, -1) else if mS M 25 = 20 then (mT0 M, -2) else
  (pS (pA (pA (pA (pA (mT0 M) 26 (mN M 25) w) 27 (mN M 25) r) 28 (mN M 25) fr) 29 (mN M 25) to) 25 (mS M 25 + 1), mS M 25 + 1 - 1)
def mMask (M : aM) (m : Int32) : aM × Int32 :=
  if ¬ (0 ≤ m ∧ m ≤ 7) then (mT0 M, -1) else if 0 < mS M 30 then (mT0 M, -3) else (pS (mT0 M) 43 m, 0)
def mWaits (M : aM) (f g e u : Int32) : aM × Int32 :=
  if ¬ ((0 ≤ f ∧ f ≤ 50) ∧ (1 ≤ g ∧ g ≤ 50) ∧ (1 ≤ e ∧ e ≤ 100) ∧ (1 ≤ u ∧ u ≤ 50)) then (mT0 M, -1) else (pS (pS (pS (pS (mT0 M) 44 f) 45 g) 46 e) 47 u, 0)
def mHand (M : aM) : aM × Int32 := if mS M 52 = 8 then (mT0 M, -2) else (pS (mT0 M) 52 (mS M 52 + 1), mS M 52 + 1 - 1)
def mShift (M : aM) (h fr pl st : Int32) : aM × Int32 :=
  if ¬ (okHand M h ∧ (0 ≤ fr ∧ fr ≤ 47) ∧ (1 ≤ pl ∧ pl ≤ 48) ∧ (0 ≤ st ∧ st ≤ 9)) then (mT0 M, -1) else if mS M 53 = 40 then (mT0 M, -2) else
  (pS (pA (pA (pA (pA (mT0 M) 54 (mN M 53) h) 55 (mN M 53) fr) 56 (mN M 53) pl) 57 (mN M 53) st) 53 (mS M 53 + 1), mS M 53 + 1 - 1)
def mSwap (M : aM) (o t fr to : Int32) : aM × Int32 :=
  if ¬ (okHand M o ∧ okHand M t ∧ ¬ o = t ∧ (1 ≤ fr ∧ fr ≤ 1000) ∧ (fr ≤ to ∧ to ≤ 1000)) then (mT0 M, -1) else if mS M 58 = 20 then (mT0 M, -2) else
  (pS (pA (pA (pA (pA (mT0 M) 59 (mN M 58) o) 60 (mN M 58) t) 61 (mN M 58) fr) 62 (mN M 58) to) 58 (mS M 58 + 1), mS M 58 + 1 - 1)
/-- the place of source s at tick t in the rows of values -/
def mVx (M : aM) (s : Int32) : Nat := 401 * nN s + mN M 1 + 1
abbrev dIn (v : UInt64) : Prop := ¬ (Op.cmpValue (FP.dcmp v 14009883241494872064) .l < 0) ∧ ¬ (0 < Op.cmpValue (FP.dcmp v 4786511204640096256) .g)
def mValue (M : aM) (s : Int32) (v : UInt64) : aM × Int32 :=
  if ¬ okSource M s then (mT0 M, -1) else if ¬ dIn v ∨ mS M 1 = 400 then (mT0 M, -2) else
  (pL (pA (mT0 M) 5 (mVx M s) 1) 4 (mVx M s) (FP.d2l v), if mA M 5 (mVx M s) = 0 then 1 else 0)
def mTear (M : aM) (s : Int32) : aM × Int32 :=
  if ¬ okSource M s then (mT0 M, -1) else if mS M 1 = 400 then (mT0 M, 0) else
  (pA (mT0 M) 5 (mVx M s) 0, if mA M 5 (mVx M s) = 0 then 0 else 1)
noncomputable def bC (p : Prop) : Int32 := @ite Int32 p (Classical.propDecidable p) 1 0
theorem bC_t {p : Prop} (h : p) : bC p = 1 := by unfold bC; exact if_pos h
theorem bC_f {p : Prop} (h : ¬ p) : bC p = 0 := by unfold bC; exact if_neg h
noncomputable def iC {α : Type} (p : Prop) (a b : α) : α := @ite α p (Classical.propDecidable p) a b
theorem iC_t {α : Type} {p : Prop} {a b : α} (h : p) : iC p a b = a := by unfold iC; exact if_pos h
theorem iC_f {α : Type} {p : Prop} {a b : α} (h : ¬ p) : iC p a b = b := by unfold iC; exact if_neg h
/-- the first below n with p, or n -/
noncomputable def mFst (p : Nat → Prop) : Nat → Nat
  | 0 => 0
  | n + 1 => if mFst p n < n then mFst p n else iC (p n) n (n + 1)
/-- whether r is held by that, over the holds told -/
def mReach0 (M : aM) (fr : Nat) : aM := mIter (fun r M => pA M 75 r (if r = fr then 1 else 0)) 16 M
def mReachK (M : aM) (k : Nat) : aM := pA M 75 (mE M 22 k) (if ¬ mA M 75 (mE M 22 k) = 0 ∨ ¬ mA M 75 (mE M 23 k) = 0 then 1 else 0)
def mHoldsAll (M : aM) (fr : Nat) : aM := mIter (fun _ M => mIter (fun k M => mReachK M k) (mN M 21) M) 16 (mReach0 M fr)
def mHold (M : aM) (r h how : Int32) : aM × Int32 :=
  if ¬ (okRule M r ∧ okRule M h ∧ ¬ r = h ∧ (0 ≤ how ∧ how ≤ 2)) then (mT0 M, -1) else if mS M 21 = 40 then (mT0 M, -2) else
  let M1 := mHoldsAll (mT0 M) (nN r)
  if ¬ mA M1 75 (nN h) = 0 then (M1, -3) else
  (pS (pA (pA (pA M1 22 (mN M1 21) r) 23 (mN M1 21) h) 24 (mN M1 21) how) 21 (mS M1 21 + 1), 0)
-- values
def mHas (M : aM) (s t : Nat) : Prop := 0 < t ∧ ¬ mA M 5 (401 * s + t) = 0
def mVal (M : aM) (s t : Nat) : Int64 := mL M 4 (401 * s + t)
/-- how many of the latest n ticks up to t have a value (with ab: above th) -/
noncomputable def mCnt (M : aM) (s : Nat) (ab : Prop) (th : Int64) : Nat → Nat → Nat
  | _, 0 => 0
  | 0, _ + 1 => 0
  | t + 1, n + 1 => mCnt M s ab th t n + iC (mHas M s (t + 1) ∧ (ab → th < mVal M s (t + 1))) 1 0
def mPart (M : aM) (r s t n : Nat) : Prop := mA M 10 r * nI (mCnt M s False 0 t n) ≤ 100 * nI (mCnt M s True (mL M 9 r) t n)
/-- of the ticks t, t - 1, .. (n of them, above 0): how many have a value that stands ahead of that of k -/
noncomputable def mAhead (M : aM) (s k : Nat) : Nat → Nat → Nat
  | _, 0 => 0
  | 0, _ + 1 => 0
  | t + 1, n + 1 => mAhead M s k t n + iC (mHas M s (t + 1) ∧ (mVal M s (t + 1) < mVal M s k ∨ (mVal M s (t + 1) = mVal M s k ∧ t + 1 < k))) 1 0
noncomputable def mMidGo (M : aM) (s t n c : Nat) : Nat → Nat → Int64 → Int64
  | _, 0, a => a
  | 0, _ + 1, a => a
  | k + 1, m + 1, a => mMidGo M s t n c k m (iC (mHas M s (k + 1) ∧ mAhead M s (k + 1) t n = c) (mVal M s (k + 1)) a)
noncomputable def mMid (M : aM) (s t n many : Nat) : Int64 := mMidGo M s (t - 1) n ((many - 1) / 2) (t - 1) n 0
noncomputable def mOdd (M : aM) (r s t : Nat) (v : Int64) : Int32 :=
  let many := mCnt M s False 0 (t - 1) (mE M 8 r)
  if many < 3 then 0 else
  let y := v - mMid M s t (mE M 8 r) many
  let most := if mL M 9 r < 0 then 0 else mL M 9 r
  if most < y ∨ most < -y then 1 else 0
def mBoth (x y : Int32) : Int32 := if x = 1 ∧ y = 1 then 1 else if x = 0 ∨ y = 0 then 0 else -1
def mTru (M : aM) (r s t : Nat) : Int32 := mA M 16 (401 * (16 * r + s) + t) - 1
noncomputable def mFound (M : aM) (r s t : Nat) : Int32 :=
  if 0 ≤ mA M 14 r ∧ ¬ mA M 14 r = mA M 3 s then -1 else
  if mA M 7 r = 4 then (if mCnt M s False 0 t (mE M 8 r) = 0 then 1 else 0) else
  if mA M 7 r = 6 then mBoth (mTru M (mL M 9 r).toInt32.toNatClampNeg s t) (mTru M (mE M 10 r) s t) else
  iC (mHas M s t) (
    let v := mVal M s t
    if mA M 7 r = 0 then (if mL M 9 r < v then 1 else 0) else
    if mA M 7 r = 1 then (if mL M 9 r < v ∨ ((mA M 10 r).toInt64 ≤ v ∧ mA M 17 (16 * r + s) = 1) then 1 else 0) else
    if mA M 7 r = 2 then iC (mHas M s (t - mE M 8 r)) (if mL M 9 r < v - mVal M s (t - mE M 8 r) then 1 else 0) (-1) else
    if mA M 7 r = 3 then bC (mPart M r s t (mE M 8 r) ∧ mPart M r s t (2 * mE M 8 r)) else
    mOdd M r s t v) (-1)
-- alarms
def mSame (M : aM) (r s g : Nat) : Prop :=
  let x := mE M 49 g
  (mS M 43 &&& 1 = 0 ∨ mA M 3 (mE M 32 x) = mA M 3 s) ∧ (mS M 43 &&& 2 = 0 ∨ mA M 31 x = nI r) ∧ (mS M 43 &&& 4 = 0 ∨ mA M 13 (mE M 31 x) = mA M 13 r)
noncomputable def mGrpI (M : aM) (r s : Nat) : Nat := mFst (mSame M r s) (mN M 48)
noncomputable def mGrp (M : aM) (r s : Nat) : aM :=
  if mGrpI M r s < mN M 48 then M else pS (pA (pA (pA M 49 (mN M 48) (mS M 30)) 50 (mN M 48) 0) 51 (mN M 48) 0) 48 (mS M 48 + 1)
def mBeginA (M : aM) (r s t g : Nat) : aM :=
  let i := mN M 30
  pS (pA (pA (pA (pA (pA (pA (pA (pA (pA (pA (pA (pA (pA M 31 i (nI r)) 32 i (nI s)) 33 i (nI t)) 34 i 0) 35 i 0) 36 i 0) 37 i 0) 38 i 0) 39 i 0) 40 i 0) 41 i 0) 42 i (nI g)) 20 (16 * r + s) (nI i)) 30 (nI (i + 1))
noncomputable def mBegin (M : aM) (r s t : Nat) : aM := mBeginA (mGrp M r s) r s t (mGrpI M r s)
def mNote (M : aM) (x : Nat) (t : Nat) (v : Int32) : aM :=
  let M := pA M 16 (401 * x + t) (v + 1)
  let M := pA M 17 x (if v < 0 then mA M 17 x else v)
  if v = 1 then pA (pA M 18 x (mA M 18 x + 1)) 19 x 0 else if v = 0 then pA (pA M 19 x (mA M 19 x + 1)) 18 x 0 else M
noncomputable def mTurn (M : aM) (r s t : Nat) : aM :=
  let x := 16 * r + s
  if mA M 20 x < 0 then (if mA M 11 r ≤ mA M 18 x ∧ mS M 30 < 300 then mBegin M r s t else M)
  else if mA M 12 r ≤ mA M 19 x then pA (pA M 34 (mE M 20 x) (nI t)) 20 x (-1) else M
noncomputable def mJudge (M : aM) (r s t : Nat) : aM := mTurn (mNote M (16 * r + s) t (mFound M r s t)) r s t
def mHeldK (M : aM) (x k y : Nat) : Prop := mA M 34 y = 0 ∧ mA M 31 y = mA M 23 k ∧
  (mA M 24 k = 0 ∨ (mA M 24 k = 1 ∧ mA M 3 (mE M 32 y) = mA M 3 (mE M 32 x)) ∨ (¬ mA M 24 k = 0 ∧ ¬ mA M 24 k = 1 ∧ mA M 32 y = mA M 32 x))
def mHeld (M : aM) (x : Nat) : Prop := ∃ k, k < mN M 21 ∧ mA M 22 k = mA M 31 x ∧ ∃ y, y < mN M 30 ∧ mHeldK M x k y
def mSil (M : aM) (x t : Nat) : Prop := ∃ k, k < mN M 25 ∧ (mA M 26 k < 0 ∨ mA M 26 k = mA M 3 (mE M 32 x)) ∧ (mA M 27 k < 0 ∨ mA M 27 k = mA M 31 x) ∧ mA M 28 k ≤ nI t ∧ nI t ≤ mA M 29 k
noncomputable def mClearX (M : aM) (t x : Nat) : aM :=
  let M := pA M 35 x (bC (mA M 34 x = 0 ∧ mHeld M x))
  let M := pA M 36 x (bC (mA M 34 x = 0 ∧ mSil M x t))
  if ¬ mA M 34 x = 0 ∨ ¬ mA M 35 x = 0 ∨ ¬ mA M 36 x = 0 then pA (pA M 37 x 0) 39 x 0 else if mA M 37 x = 0 then pA (pA M 37 x (nI t)) 39 x 1 else M
noncomputable def mClear (M : aM) (t : Nat) : aM := mIter (fun x M => mClearX M t x) (mN M 30) M
-- who is awake
def mSwapK (M : aM) (t k : Nat) : aM :=
  if mA M 61 k ≤ nI t ∧ nI t ≤ mA M 62 k then pA (pA M 76 (mE M 59 k) (mA M 76 (mE M 60 k))) 76 (mE M 60 k) (mA M 76 (mE M 59 k)) else M
def mPlace (M : aM) (t : Nat) : aM := mIter (fun k M => mSwapK M t k) (mN M 58) (mIter (fun h M => pA M 76 h (nI h)) 8 M)
def mInK (M : aM) (h t k : Nat) : Prop := mA M 54 k = mA M 76 h ∧ ((t % 48 + 48 - mE M 55 k) % 48 : Nat) < mE M 56 k
noncomputable def mStep (M : aM) (h t : Nat) : Nat → Int32
  | 0 => 10
  | k + 1 => iC (mInK M h t k ∧ mA M 57 k < mStep M h t k) (mA M 57 k) (mStep M h t k)
noncomputable def mWakeH (t st h : Nat) (M : aM) : aM := if mStep M h t (mN M 53) = nI st then pS (pA M 77 (mN M 78) (nI h)) 78 (mS M 78 + 1) else M
noncomputable def mWake (M : aM) (t : Nat) : aM := mIter (fun st M => mIter (fun h M => mWakeH t st h M) (mN M 52) M) 10 (pS (mPlace M t) 78 0)
-- letters
def mAny (M : aM) (g : Nat) (p : Nat → Prop) : Prop := ∃ x, x < mN M 30 ∧ mA M 42 x = nI g ∧ mA M 34 x = 0 ∧ p x
noncomputable def mReason (M : aM) (g t : Nat) : Int32 :=
  if mA M 51 g = 0 then iC (mAny M g (fun x => ¬ mA M 39 x = 0 ∧ mA M 37 x ≤ nI t - mS M 44)) 1 0 else
  iC (mAny M g (fun x => ¬ mA M 39 x = 0) ∧ mA M 50 g + mS M 45 ≤ nI t) 2 (
  iC (mAny M g (fun x => 0 < mA M 37 x) ∧ mA M 50 g + mS M 46 ≤ nI t) 3 (
  iC (mAny M g (fun _ => True)) 0 4))
def mWrite (M : aM) (l x : Nat) : aM :=
  if mA M 67 l = 40 then M else
  let M := pA M 68 (40 * l + mE M 67 l) (nI x)
  let M := pA M 67 l (mA M 67 l + 1)
  let M := pA M 38 x (mA M 38 x + 1)
  let M := pA M 39 x 0
  if mA M 34 x = 0 then pA M 40 x 1 else pA M 41 x 1
def mSend1 (g l x : Nat) (M : aM) : aM := if mA M 42 x = nI g ∧ 0 < mA M 37 x then mWrite M l x else M
def mSend2 (g l x : Nat) (M : aM) : aM := if mA M 42 x = nI g ∧ 0 < mA M 34 x ∧ ¬ mA M 40 x = 0 ∧ mA M 41 x = 0 then mWrite M l x else M
def mSendA (M : aM) (g t : Nat) (why : Int32) : aM :=
  let l := mN M 63
  pA (pA (pA (pA (pS M 63 (nI (l + 1))) 64 l (nI t)) 65 l (nI g)) 66 l why) 67 l 0
noncomputable def mSendB (M : aM) (g l : Nat) : aM := mIter (mSend2 g l) (mN M 30) (mIter (mSend1 g l) (mN M 30) M)
def mSendC (M : aM) (l : Nat) : aM := mIter (fun i M => pA M 70 (8 * l + i) (mA M 77 i)) (mN M 78) (pA M 69 l (mS M 78))
def mSendD (M : aM) (g t l : Nat) (why : Int32) : aM := pA (pA (pA (pA (pA (pA M 71 l 0) 72 l (nI t)) 73 l (-2)) 74 l 0) 50 g (nI t)) 51 g (if why = 4 then 0 else 1)
noncomputable def mSend (M : aM) (g t : Nat) (why : Int32) : aM :=
  let l := mN M 63
  mSendD (mSendC (mWake (mSendB (mSendA M g t why) g l) t) l) g t l why
def mUpL (t l : Nat) (M : aM) : aM := if mA M 73 l < 0 ∧ mA M 71 l < mA M 69 l ∧ mA M 72 l + mS M 47 ≤ nI t then pA (pA M 71 l (mA M 71 l + 1)) 72 l (nI t) else M
def mUp (M : aM) (t : Nat) : aM := mIter (mUpL t) (mN M 63) M
noncomputable def mGrpT (t g : Nat) (M : aM) : aM := let why := mReason M g t; if 0 < why ∧ mS M 63 < 200 then mSend M g t why else M
noncomputable def mTickM (M : aM) (t : Nat) : aM :=
  let M := mIter (fun r M => mIter (fun s M => mJudge M r s t) (mN M 2) M) (mN M 6) M
  let M := mUp (mClear M t) t
  pS (mIter (mGrpT t) (mN M 48) M) 1 (nI t)
noncomputable def mTickR (M : aM) (t : Nat) : Int32 :=
  let M0 := mIter (fun r M => mIter (fun s M => mJudge M r s t) (mN M 2) M) (mN M 6) M
  mS (mTickM M t) 63 - mS (mUp (mClear M0 t) t) 63
noncomputable def mTick (M : aM) : aM × Int32 := if mS M 1 = 400 then (mT0 M, -2) else (mTickM (mT0 M) (mN M 1 + 1), mTickR (mT0 M) (mN M 1 + 1))
-- asked
def mTruth (M : aM) (r s : Int32) : aM × Int32 := if ¬ (okRule M r ∧ okSource M s) then (mT0 M, -2) else if mS M 1 = 0 then (mT0 M, -3) else (mT0 M, mTru M (nN r) (nN s) (mN M 1))
def mCounts (M : aM) (r s w : Int32) : aM × Int32 := if ¬ (okRule M r ∧ okSource M s ∧ (0 ≤ w ∧ w ≤ 2)) then (mT0 M, -1) else
  let x := 16 * nN r + nN s
  if w = 0 then (mT0 M, mA M 18 x) else if w = 1 then (mT0 M, mA M 19 x) else if mA M 20 x < 0 then (mT0 M, -2) else (mT0 M, mA M 20 x)
def mAlarm (M : aM) (x w : Int32) : aM × Int32 := if ¬ (0 ≤ x ∧ x < mS M 30) then (mT0 M, -1) else
  let i := nN x
  if w = 0 then (mT0 M, mA M 31 i) else if w = 1 then (mT0 M, mA M 32 i) else if w = 2 then (mT0 M, mA M 33 i) else if w = 3 then (mT0 M, mA M 34 i) else if w = 4 then (mT0 M, mA M 13 (mE M 31 i)) else
  if w = 5 then (mT0 M, if mA M 35 i = 0 then 0 else 1) else if w = 6 then (mT0 M, if mA M 36 i = 0 then 0 else 1) else if w = 7 then (mT0 M, mA M 37 i) else if w = 8 then (mT0 M, mA M 38 i) else (mT0 M, -1)
def mLetter (M : aM) (l w : Int32) : aM × Int32 := if ¬ okLetter M l then (mT0 M, -1) else
  let i := nN l
  if w = 0 then (mT0 M, mA M 64 i) else if w = 1 then (mT0 M, if mA M 67 i = 0 then -2 else mA M 68 (40 * i)) else if w = 2 then (mT0 M, mA M 67 i) else
  if w = 3 then (mT0 M, if mA M 71 i < mA M 69 i then mA M 70 (8 * i + mE M 71 i) else -2) else if w = 4 then (mT0 M, mA M 72 i) else if w = 5 then (mT0 M, mA M 73 i) else if w = 6 then (mT0 M, mA M 74 i) else
  if w = 7 then (mT0 M, mA M 69 i) else if w = 8 then (mT0 M, if mA M 66 i = 4 then 1 else 0) else (mT0 M, -1)
def mHolds (M : aM) (l i : Int32) : aM × Int32 := if ¬ okLetter M l ∨ i < 0 ∨ mA M 67 (nN l) ≤ i then (mT0 M, -1) else (mT0 M, mA M 68 (40 * nN l + nN i))
def mWhy (M : aM) (l : Int32) : aM × Int32 := if okLetter M l then (mT0 M, mA M 66 (nN l)) else (mT0 M, -1)
def mWhyNot (M : aM) (r s : Int32) : aM × Int32 := if ¬ (okRule M r ∧ okSource M s) then (mT0 M, -1) else
  let y := 16 * nN r + nN s; let x := mE M 20 y
  if mA M 20 y < 0 then (mT0 M, if 0 < mA M 18 y then 1 else 0) else (mT0 M, if ¬ mA M 35 x = 0 then 2 else if ¬ mA M 36 x = 0 then 3 else if ¬ mA M 39 x = 0 then 5 else 4)
noncomputable def mAwake (M : aM) (t i : Int32) : aM × Int32 := if ¬ (1 ≤ t ∧ t ≤ 1000) ∨ i < 0 then (mT0 M, -1) else
  let M1 := mWake (mT0 M) (nN t)
  (M1, if i < mS M1 78 then mA M1 77 (nN i) else -2)
def mWent (M : aM) (l : Nat) (h : Int32) : Prop := mA M 69 l ≤ mA M 71 l ∨ ∃ i : Nat, nI i ≤ mA M 71 l ∧ nI i < mA M 69 l ∧ i < 8 ∧ mA M 70 (8 * l + i) = h
noncomputable def mAnswer (M : aM) (l h : Int32) : aM × Int32 := if ¬ (okLetter M l ∧ okHand M h) then (mT0 M, -1) else
  iC (¬ mWent M (nN l) h) (mT0 M, -2) (if 0 ≤ mA M 73 (nN l) then (mT0 M, -3) else
  let at_ := mS M 1 + 1; let g := mE M 65 (nN l)
  (pA (pA (pA (mT0 M) 73 (nN l) h) 74 (nN l) at_) 50 g (if mA M 50 g < at_ then at_ else mA M 50 g), 0))
noncomputable def mCntP (p : Nat → Prop) : Nat → Nat
  | 0 => 0
  | n + 1 => mCntP p n + iC (p n) 1 0
noncomputable def mNoise (M : aM) (h : Int32) : aM × Int32 := if ¬ okHand M h then (mT0 M, -1) else (mT0 M, nI (mCntP (fun l => mWent M l h) (mN M 63)))
def mFlapX (M : aM) (r n : Int32) (x : Nat) : Nat := if mA M 31 x = r then (if mS M 1 - n < mA M 33 x then 1 else 0) + (if 0 < mA M 34 x ∧ mS M 1 - n < mA M 34 x then 1 else 0) else 0
def mSum (f : Nat → Nat) : Nat → Nat
  | 0 => 0
  | n + 1 => mSum f n + f n
def mFlap (M : aM) (r n : Int32) : aM × Int32 := if ¬ (okRule M r ∧ (1 ≤ n ∧ n ≤ 2000)) then (mT0 M, -1) else (mT0 M, nI (mSum (mFlapX M r n) (mN M 30)))
/-- one tick of least: (yes, no, lasts, many) -/
def mLeastT (p e v : Int32) (a : Int32 × Int32 × Bool × Nat) : Int32 × Int32 × Bool × Nat :=
  let yes := if v = 1 then a.1 + 1 else if v = 0 then 0 else a.1
  let no := if v = 0 then a.2.1 + 1 else if v = 1 then 0 else a.2.1
  if a.2.2.1 = false ∧ p ≤ yes then (yes, no, true, a.2.2.2 + 1) else if a.2.2.1 = true ∧ e ≤ no then (yes, no, false, a.2.2.2) else (yes, no, a.2.2.1, a.2.2.2)
def mLeastS (M : aM) (r : Nat) (p : Int32) (s m : Nat) : Nat :=
  (mIter (fun j a => mLeastT p (mA M 12 r) (mTru M r s (mE M 15 r + j)) a) (mN M 1 + 1 - mE M 15 r) ((0 : Int32), (0 : Int32), false, m)).2.2.2
def mLeast (M : aM) (r p : Int32) : aM × Int32 := if ¬ (okRule M r ∧ (1 ≤ p ∧ p ≤ 10)) then (mT0 M, -1) else (mT0 M, nI (mIter (fun s m => mLeastS M (nN r) p s m) (mN M 2) 0))
noncomputable def mCount (M : aM) (w : Int32) : aM × Int32 := (mT0 M,
  if w = 0 then mS M 2 else if w = 1 then mS M 6 else if w = 2 then mS M 52 else if w = 3 then mS M 1 else if w = 4 then mS M 30 else
  if w = 5 then nI (mCntP (fun x => mA M 34 x = 0) (mN M 30)) else if w = 6 then mS M 63 else if w = 7 then nI (mCntP (fun l => mA M 73 l < 0) (mN M 63)) else if w = 8 then mS M 48 else -1)
-- boards
noncomputable def mKeepI (d k : Nat) (what : Int32) (i : Nat) (M : aM) : aM :=
  let t := mN M 1 + 1 + i - mE M 80 d
  pL M 82 (60 * d + i) (iC (¬ mHas M k t) 0 (if what = 3 then mVal M k t else 1))
noncomputable def mKeep (M : aM) (d what k : Int32) : aM × Int32 :=
  if ¬ (okBoard d ∧ (0 ≤ what ∧ what ≤ 4) ∧ (¬ what = 1 ∨ (0 ≤ k ∧ k ≤ mS M 30 - 1)) ∧ (what < 3 ∨ okSource M k)) then (mT0 M, -1) else
  let M := pA (pA (pA (mT0 M) 79 (nN d) what) 81 (nN d) k) 80 (nN d) (if what < 3 then 0 else if mS M 1 < 60 then mS M 1 else 60)
  (mIter (mKeepI (nN d) (nN k) what) (mE M 80 (nN d)) M, 0)
def mMake (M : aM) (d what n : Int32) : aM × Int32 :=
  if ¬ (okBoard d ∧ (3 ≤ what ∧ what ≤ 4)) ∨ 60 < n then (mT0 M, -1) else if n < 0 then (mT0 M, -14) else
  (mIter (fun i M => pL M 82 (60 * nN d + i) 0) (nN n) (pA (pA (mT0 M) 79 (nN d) what) 80 (nN d) n), 0)
abbrev elGood (M : aM) (d i : Int32) : Prop := okBoard d ∧ 2 < mA M 79 (nN d) ∧ (0 ≤ i ∧ i ≤ mA M 80 (nN d) - 1)
def mElement (M : aM) (d i : Int32) : aM × Int64 := (pS M 0 (if ¬ okBoard d then 1 else if elGood M d i then 0 else 2), if elGood M d i then mL M 82 (60 * nN d + nN i) else 0)
abbrev hasPl (M : aM) (d i n : Int32) : Prop := 0 ≤ n ∧ 0 ≤ i ∧ i ≤ mA M 80 (nN d) ∧ n ≤ mA M 80 (nN d) - i
def mCopyM (M : aM) (d i e j n : Nat) : aM :=
  mIter (fun x M => pL M 82 (60 * e + j + x) (mL M 83 x)) n (mIter (fun x M => pL M 83 x (mL M 82 (60 * d + i + x))) n M)
def mCopy (M : aM) (d i e j n : Int32) : aM × Int32 :=
  if ¬ (okBoard d ∧ okBoard e) then (mT0 M, -1) else if mA M 79 (nN d) = 0 ∨ mA M 79 (nN e) = 0 then (mT0 M, -11) else if mA M 79 (nN d) < 3 ∨ ¬ mA M 79 (nN d) = mA M 79 (nN e) then (mT0 M, -12) else
  if ¬ (hasPl M d i n ∧ hasPl M e j n) then (mT0 M, -13) else (mCopyM (mT0 M) (nN d) (nN i) (nN e) (nN j) (nN n), n)
def mDenied (M : aM) (d : Int32) : Int32 := if ¬ okBoard d then -1 else if mA M 79 (nN d) = 0 then -11 else if 1 < mA M 79 (nN d) then -12 else 0
def mWeight (M : aM) (d : Int32) : aM × Int32 := if mDenied M d < 0 then (mT0 M, mDenied M d) else
  let r := mE M 31 (mE M 81 (nN d)); let k := mA M 7 r
  (mT0 M, 10 * mA M 13 r + k + (if 0 < k then 100 else 0) + (if k = 3 ∨ k = 5 then 1000 else 0))
def mToss (M : aM) (d : Int32) : aM × Int32 := if mDenied M d < 0 then (mT0 M, mDenied M d) else
  let r := mE M 31 (mE M 81 (nN d))
  (mT0 M, if mA M 7 r = 0 then -15 else mA M 31 (mE M 81 (nN d)))
-- what holds of the reference's state at all times: the ranges of what is used as an index
abbrev rgS (M : aM) (k b : Nat) : Prop := mS M k = nI (mN M k) ∧ mN M k ≤ b
abbrev rgA (M : aM) (k n b : Nat) : Prop := ∀ j, j < n → mA M k j = nI (mE M k j) ∧ mE M k j < b
theorem nI_cl {n : Nat} (h : n < 2 ^ 31) : (nI n).toNatClampNeg = n := nI_clamp h
theorem rg_of {x : Int32} {n : Nat} (h0 : 0 ≤ x) (h : x < nI n) (hn : n < 2 ^ 31) : x = nI (nN x) ∧ nN x < n := by
  obtain ⟨j, hj, e⟩ := vp_in_of (x := x) (n := n) (by rw [vp_in_iff]; rw [Int32.lt_iff_toInt_lt, nI_toInt hn] at h; rw [Int32.le_iff_toInt_le] at h0; exact ⟨h0, h⟩) hn
  subst e
  unfold nN
  rw [nI_clamp (by omega)]
  exact ⟨rfl, hj⟩
theorem rg_lt {x y : Int32} {k : Nat} (h0 : 0 ≤ x) (h : x < y) (hy : y = nI k) (hk : k < 2 ^ 31) : x = nI (nN x) ∧ nN x < k := rg_of h0 (hy ▸ h) hk
theorem vin_e {x : Int32} {n N : Nat} (e : x = nI n) (h : n < N) (hN : N < 2 ^ 31) : vp_in x N := by rw [e]; exact vp_in_nI h hN
theorem vin_s {M : aM} {k b N : Nat} {B : Int32} (h : rgS M k b) (c : ¬ mS M k = B) (hB : B = nI b) (hb : b ≤ N) (hN : N < 2 ^ 31) : vp_in (mS M k) N := by
  refine vin_e h.1 ?_ hN
  have h2 := h.2
  have : mN M k ≠ b := fun z => c (by rw [h.1, z, hB])
  omega
