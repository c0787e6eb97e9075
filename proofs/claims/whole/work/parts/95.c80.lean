-- the double that the law gives: an int by an eighth
theorem dt_b64 : FP.Core.b64.tails = 4503599627370496 := by decide
theorem dx_b64 : FP.Core.b64.exps = 2048 := by decide
theorem bits_ok (n : Nat) (h : n % 9223372036854775808 ≤ 9218868437227405312) : FP.Core.decode FP.Core.b64 n ≠ .nan := by
  unfold FP.Core.decode
  by_cases h1 : FP.Core.fieldE FP.Core.b64 n = FP.Core.b64.exps - 1
  · have h2 : FP.Core.fieldT FP.Core.b64 n = 0 := by
      unfold FP.Core.fieldE at h1
      unfold FP.Core.fieldT
      rw [dt_b64, dx_b64] at h1
      rw [dt_b64]
      omega
    rw [if_pos h1, if_pos h2]
    intro z
    cases z
  · rw [if_neg h1]
    split
    · intro z; cases z
    · intro z; cases z
/-- a number or an infinity, within the format -/
def dOk (d : FP.Core.Datum) : Prop := (∃ s, d = .inf s) ∨ ∃ s c q, d = .fin s c q ∧ c < 9007199254740992 ∧ q ≤ 971
theorem enc_ok {d : FP.Core.Datum} (h : dOk d) : FP.Core.encode FP.Core.b64 d < 18446744073709551616 ∧ FP.Core.encode FP.Core.b64 d % 9223372036854775808 ≤ 9218868437227405312 := by
  rcases h with ⟨s, rfl⟩ | ⟨s, c, q, rfl, h1, h2⟩
  · cases s <;> decide
  · have hs : s.toNat ≤ 1 := by cases s <;> decide
    have e : FP.Core.encode FP.Core.b64 (.fin s c q) = if c < FP.Core.b64.tails then (s.toNat * FP.Core.b64.exps + 0) * FP.Core.b64.tails + c else (s.toNat * FP.Core.b64.exps + ((q - FP.Core.b64.qmin).toNat + 1)) * FP.Core.b64.tails + (c - FP.Core.b64.tails) := rfl
    have hm : FP.Core.b64.qmin = -1074 := by decide
    rw [e, dt_b64, dx_b64, hm]
    split
    · omega
    · omega
theorem round_ok {d : FP.Core.Datum} (h : d ≠ .nan) : dOk (FP.Core.round FP.Core.b64 d) := by
  have hb : ∀ s c q, c < 9007199254740992 → dOk (FP.Core.bound FP.Core.b64 s c q) := fun s c q hc => by
    unfold FP.Core.bound
    have hm : FP.Core.b64.qmax = 971 := by decide
    rw [hm]
    split
    · exact Or.inr ⟨s, c, q, rfl, hc, by assumption⟩
    · exact Or.inl ⟨s, rfl⟩
  cases d with
  | nan => exact absurd rfl h
  | inf s => exact Or.inl ⟨s, rfl⟩
  | fin s c q =>
    show dOk (FP.Core.roundRatio FP.Core.b64 s c 1 q)
    unfold FP.Core.roundRatio
    split
    · exact Or.inr ⟨s, 0, _, rfl, by decide, by decide⟩
    · unfold FP.Core.roundAt FP.Core.settle
      have h53 : 2 ^ FP.Core.b64.p = 9007199254740992 := by decide
      rw [h53]
      split
      · exact hb _ _ _ (by assumption)
      · exact hb _ _ _ (by rw [dt_b64]; decide)
theorem enc_nan {d : FP.Core.Datum} (h : dOk d) {a : UInt64} (e : a = .ofNat (FP.Core.encode FP.Core.b64 d)) : a.toNat % 9223372036854775808 ≤ 9218868437227405312 := by
  obtain ⟨h1, h2⟩ := enc_ok h
  rw [e, UInt64.toNat_ofNat', Nat.mod_eq_of_lt h1]
  exact h2
theorem i2d_ok (x : Int32) : FP.Core.decode FP.Core.b64 (FP.i2d x).toNat ≠ .nan := bits_ok _ (enc_nan (round_ok (d := FP.Core.ofInt x.toInt) (fun z => by cases z)) rfl)
theorem dmul_ok {a b : UInt64} (ha : FP.Core.decode FP.Core.b64 a.toNat ≠ .nan) {s : Bool} {d : Nat} {r : Int} (hb : FP.Core.decode FP.Core.b64 b.toNat = .fin s d r) (hd : ¬ d = 0) : vf_n64 (FP.dmul a b) := by
  have key : FP.Core.exactProduct (FP.Core.decode FP.Core.b64 a.toNat) (FP.Core.decode FP.Core.b64 b.toNat) ≠ .nan := by
    rw [hb]
    cases h : FP.Core.decode FP.Core.b64 a.toNat with
    | nan => exact absurd h ha
    | inf t =>
      unfold FP.Core.exactProduct
      dsimp only
      rw [if_neg hd]
      intro z
      cases z
    | fin t c q =>
      intro z
      cases z
  have k3 := enc_nan (round_ok key) (a := FP.dmul a b) rfl
  unfold vf_n64
  rw [UInt64.le_iff_toNat_le, UInt64.toNat_and]
  have e2 : (0x7fffffffffffffff : UInt64).toNat = 2 ^ 63 - 1 := by decide
  have e3 : (0x7ff0000000000000 : UInt64).toNat = 9218868437227405312 := by decide
  rw [e2, e3, Nat.and_two_pow_sub_one_eq_mod]
  exact k3
theorem eighth_ok (x : Int32) : vf_n64 (FP.dmul (FP.i2d x) 4593671619917905920) := dmul_ok (s := false) (d := 4503599627370496) (r := -55) (i2d_ok x) (by decide +kernel) (by decide)
