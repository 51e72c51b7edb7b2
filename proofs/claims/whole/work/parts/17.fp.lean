/-! doubles: what comes out of ints is no NaN -/
theorem zf_n64 {r : UInt64} (h : Jvm.FP.Core.val64 r ≠ .nan) : vf_n64 r := by
  unfold Jvm.FP.Core.val64 Jvm.FP.Core.decode at h
  unfold vf_n64
  rw [UInt64.le_iff_toNat_le, UInt64.toNat_and]
  have e1 : (0x7fffffffffffffff : UInt64).toNat = 2 ^ 63 - 1 := by decide
  have e2 : (0x7ff0000000000000 : UInt64).toNat = 9218868437227405312 := by decide
  rw [e1, e2, Nat.and_two_pow_sub_one_eq_mod]
  have t1 : Jvm.FP.Core.Fmt.tails Jvm.FP.Core.b64 = 4503599627370496 := by decide
  have t2 : Jvm.FP.Core.Fmt.exps Jvm.FP.Core.b64 = 2048 := by decide
  unfold Jvm.FP.Core.fieldE Jvm.FP.Core.fieldT at h
  rw [t1, t2] at h
  by_cases hE : r.toNat / 4503599627370496 % 2048 = 2048 - 1
  · rw [if_pos hE] at h
    by_cases hT : r.toNat % 4503599627370496 = 0
    · omega
    · rw [if_neg hT] at h
      exact absurd rfl h
  · omega
theorem zf_bound (f : Jvm.FP.Core.Fmt) (s : Bool) (c : Nat) (q : Int) : Jvm.FP.Core.bound f s c q ≠ .nan := by
  unfold Jvm.FP.Core.bound
  split <;> exact fun h => by cases h
theorem zf_ratio (f : Jvm.FP.Core.Fmt) (s : Bool) (a b : Nat) (e : Int) : Jvm.FP.Core.roundRatio f s a b e ≠ .nan := by
  unfold Jvm.FP.Core.roundRatio
  split
  · exact fun h => by cases h
  · unfold Jvm.FP.Core.roundAt Jvm.FP.Core.settle
    split
    · exact zf_bound _ _ _ _
    · exact zf_bound _ _ _ _
theorem zf_round {f : Jvm.FP.Core.Fmt} {d : Jvm.FP.Core.Datum} (h : d ≠ .nan) : Jvm.FP.Core.round f d ≠ .nan := by
  cases d with
  | nan => exact absurd rfl h
  | inf s => exact fun q => by cases q
  | fin s c q => exact zf_ratio _ _ _ _ _
theorem zf_i2d (x : Int32) : Jvm.FP.Core.val64 (FP.i2d x) ≠ .nan := by
  have e : Jvm.FP.Core.val64 (FP.i2d x) = Jvm.FP.Core.round Jvm.FP.Core.b64 (Jvm.FP.Core.ofInt x.toInt) := Jvm.FP.Core.val64_i2d x
  rw [e]
  exact zf_round (fun h => by cases h)
def zf_half : UInt64 := 4602678819172646912
theorem zf_dmul (x : Int32) : Jvm.FP.Core.val64 (FP.dmul (FP.i2d x) zf_half) ≠ .nan := by
  have e : Jvm.FP.Core.val64 (FP.dmul (FP.i2d x) zf_half) = Jvm.FP.Core.round Jvm.FP.Core.b64 (Jvm.FP.Core.exactProduct (Jvm.FP.Core.val64 (FP.i2d x)) (Jvm.FP.Core.val64 zf_half)) := Jvm.FP.Core.val64_dmul _ _
  have hh : Jvm.FP.Core.val64 zf_half = .fin false 4503599627370496 (-53) := by decide +kernel
  rw [e, hh]
  apply zf_round
  have hx := zf_i2d x
  cases h : Jvm.FP.Core.val64 (FP.i2d x) with
  | nan => exact absurd h hx
  | inf s =>
    show (if (4503599627370496 : Nat) = 0 then Jvm.FP.Core.Datum.nan else .inf (s != false)) ≠ .nan
    rw [if_neg (by decide)]
    exact fun q => by cases q
  | fin s c q => exact fun q => by cases q
theorem zf_ddiv : ∀ a, a < 17 → ∀ b, b < 17 → b ≠ 0 → Jvm.FP.Core.val64 (FP.ddiv (FP.i2d (nI a)) (FP.i2d (nI b))) ≠ .nan := by decide +kernel
theorem zf_c0 : Jvm.FP.Core.val64 FP.dconst0 ≠ .nan := by decide +kernel
theorem zf_c1 : Jvm.FP.Core.val64 FP.dconst1 ≠ .nan := by decide +kernel
theorem zf_self (x : Int) : compare x x = .eq := Std.ReflCmp.compare_self
theorem zf_ord {d : Jvm.FP.Core.Datum} (h : d ≠ .nan) : Jvm.FP.Core.order d d = some .eq := by
  cases d with
  | nan => exact absurd rfl h
  | inf s => exact congrArg some (zf_self _)
  | fin s c q => exact congrArg some (zf_self _)
theorem zf_cmp {x : UInt64} (h : Jvm.FP.Core.val64 x ≠ .nan) : FP.dcmp x x = some .eq := zf_ord h
