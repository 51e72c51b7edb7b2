def bt (x : Int32) (i : Nat) : Bool := x.toBitVec.getLsbD i
theorem b_ext {x y : Int32} (h : ∀ i, i < 32 → bt x i = bt y i) : x = y := Int32.toBitVec_inj.mp (BitVec.eq_of_getLsbD_eq (fun i hi => h i hi))
theorem b_or (x y : Int32) (i : Nat) : bt (x ||| y) i = (bt x i || bt y i) := by unfold bt; rw [Int32.toBitVec_or, BitVec.getLsbD_or]
theorem b_and (x y : Int32) (i : Nat) : bt (x &&& y) i = (bt x i && bt y i) := by unfold bt; rw [Int32.toBitVec_and, BitVec.getLsbD_and]
theorem b_0 (i : Nat) : bt 0 i = false := BitVec.getLsbD_zero
theorem s_l : ∀ n, n < 32 → ((nI n &&& 31).toBitVec.smod 32).toNat = n := by decide +kernel
theorem b_shl (n : Nat) (hn : n < 32) (x : Int32) {i : Nat} (hi : i < 32) : bt (x <<< (nI n &&& 31)) i = (decide (n ≤ i) && bt x (i - n)) := by
  unfold bt
  rw [Int32.toBitVec_shiftLeft]
  show (x.toBitVec <<< ((nI n &&& 31).toBitVec.smod 32).toNat).getLsbD i = _
  rw [s_l n hn, BitVec.getLsbD_shiftLeft]
  rcases Nat.lt_or_ge i n with h | h
  · simp [h, Nat.not_le.mpr h]
  · simp [hi, h, Nat.not_lt.mpr h]
theorem b_sshr (n : Nat) (hn : n < 32) (x : Int32) {i : Nat} (hi : i < 32) : bt (x >>> (nI n &&& 31)) i = if n + i < 32 then bt x (n + i) else bt x 31 := by
  unfold bt
  rw [Int32.toBitVec_shiftRight]
  show (x.toBitVec.sshiftRight ((nI n &&& 31).toBitVec.smod 32).toNat).getLsbD i = _
  rw [s_l n hn, BitVec.getLsbD_sshiftRight, BitVec.msb_eq_getLsbD_last]
  simp [hi]
theorem zk_bt_1 : ∀ i, i < 32 → bt (nI 1) i = decide (i = 0) := by decide +kernel
theorem zk_bit_bt (x : Int32) {n : Nat} (hn : n < 32) : zk_bit x n = bt x n := by
  have e0 : bt (x >>> (nI n &&& 31)) 0 = bt x n := by rw [b_sshr n hn x (by omega), if_pos (by omega)]; rfl
  cases h : bt x n with
  | true =>
    refine decide_eq_true (fun q => ?_)
    have e1 := congrArg (fun z => bt z 0) q
    rw [b_and, e0, h, zk_bt_1 0 (by omega), b_0] at e1
    cases e1
  | false =>
    refine decide_eq_false (fun q => q (b_ext (fun i hi => ?_)))
    rw [b_and, zk_bt_1 i hi, b_0]
    by_cases hi0 : i = 0
    · subst hi0; rw [e0, h]; rfl
    · rw [decide_eq_false hi0, Bool.and_false]
theorem zk_bit_or (x y : Int32) {i : Nat} (hi : i < 32) : zk_bit (x ||| y) i = (zk_bit x i || zk_bit y i) := by rw [zk_bit_bt _ hi, zk_bit_bt _ hi, zk_bit_bt _ hi, b_or]
theorem zk_bit_1s {s i : Nat} (hs : s < 32) (hi : i < 32) : zk_bit (nI 1 <<< (nI s &&& 31)) i = decide (i = s) := by
  rw [zk_bit_bt _ hi, b_shl s hs _ hi]
  by_cases h : s ≤ i
  · rw [zk_bt_1 _ (by omega), decide_eq_true h]
    by_cases h2 : i = s
    · subst h2; simp
    · rw [decide_eq_false h2, decide_eq_false (by omega)]; rfl
  · rw [decide_eq_false h, decide_eq_false (by omega)]; rfl
/-- every type in the set, below n, is there -/
def zo_cov (O : zo_O) (y : Int32) (n : Nat) : Prop := ∀ i, i < n → zk_bit y i = true → zo_th O i = true
theorem zo_cov_1 {O : zo_O} {t : Nat} (ht : t < 6) (hth : zo_th O t = true) : zo_cov O (nI 1 <<< (nI t &&& 31)) (t + 1) := fun i hi h => by
  rw [zk_bit_1s (by omega) (by omega)] at h
  rw [of_decide_eq_true h]
  exact hth
theorem zo_cov_s {O : zo_O} (hok : zo_ok O) {n : Nat} (hn : n < 6) {y : Int32} (h : zo_cov O y (n + 1)) : zo_cov O (zo_st1 O n y) n := by
  intro i hi hb
  unfold zo_st1 at hb
  by_cases hc : zk_bit y n = true
  · rw [if_pos hc] at hb
    have hth := zo_thn (h n (by omega) hc)
    obtain ⟨q1, q2⟩ := hok.2.1 n hn hth
    have key : zk_bit (y ||| O 2 n) i = true → zo_th O i = true := fun hb => by
      rw [zk_bit_or _ _ (by omega), Bool.or_eq_true] at hb
      rcases hb with hb | hb
      · exact h i (by omega) hb
      · exact decide_eq_true (q2 i (by omega) hb).2
    by_cases h6 : O 1 n = nI 6
    · rw [if_pos h6] at hb
      exact key hb
    · rw [if_neg h6, zk_bit_or _ _ (by omega), Bool.or_eq_true] at hb
      rcases hb with hb | hb
      · exact key hb
      · obtain ⟨s, h1, h2, h3⟩ := q1.resolve_left h6
        rw [h2, zk_bit_1s (by omega) (by omega)] at hb
        rw [of_decide_eq_true hb]
        exact decide_eq_true h3
  · rw [if_neg hc] at hb
    exact h i (by omega) hb
