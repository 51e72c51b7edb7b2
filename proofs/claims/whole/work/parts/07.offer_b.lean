def zo_cnL (O : zo_O) (t : Nat) (x : Int32) : Nat → Nat → Bool
  | 0, _ => true
  | n + 1, i => if zk_bit x i = true ∧ ¬ (i < t ∧ zo_hf O i (nI 1) = true) then false else zo_cnL O t x n (i + 1)
def zo_cn (O : zo_O) (t sp : Nat) (x : Int32) : Bool := if ¬ sp = 6 ∧ ¬ (sp < t ∧ zo_th O sp = true ∧ zo_hf O sp (nI 1) = false) then false else zo_cnL O t x 6 0
def zo_nmL (O : zo_O) (t : Nat) : Nat → Nat → Bool
  | 0, _ => false
  | n + 1, i => if zo_th O i = true ∧ (O 1 i = nI t ∨ zk_bit (O 2 i) t = true) then true else zo_nmL O t n (i + 1)
def zo_st1 (O : zo_O) (n : Nat) (x : Int32) : Int32 := if zk_bit x n = true then (if O 1 n = nI 6 then x ||| O 2 n else (x ||| O 2 n) ||| (nI 1 <<< (O 1 n &&& 31))) else x
def zo_stL (O : zo_O) : Nat → Int32 → Int32
  | 0, x => x
  | n + 1, x => zo_stL O n (zo_st1 O n x)
def zo_st (O : zo_O) (t : Nat) : Int32 := zo_stL O (t + 1) (nI 1 <<< (nI t &&& 31))
theorem zk_lt {a b : Nat} (ha : a < 2147483648) (hb : b < 2147483648) (h : nI a < nI b) : a < b := (nI_ltI ha hb).mp h
theorem zk_nlt {a b : Nat} (ha : a < 2147483648) (hb : b < 2147483648) (h : ¬ nI a < nI b) : b ≤ a := Nat.not_lt.mp (fun q => h ((nI_ltI ha hb).mpr q))
theorem zk_le {a b : Nat} (ha : a < 2147483648) (hb : b < 2147483648) (h : nI a ≤ nI b) : a ≤ b := (nI_leI ha hb).mp h
theorem zk_nle {a b : Nat} (ha : a < 2147483648) (hb : b < 2147483648) (h : ¬ nI a ≤ nI b) : b < a := Nat.not_le.mp (fun q => h ((nI_leI ha hb).mpr q))
theorem zk_eq {a b : Nat} (ha : a < 2147483648) (hb : b < 2147483648) (h : nI a = nI b) : a = b := (nI_eq ha hb).mp h
theorem zk_ne {a b : Nat} (ha : a < 2147483648) (hb : b < 2147483648) (h : ¬ nI a = nI b) : ¬ a = b := fun q => h (by rw [q])
theorem zk_ge0 {n : Nat} (hn : n < 2147483648) (h : nI n < 0) : False := nI_pos hn h
theorem zo_cnL_go {O : zo_O} {t : Nat} {x : Int32} {n i : Nat} (h : zk_bit x i = true → i < t ∧ zo_hf O i (nI 1) = true) : zo_cnL O t x (n + 1) i = zo_cnL O t x n (i + 1) := by
  rw [zo_cnL, if_neg (fun q => q.2 (h q.1))]
theorem zo_cnL_no {O : zo_O} {t : Nat} {x : Int32} {n i : Nat} (h1 : zk_bit x i = true) (h2 : ¬ (i < t ∧ zo_hf O i (nI 1) = true)) : zo_cnL O t x (n + 1) i = false := by
  rw [zo_cnL, if_pos ⟨h1, h2⟩]
theorem zo_nmL_go {O : zo_O} {t n i : Nat} (h : ¬ (zo_th O i = true ∧ (O 1 i = nI t ∨ zk_bit (O 2 i) t = true))) : zo_nmL O t (n + 1) i = zo_nmL O t n (i + 1) := by
  rw [zo_nmL, if_neg h]
theorem zo_nmL_yes {O : zo_O} {t n i : Nat} (h : zo_th O i = true ∧ (O 1 i = nI t ∨ zk_bit (O 2 i) t = true)) : zo_nmL O t (n + 1) i = true := by
  rw [zo_nmL, if_pos h]
abbrev rm_O_canName : Room := { frames := 2, cells := 0, slots := 0, locals := 43 }
set_option maxHeartbeats 4000000 in
set_option maxRecDepth 100000 in
/-- canName -/
theorem sp_O_canName (l : Launch) {h : zk_H} {o : Nat} {O : zo_O} (hO : zo_at h o O) {t sp : Nat} (ht : t < 6) (hsp : sp ≤ 6) {x : Int32} {K : Option Value → zk_H → Prop} (hK : K (some (.int (zk_b (zo_cn O t sp x)))) h) : zk_S l y_O_canName b_O_canName 5 (some .boolean) rm_O_canName [.ref (o + 1), .int (nI t), .int (nI sp), .int x] h K := by
  obtain ⟨ho, a0, a1, a2, a3, a4, a5, a6, a7⟩ := id hO
  refine zk_S_of R_O "canName" (by decide) rfl rfl [some (.ref (o + 1)), some (.int (nI t)), some (.int (nI sp)), some (.int x), none] 1 rfl (Nat.le_of_ble_eq_true rfl) (fun p e s m ar below meth c D dA b base C => ?_)
  have L : ∀ (n j : Nat), n + j = 6 → K (some (.int (zk_b (zo_cnL O t x n j)))) h → zk_V p l e rm_O_canName s m ar below meth c 5 D dA b base (MQ below (zk_Q K D dA b base) ar s rm_O_canName.cells rm_O_canName.slots (fun q : Nat => base ≤ q)) 0 0 32 [some (.ref (o + 1)), some (.int (nI t)), some (.int (nI sp)), some (.int x), some (.int (nI j))] [] h := by
    intro n
    induction n with
    | zero =>
      intro j hj hK
      refine zr_iload C d_O_canName_32 (n := 34) rfl rfl ?_
      refine zr_bipush C d_O_canName_34 (n := 36) rfl (v := nI 6) (by decide) ?_
      refine zr_icmp_ge C d_O_canName_36 (n := 39) rfl (t := 71) (by decide) (fun c1 => ?_) (fun c1 => ?_)
      · refine zr_iconst C d_O_canName_71 (n := 72) rfl (v := nI 1) (by decide) ?_
        exact zr_zret C d_O_canName_72 (by first | (simp [zo_cnL, zk_b, c1]; done) | simp_all [zo_cnL, zk_b]) (by decide) hK (Nat.zero_le _) (Nat.zero_le _)
      · exact absurd (zk_nle (by omega) (by omega) c1) (by omega)
    | succ n ih =>
      intro j hj hK
      refine zr_iload C d_O_canName_32 (n := 34) rfl rfl ?_
      refine zr_bipush C d_O_canName_34 (n := 36) rfl (v := nI 6) (by decide) ?_
      refine zr_icmp_ge C d_O_canName_36 (n := 39) rfl (t := 71) (by decide) (fun c1 => ?_) (fun c1 => ?_)
      · exact absurd (zk_le (by omega) (by omega) c1) (by omega)
      · replace c1 := zk_nle (by omega) (by omega) c1
        refine zr_iload_n C d_O_canName_39 (n := 40) rfl rfl ?_
        refine zr_iload C d_O_canName_40 (n := 42) rfl rfl ?_
        refine zr_callSN2 C k_O_47 d_O_canName_42 (nx := 45) rfl ⟨by decide, by decide⟩ (by decide) ⟨by decide, by decide⟩ (sp_A_holds l ?_)
        refine zr_if_eq C d_O_canName_45 (n := 48) rfl (t := 65) (by decide) (fun c2 => ?_) (fun c2 => ?_)
        · replace c2 := zk_bz c2
          refine zr_iinc C d_O_canName_65 (n := 68) rfl rfl (w := 1) (by decide) (nI_1 j) (by decide) rfl ?_
          refine zr_goto C d_O_canName_68 (t := 32) (by decide) ?_
          exact ih (j + 1) (by omega) (by rw [zo_cnL_go (by simp [c1, c2])] at hK; exact hK)
        · replace c2 := zk_bn c2
          refine zr_iload C d_O_canName_48 (n := 50) rfl rfl ?_
          refine zr_iload_n C d_O_canName_50 (n := 51) rfl rfl ?_
          refine zr_icmp_ge C d_O_canName_51 (n := 54) rfl (t := 63) (by decide) (fun c3 => ?_) (fun c3 => ?_)
          · replace c3 := zk_le (by omega) (by omega) c3
            refine zr_iconst C d_O_canName_63 (n := 64) rfl (v := nI 0) (by decide) ?_
            exact zr_zret C d_O_canName_64 (by rw [zo_cnL_no (by simp [c1, c2, c3]) (by first | (intro q; omega) | simp_all)]; rfl) (by decide) hK (Nat.zero_le _) (Nat.zero_le _)
          · replace c3 := zk_nle (by omega) (by omega) c3
            refine zr_aload_n C d_O_canName_54 (n := 55) rfl rfl ?_
            refine zr_iload C d_O_canName_55 (n := 57) rfl rfl ?_
            refine zr_callV1 C k_O_44 d_O_canName_57 (nx := 60) rfl ho rfl ⟨by decide, by decide⟩ (by decide) ⟨by decide, by decide⟩ (sp_O_isInterface l hO (by omega) ?_)
            refine zr_if_ne C d_O_canName_60 (n := 63) rfl (t := 65) (by decide) (fun c4 => ?_) (fun c4 => ?_)
            · replace c4 := zk_bn c4
              refine zr_iinc C d_O_canName_65 (n := 68) rfl rfl (w := 1) (by decide) (nI_1 j) (by decide) rfl ?_
              refine zr_goto C d_O_canName_68 (t := 32) (by decide) ?_
              exact ih (j + 1) (by omega) (by rw [zo_cnL_go (by simp [c1, c2, c3, c4])] at hK; exact hK)
            · replace c4 := zk_bz c4
              refine zr_iconst C d_O_canName_63 (n := 64) rfl (v := nI 0) (by decide) ?_
              exact zr_zret C d_O_canName_64 (by rw [zo_cnL_no (by simp [c1, c2, c3, c4]) (by first | (intro q; omega) | simp_all)]; rfl) (by decide) hK (Nat.zero_le _) (Nat.zero_le _)
  refine zr_iload_n C d_O_canName_0 (n := 1) rfl rfl ?_
  refine zr_bipush C d_O_canName_1 (n := 3) rfl (v := nI 6) (by decide) ?_
  refine zr_icmp_eq C d_O_canName_3 (n := 6) rfl (t := 29) (by decide) (fun c1 => ?_) (fun c1 => ?_)
  · replace c1 := zk_eq (by omega) (by omega) c1
    refine zr_iconst C d_O_canName_29 (n := 30) rfl (v := nI 0) (by decide) ?_
    refine zr_istore C d_O_canName_30 (n := 32) rfl (by decide) rfl ?_
    exact L 6 0 rfl (by rw [zo_cn, if_neg (by simp_all; try omega)] at hK; exact hK)
  · replace c1 := zk_ne (by omega) (by omega) c1
    refine zr_iload_n C d_O_canName_6 (n := 7) rfl rfl ?_
    refine zr_iload_n C d_O_canName_7 (n := 8) rfl rfl ?_
    refine zr_icmp_ge C d_O_canName_8 (n := 11) rfl (t := 27) (by decide) (fun c2 => ?_) (fun c2 => ?_)
    · replace c2 := zk_le (by omega) (by omega) c2
      refine zr_iconst C d_O_canName_27 (n := 28) rfl (v := nI 0) (by decide) ?_
      exact zr_zret C d_O_canName_28 (by rw [zo_cn, if_pos (by simp_all; try omega)]; rfl) (by decide) hK (Nat.zero_le _) (Nat.zero_le _)
    · replace c2 := zk_nle (by omega) (by omega) c2
      refine zr_aload_n C d_O_canName_11 (n := 12) rfl rfl ?_
      refine zr_iload_n C d_O_canName_12 (n := 13) rfl rfl ?_
      refine zr_callV1 C k_O_40 d_O_canName_13 (nx := 16) rfl ho rfl ⟨by decide, by decide⟩ (by decide) ⟨by decide, by decide⟩ (sp_O_isThere l hO (by omega) ?_)
      refine zr_if_eq C d_O_canName_16 (n := 19) rfl (t := 27) (by decide) (fun c3 => ?_) (fun c3 => ?_)
      · replace c3 := zk_bz c3
        refine zr_iconst C d_O_canName_27 (n := 28) rfl (v := nI 0) (by decide) ?_
        exact zr_zret C d_O_canName_28 (by rw [zo_cn, if_pos (by simp_all; try omega)]; rfl) (by decide) hK (Nat.zero_le _) (Nat.zero_le _)
      · replace c3 := zk_bn c3
        refine zr_aload_n C d_O_canName_19 (n := 20) rfl rfl ?_
        refine zr_iload_n C d_O_canName_20 (n := 21) rfl rfl ?_
        refine zr_callV1 C k_O_44 d_O_canName_21 (nx := 24) rfl ho rfl ⟨by decide, by decide⟩ (by decide) ⟨by decide, by decide⟩ (sp_O_isInterface l hO (by omega) ?_)
        refine zr_if_eq C d_O_canName_24 (n := 27) rfl (t := 29) (by decide) (fun c4 => ?_) (fun c4 => ?_)
        · replace c4 := zk_bz c4
          refine zr_iconst C d_O_canName_29 (n := 30) rfl (v := nI 0) (by decide) ?_
          refine zr_istore C d_O_canName_30 (n := 32) rfl (by decide) rfl ?_
          exact L 6 0 rfl (by rw [zo_cn, if_neg (by simp_all; try omega)] at hK; exact hK)
        · replace c4 := zk_bn c4
          refine zr_iconst C d_O_canName_27 (n := 28) rfl (v := nI 0) (by decide) ?_
          exact zr_zret C d_O_canName_28 (by rw [zo_cn, if_pos (by simp_all; try omega)]; rfl) (by decide) hK (Nat.zero_le _) (Nat.zero_le _)
abbrev rm_O_isNamed : Room := { frames := 1, cells := 0, slots := 0, locals := 21 }
set_option maxHeartbeats 4000000 in
set_option maxRecDepth 100000 in
/-- isNamed -/
theorem sp_O_isNamed (l : Launch) {h : zk_H} {o : Nat} {O : zo_O} (hO : zo_at h o O) {t : Nat} (ht : t < 6) {K : Option Value → zk_H → Prop} (hK : K (some (.int (zk_b (zo_nmL O t 6 0)))) h) : zk_S l y_O_isNamed b_O_isNamed 3 (some .boolean) rm_O_isNamed [.ref (o + 1), .int (nI t)] h K := by
  obtain ⟨ho, a0, a1, a2, a3, a4, a5, a6, a7⟩ := id hO
  refine zk_S_of R_O "isNamed" (by decide) rfl rfl [some (.ref (o + 1)), some (.int (nI t)), none] 1 rfl (Nat.le_of_ble_eq_true rfl) (fun p e s m ar below meth c D dA b base C => ?_)
  have L : ∀ (n j : Nat), n + j = 6 → K (some (.int (zk_b (zo_nmL O t n j)))) h → zk_V p l e rm_O_isNamed s m ar below meth c 3 D dA b base (MQ below (zk_Q K D dA b base) ar s rm_O_isNamed.cells rm_O_isNamed.slots (fun q : Nat => base ≤ q)) 0 0 2 [some (.ref (o + 1)), some (.int (nI t)), some (.int (nI j))] [] h := by
    intro n
    induction n with
    | zero =>
      intro j hj hK
      refine zr_iload_n C d_O_isNamed_2 (n := 3) rfl rfl ?_
      refine zr_bipush C d_O_isNamed_3 (n := 5) rfl (v := nI 6) (by decide) ?_
      refine zr_icmp_ge C d_O_isNamed_5 (n := 8) rfl (t := 47) (by decide) (fun c1 => ?_) (fun c1 => ?_)
      · refine zr_iconst C d_O_isNamed_47 (n := 48) rfl (v := nI 0) (by decide) ?_
        exact zr_zret C d_O_isNamed_48 rfl (by decide) hK (Nat.zero_le _) (Nat.zero_le _)
      · exact absurd (zk_nle (by omega) (by omega) c1) (by omega)
    | succ n ih =>
      intro j hj hK
      refine zr_iload_n C d_O_isNamed_2 (n := 3) rfl rfl ?_
      refine zr_bipush C d_O_isNamed_3 (n := 5) rfl (v := nI 6) (by decide) ?_
      refine zr_icmp_ge C d_O_isNamed_5 (n := 8) rfl (t := 47) (by decide) (fun c1 => ?_) (fun c1 => ?_)
      · exact absurd (zk_le (by omega) (by omega) c1) (by omega)
      · replace c1 := zk_nle (by omega) (by omega) c1
        refine zr_aload_n C d_O_isNamed_8 (n := 9) rfl rfl ?_
        refine zr_iload_n C d_O_isNamed_9 (n := 10) rfl rfl ?_
        refine zr_callV1 C k_O_40 d_O_isNamed_10 (nx := 13) rfl ho rfl ⟨by decide, by decide⟩ (by decide) ⟨by decide, by decide⟩ (sp_O_isThere l hO (by omega) ?_)
        refine zr_if_eq C d_O_isNamed_13 (n := 16) rfl (t := 41) (by decide) (fun c2 => ?_) (fun c2 => ?_)
        · replace c2 := zk_bz c2
          refine zr_iinc C d_O_isNamed_41 (n := 44) rfl rfl (w := 1) (by decide) (nI_1 j) (by decide) rfl ?_
          refine zr_goto C d_O_isNamed_44 (t := 2) (by decide) ?_
          exact ih (j + 1) (by omega) (by rw [zo_nmL_go (by simp_all)] at hK; exact hK)
        · replace c2 := zk_bn c2
          refine zr_aload_n C d_O_isNamed_16 (n := 17) rfl rfl ?_
          refine zr_get C f_O_15 d_O_isNamed_17 (n := 20) rfl ho rfl ?_
          refine zr_iload_n C d_O_isNamed_20 (n := 21) rfl rfl ?_
          refine zr_ialdN C d_O_isNamed_21 (n := 22) rfl a1 rfl (by omega) (by decide) ?_
          refine zr_iload_n C d_O_isNamed_22 (n := 23) rfl rfl ?_
          refine zr_icmp_eq C d_O_isNamed_23 (n := 26) rfl (t := 39) (by decide) (fun c3 => ?_) (fun c3 => ?_)
          · refine zr_iconst C d_O_isNamed_39 (n := 40) rfl (v := nI 1) (by decide) ?_
            exact zr_zret C d_O_isNamed_40 (by rw [zo_nmL_yes (by simp_all)]; rfl) (by decide) hK (Nat.zero_le _) (Nat.zero_le _)
          · refine zr_aload_n C d_O_isNamed_26 (n := 27) rfl rfl ?_
            refine zr_get C f_O_18 d_O_isNamed_27 (n := 30) rfl ho rfl ?_
            refine zr_iload_n C d_O_isNamed_30 (n := 31) rfl rfl ?_
            refine zr_ialdN C d_O_isNamed_31 (n := 32) rfl a2 rfl (by omega) (by decide) ?_
            refine zr_iload_n C d_O_isNamed_32 (n := 33) rfl rfl ?_
            refine zr_callSN2 C k_O_47 d_O_isNamed_33 (nx := 36) rfl ⟨by decide, by decide⟩ (by decide) ⟨by decide, by decide⟩ (sp_A_holds l ?_)
            refine zr_if_eq C d_O_isNamed_36 (n := 39) rfl (t := 41) (by decide) (fun c4 => ?_) (fun c4 => ?_)
            · replace c4 := zk_bz c4
              refine zr_iinc C d_O_isNamed_41 (n := 44) rfl rfl (w := 1) (by decide) (nI_1 j) (by decide) rfl ?_
              refine zr_goto C d_O_isNamed_44 (t := 2) (by decide) ?_
              exact ih (j + 1) (by omega) (by rw [zo_nmL_go (by simp_all)] at hK; exact hK)
            · replace c4 := zk_bn c4
              refine zr_iconst C d_O_isNamed_39 (n := 40) rfl (v := nI 1) (by decide) ?_
              exact zr_zret C d_O_isNamed_40 (by rw [zo_nmL_yes (by simp_all)]; rfl) (by decide) hK (Nat.zero_le _) (Nat.zero_le _)
  refine zr_iconst C d_O_isNamed_0 (n := 1) rfl (v := nI 0) (by decide) ?_
  refine zr_istore_n C d_O_isNamed_1 (n := 2) rfl (by decide) rfl ?_
  exact L 6 0 rfl hK
theorem pk_sn (n : Nat) : nI (n + 1) + (-1) = nI n := pk_m1 n
abbrev rm_O_supertypesOf : Room := { frames := 1, cells := 0, slots := 0, locals := 21 }
set_option maxHeartbeats 4000000 in
set_option maxRecDepth 100000 in
/-- supertypesOf -/
theorem sp_O_supertypesOf (l : Launch) {h : zk_H} {o : Nat} {O : zo_O} (hO : zo_at h o O) {t : Nat} (ht : t < 6) {K : Option Value → zk_H → Prop} (hK : K (some (.int (zo_st O t))) h) : zk_S l y_O_supertypesOf b_O_supertypesOf 4 (some .int) rm_O_supertypesOf [.ref (o + 1), .int (nI t)] h K := by
  obtain ⟨ho, a0, a1, a2, a3, a4, a5, a6, a7⟩ := id hO
  refine zk_S_of R_O "supertypesOf" (by decide) rfl rfl [some (.ref (o + 1)), some (.int (nI t)), none, none] 2 rfl (Nat.le_of_ble_eq_true rfl) (fun p e s m ar below meth c D dA b base C => ?_)
  have L : ∀ (n : Nat) (y z : Int32), z = nI n + (-1) → n ≤ 6 → K (some (.int (zo_stL O n y))) h → zk_V p l e rm_O_supertypesOf s m ar below meth c 4 D dA b base (MQ below (zk_Q K D dA b base) ar s rm_O_supertypesOf.cells rm_O_supertypesOf.slots (fun q : Nat => base ≤ q)) 0 0 6 [some (.ref (o + 1)), some (.int (nI t)), some (.int y), some (.int z)] [] h := by
    intro n
    induction n with
    | zero =>
      intro y z hz hn hK
      subst hz
      refine zr_iload_n C d_O_supertypesOf_6 (n := 7) rfl rfl ?_
      refine zr_if_lt C d_O_supertypesOf_7 (n := 10) rfl (t := 55) (by decide) (fun c1 => ?_) (fun c1 => ?_)
      · refine zr_iload_n C d_O_supertypesOf_55 (n := 56) rfl rfl ?_
        exact zr_iret C d_O_supertypesOf_56 rfl hK (Nat.zero_le _) (Nat.zero_le _)
      · exact absurd (by decide) c1
    | succ n ih =>
      intro y z hz hn hK
      rw [pk_sn] at hz
      subst hz
      refine zr_iload_n C d_O_supertypesOf_6 (n := 7) rfl rfl ?_
      refine zr_if_lt C d_O_supertypesOf_7 (n := 10) rfl (t := 55) (by decide) (fun c1 => ?_) (fun c1 => ?_)
      · exact absurd c1 (nI_pos (by omega))
      · refine zr_iload_n C d_O_supertypesOf_10 (n := 11) rfl rfl ?_
        refine zr_iload_n C d_O_supertypesOf_11 (n := 12) rfl rfl ?_
        refine zr_callSN2 C k_O_47 d_O_supertypesOf_12 (nx := 15) rfl ⟨by decide, by decide⟩ (by decide) ⟨by decide, by decide⟩ (sp_A_holds l ?_)
        refine zr_if_eq C d_O_supertypesOf_15 (n := 18) rfl (t := 49) (by decide) (fun c2 => ?_) (fun c2 => ?_)
        · replace c2 := zk_bz c2
          refine zr_iinc C d_O_supertypesOf_49 (n := 52) rfl rfl (w := -1) (by decide) rfl (by decide) rfl ?_
          refine zr_goto C d_O_supertypesOf_52 (t := 6) (by decide) ?_
          refine ih _ _ rfl (by omega) ?_
          simpa [zo_stL, zo_st1, c1, c2] using hK
        · replace c2 := zk_bn c2
          refine zr_iload_n C d_O_supertypesOf_18 (n := 19) rfl rfl ?_
          refine zr_aload_n C d_O_supertypesOf_19 (n := 20) rfl rfl ?_
          refine zr_get C f_O_18 d_O_supertypesOf_20 (n := 23) rfl ho rfl ?_
          refine zr_iload_n C d_O_supertypesOf_23 (n := 24) rfl rfl ?_
          refine zr_ialdN C d_O_supertypesOf_24 (n := 25) rfl a2 rfl (by omega) (by decide) ?_
          refine zr_ior C d_O_supertypesOf_25 (n := 26) rfl ?_
          refine zr_istore_n C d_O_supertypesOf_26 (n := 27) rfl (by decide) rfl ?_
          refine zr_aload_n C d_O_supertypesOf_27 (n := 28) rfl rfl ?_
          refine zr_get C f_O_15 d_O_supertypesOf_28 (n := 31) rfl ho rfl ?_
          refine zr_iload_n C d_O_supertypesOf_31 (n := 32) rfl rfl ?_
          refine zr_ialdN C d_O_supertypesOf_32 (n := 33) rfl a1 rfl (by omega) (by decide) ?_
          refine zr_bipush C d_O_supertypesOf_33 (n := 35) rfl (v := nI 6) (by decide) ?_
          refine zr_icmp_eq C d_O_supertypesOf_35 (n := 38) rfl (t := 49) (by decide) (fun c3 => ?_) (fun c3 => ?_)
          · refine zr_iinc C d_O_supertypesOf_49 (n := 52) rfl rfl (w := -1) (by decide) rfl (by decide) rfl ?_
            refine zr_goto C d_O_supertypesOf_52 (t := 6) (by decide) ?_
            refine ih _ _ rfl (by omega) ?_
            simpa [zo_stL, zo_st1, c1, c2, c3] using hK
          · refine zr_iload_n C d_O_supertypesOf_38 (n := 39) rfl rfl ?_
            refine zr_iconst C d_O_supertypesOf_39 (n := 40) rfl (v := nI 1) (by decide) ?_
            refine zr_aload_n C d_O_supertypesOf_40 (n := 41) rfl rfl ?_
            refine zr_get C f_O_15 d_O_supertypesOf_41 (n := 44) rfl ho rfl ?_
            refine zr_iload_n C d_O_supertypesOf_44 (n := 45) rfl rfl ?_
            refine zr_ialdN C d_O_supertypesOf_45 (n := 46) rfl a1 rfl (by omega) (by decide) ?_
            refine zr_ishl C d_O_supertypesOf_46 (n := 47) rfl ?_
            refine zr_ior C d_O_supertypesOf_47 (n := 48) rfl ?_
            refine zr_istore_n C d_O_supertypesOf_48 (n := 49) rfl (by decide) rfl ?_
            refine zr_iinc C d_O_supertypesOf_49 (n := 52) rfl rfl (w := -1) (by decide) rfl (by decide) rfl ?_
            refine zr_goto C d_O_supertypesOf_52 (t := 6) (by decide) ?_
            refine ih _ _ rfl (by omega) ?_
            simpa [zo_stL, zo_st1, c1, c2, c3] using hK
  refine zr_iconst C d_O_supertypesOf_0 (n := 1) rfl (v := nI 1) (by decide) ?_
  refine zr_iload_n C d_O_supertypesOf_1 (n := 2) rfl rfl ?_
  refine zr_ishl C d_O_supertypesOf_2 (n := 3) rfl ?_
  refine zr_istore_n C d_O_supertypesOf_3 (n := 4) rfl (by decide) rfl ?_
  refine zr_iload_n C d_O_supertypesOf_4 (n := 5) rfl rfl ?_
  refine zr_istore_n C d_O_supertypesOf_5 (n := 6) rfl (by decide) rfl ?_
  exact L (t + 1) _ _ (pk_sn t).symm (by omega) hK
