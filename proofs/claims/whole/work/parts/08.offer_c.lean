def zo_wf (O : zo_O) : Prop := ∀ t, t < 6 → O 1 t = nI 6 ∨ ∃ s, s < t ∧ O 1 t = nI s
def zo_ffL (f : Nat → Int32) (x z : Int32) : Nat → Nat → Int32
  | 0, _ => z
  | n + 1, i => if zk_bit x i = true ∧ ¬ f i = -1 then f i else zo_ffL f x z n (i + 1)
def zo_ff (O : zo_O) (nm : Nat) (kd : Int32) : Nat → Nat → Int32
  | 0, _ => -1
  | d + 1, t => if ¬ O 3 (t * 4 + nm) = -1 ∧ (kd = -1 ∨ O 4 (t * 4 + nm) = kd) then nI (t * 4 + nm) else zo_ffL (fun i => zo_ff O nm kd d i) (O 2 t) (if O 1 t = nI 6 then -1 else zo_ff O nm kd d (O 1 t).toNatClampNeg) t 0
theorem zo_ffL_go {f : Nat → Int32} {x z : Int32} {n i : Nat} (h : ¬ (zk_bit x i = true ∧ ¬ f i = -1)) : zo_ffL f x z (n + 1) i = zo_ffL f x z n (i + 1) := by rw [zo_ffL, if_neg h]
theorem zo_ffL_yes {f : Nat → Int32} {x z : Int32} {n i : Nat} (h : zk_bit x i = true ∧ ¬ f i = -1) : zo_ffL f x z (n + 1) i = f i := by rw [zo_ffL, if_pos h]
theorem zo_ff_own {O : zo_O} {nm : Nat} {kd : Int32} {d t : Nat} (h : ¬ O 3 (t * 4 + nm) = -1 ∧ (kd = -1 ∨ O 4 (t * 4 + nm) = kd)) : zo_ff O nm kd (d + 1) t = nI (t * 4 + nm) := by rw [zo_ff, if_pos h]
theorem zo_ff_up {O : zo_O} {nm : Nat} {kd : Int32} {d t : Nat} (h : ¬ (¬ O 3 (t * 4 + nm) = -1 ∧ (kd = -1 ∨ O 4 (t * 4 + nm) = kd))) : zo_ff O nm kd (d + 1) t = zo_ffL (fun i => zo_ff O nm kd d i) (O 2 t) (if O 1 t = nI 6 then -1 else zo_ff O nm kd d (O 1 t).toNatClampNeg) t 0 := by rw [zo_ff, if_neg h]
abbrev rm_O_findFieldFrom (d : Nat) : Room := { frames := d + 1, cells := 0, slots := 0, locals := 27 * d + 30 }
set_option maxHeartbeats 4000000 in
set_option maxRecDepth 100000 in
/-- findFieldFrom, by the levels that are left -/
theorem sp_O_findFieldFrom (l : Launch) {h : zk_H} {o : Nat} {O : zo_O} (hO : zo_at h o O) (hw : zo_wf O) {nm : Nat} (hnm : nm < 4) {kd : Int32} : ∀ (d : Nat) {t dp : Nat}, t < 6 → dp + d = 6 → ∀ {K : Option Value → zk_H → Prop}, K (some (.int (zo_ff O nm kd d t))) h → zk_S l y_O_findFieldFrom b_O_findFieldFrom 8 (some .int) (rm_O_findFieldFrom d) [.ref (o + 1), .int (nI t), .int (nI nm), .int kd, .int (nI dp)] h K := by
  obtain ⟨ho, a0, a1, a2, a3, a4, a5, a6, a7⟩ := id hO
  intro d
  induction d with
  | zero =>
    intro t dp ht hd K hK
    refine zk_S_of R_O "findFieldFrom" (by decide) rfl rfl [some (.ref (o + 1)), some (.int (nI t)), some (.int (nI nm)), some (.int kd), some (.int (nI dp)), none, none, none] 3 rfl (Nat.le_of_ble_eq_true rfl) (fun p e s m ar below meth c D dA b base C => ?_)
    refine zr_iload C d_O_findFieldFrom_0 (n := 2) rfl rfl ?_
    refine zr_bipush C d_O_findFieldFrom_2 (n := 4) rfl (v := nI 6) (by decide) ?_
    refine zr_icmp_lt C d_O_findFieldFrom_4 (n := 7) rfl (t := 9) (by decide) (fun c1 => ?_) (fun c1 => ?_)
    · exact absurd (zk_lt (by omega) (by omega) c1) (by omega)
    · refine zr_iconst C d_O_findFieldFrom_7 (n := 8) rfl (v := -1) (by decide) ?_
      exact zr_iret C d_O_findFieldFrom_8 rfl hK (Nat.zero_le _) (Nat.zero_le _)
  | succ d ih =>
    intro t dp ht hd K hK
    refine zk_S_of R_O "findFieldFrom" (by decide) rfl rfl [some (.ref (o + 1)), some (.int (nI t)), some (.int (nI nm)), some (.int kd), some (.int (nI dp)), none, none, none] 3 rfl (Nat.le_of_ble_eq_true rfl) (fun p e s m ar below meth c D dA b base C => ?_)
    have L : ∀ (n j : Nat), n + j = t → K (some (.int (zo_ffL (fun i => zo_ff O nm kd d i) (O 2 t) (if O 1 t = nI 6 then -1 else zo_ff O nm kd d (O 1 t).toNatClampNeg) n j))) h → zk_V p l e (rm_O_findFieldFrom (d + 1)) s m ar below meth c 8 D dA b base (MQ below (zk_Q K D dA b base) ar s (rm_O_findFieldFrom (d + 1)).cells (rm_O_findFieldFrom (d + 1)).slots (fun q : Nat => base ≤ q)) 0 0 49 [some (.ref (o + 1)), some (.int (nI t)), some (.int (nI nm)), some (.int kd), some (.int (nI dp)), some (.int (nI (t * 4 + nm))), some (.int (nI j)), none] [] h := by
      intro n
      induction n with
      | zero =>
        intro j hj hK
        rw [zo_ffL] at hK
        refine zr_iload C d_O_findFieldFrom_49 (n := 51) rfl rfl ?_
        refine zr_iload_n C d_O_findFieldFrom_51 (n := 52) rfl rfl ?_
        refine zr_icmp_ge C d_O_findFieldFrom_52 (n := 55) rfl (t := 98) (by decide) (fun c1 => ?_) (fun c1 => ?_)
        · refine zr_aload_n C d_O_findFieldFrom_98 (n := 99) rfl rfl ?_
          refine zr_get C f_O_15 d_O_findFieldFrom_99 (n := 102) rfl ho rfl ?_
          refine zr_iload_n C d_O_findFieldFrom_102 (n := 103) rfl rfl ?_
          refine zr_ialdN C d_O_findFieldFrom_103 (n := 104) rfl a1 rfl (by omega) (by decide) ?_
          refine zr_bipush C d_O_findFieldFrom_104 (n := 106) rfl (v := nI 6) (by decide) ?_
          refine zr_icmp_ne C d_O_findFieldFrom_106 (n := 109) rfl (t := 111) (by decide) (fun c2 => ?_) (fun c2 => ?_)
          · obtain ⟨s0, hs0, hs0e⟩ := (hw t ht).resolve_left c2
            refine zr_aload_n C d_O_findFieldFrom_111 (n := 112) rfl rfl ?_
            refine zr_aload_n C d_O_findFieldFrom_112 (n := 113) rfl rfl ?_
            refine zr_get C f_O_15 d_O_findFieldFrom_113 (n := 116) rfl ho rfl ?_
            refine zr_iload_n C d_O_findFieldFrom_116 (n := 117) rfl rfl ?_
            refine zr_ialdN C d_O_findFieldFrom_117 (n := 118) rfl a1 rfl (by omega) (by decide) ?_
            refine zr_toe (y := nI s0) hs0e ?_
            refine zr_iload_n C d_O_findFieldFrom_118 (n := 119) rfl rfl ?_
            refine zr_iload_n C d_O_findFieldFrom_119 (n := 120) rfl rfl ?_
            refine zr_iload C d_O_findFieldFrom_120 (n := 122) rfl rfl ?_
            refine zr_iconst C d_O_findFieldFrom_122 (n := 123) rfl (v := nI 1) (by decide) ?_
            refine zr_iadd C d_O_findFieldFrom_123 (n := 124) rfl ?_
            refine zr_toe (y := nI (dp + 1)) (nI_add dp 1) ?_
            refine zr_callV4 C k_O_60 d_O_findFieldFrom_124 (nx := 127) rfl ho rfl ⟨by dsimp only [rm_O_findFieldFrom]; omega, by dsimp only [rm_O_findFieldFrom]; omega⟩ (by decide) ⟨Nat.le_refl _, Nat.le_refl _⟩ (ih (t := s0) (dp := dp + 1) (by omega) (by omega) ?_)
            exact zr_iret C d_O_findFieldFrom_127 (by rw [if_neg c2, hs0e, nI_clamp (by omega)]) hK (Nat.zero_le _) (Nat.zero_le _)
          · refine zr_iconst C d_O_findFieldFrom_109 (n := 110) rfl (v := -1) (by decide) ?_
            exact zr_iret C d_O_findFieldFrom_110 (by rw [if_pos c2]) hK (Nat.zero_le _) (Nat.zero_le _)
        · exact absurd (zk_nle (by omega) (by omega) c1) (by omega)
      | succ n ih2 =>
        intro j hj hK
        refine zr_iload C d_O_findFieldFrom_49 (n := 51) rfl rfl ?_
        refine zr_iload_n C d_O_findFieldFrom_51 (n := 52) rfl rfl ?_
        refine zr_icmp_ge C d_O_findFieldFrom_52 (n := 55) rfl (t := 98) (by decide) (fun c1 => ?_) (fun c1 => ?_)
        · exact absurd (zk_le (by omega) (by omega) c1) (by omega)
        · refine zr_aload_n C d_O_findFieldFrom_55 (n := 56) rfl rfl ?_
          refine zr_get C f_O_18 d_O_findFieldFrom_56 (n := 59) rfl ho rfl ?_
          refine zr_iload_n C d_O_findFieldFrom_59 (n := 60) rfl rfl ?_
          refine zr_ialdN C d_O_findFieldFrom_60 (n := 61) rfl a2 rfl (by omega) (by decide) ?_
          refine zr_iload C d_O_findFieldFrom_61 (n := 63) rfl rfl ?_
          refine zr_callSN2 C k_O_47 d_O_findFieldFrom_63 (nx := 66) rfl ⟨by dsimp only [rm_O_findFieldFrom]; omega, by dsimp only [rm_O_findFieldFrom]; omega⟩ (by decide) ⟨Nat.le_refl _, Nat.le_refl _⟩ (sp_A_holds l ?_)
          refine zr_if_eq C d_O_findFieldFrom_66 (n := 69) rfl (t := 92) (by decide) (fun c2 => ?_) (fun c2 => ?_)
          · replace c2 := zk_bz c2
            refine zr_iinc C d_O_findFieldFrom_92 (n := 95) rfl rfl (w := 1) (by decide) (nI_1 j) (by decide) rfl ?_
            refine zr_goto C d_O_findFieldFrom_95 (t := 49) (by decide) ?_
            exact ih2 (j + 1) (by omega) (by rw [zo_ffL_go (by simp [c2])] at hK; exact hK)
          · replace c2 := zk_bn c2
            refine zr_aload_n C d_O_findFieldFrom_69 (n := 70) rfl rfl ?_
            refine zr_iload C d_O_findFieldFrom_70 (n := 72) rfl rfl ?_
            refine zr_iload_n C d_O_findFieldFrom_72 (n := 73) rfl rfl ?_
            refine zr_iload_n C d_O_findFieldFrom_73 (n := 74) rfl rfl ?_
            refine zr_iload C d_O_findFieldFrom_74 (n := 76) rfl rfl ?_
            refine zr_iconst C d_O_findFieldFrom_76 (n := 77) rfl (v := nI 1) (by decide) ?_
            refine zr_iadd C d_O_findFieldFrom_77 (n := 78) rfl ?_
            refine zr_toe (y := nI (dp + 1)) (nI_add dp 1) ?_
            refine zr_callV4 C k_O_60 d_O_findFieldFrom_78 (nx := 81) rfl ho rfl ⟨by dsimp only [rm_O_findFieldFrom]; omega, by dsimp only [rm_O_findFieldFrom]; omega⟩ (by decide) ⟨Nat.le_refl _, Nat.le_refl _⟩ (ih (t := j) (dp := dp + 1) (by omega) (by omega) ?_)
            refine zr_istore C d_O_findFieldFrom_81 (n := 83) rfl (by decide) rfl ?_
            refine zr_iload C d_O_findFieldFrom_83 (n := 85) rfl rfl ?_
            refine zr_iconst C d_O_findFieldFrom_85 (n := 86) rfl (v := -1) (by decide) ?_
            refine zr_icmp_eq C d_O_findFieldFrom_86 (n := 89) rfl (t := 92) (by decide) (fun c3 => ?_) (fun c3 => ?_)
            · refine zr_iinc C d_O_findFieldFrom_92 (n := 95) rfl rfl (w := 1) (by decide) (nI_1 j) (by decide) rfl ?_
              refine zr_goto C d_O_findFieldFrom_95 (t := 49) (by decide) ?_
              refine zr_drop 7 ?_
              exact ih2 (j + 1) (by omega) (by rw [zo_ffL_go (by simp [c2, c3])] at hK; exact hK)
            · refine zr_iload C d_O_findFieldFrom_89 (n := 91) rfl rfl ?_
              exact zr_iret C d_O_findFieldFrom_91 rfl (by rw [zo_ffL_yes ⟨c2, c3⟩] at hK; exact hK) (Nat.zero_le _) (Nat.zero_le _)
    refine zr_iload C d_O_findFieldFrom_0 (n := 2) rfl rfl ?_
    refine zr_bipush C d_O_findFieldFrom_2 (n := 4) rfl (v := nI 6) (by decide) ?_
    refine zr_icmp_lt C d_O_findFieldFrom_4 (n := 7) rfl (t := 9) (by decide) (fun c1 => ?_) (fun c1 => ?_)
    · refine zr_iload_n C d_O_findFieldFrom_9 (n := 10) rfl rfl ?_
      refine zr_iconst C d_O_findFieldFrom_10 (n := 11) rfl (v := nI 4) (by decide) ?_
      refine zr_imul C d_O_findFieldFrom_11 (n := 12) rfl ?_
      refine zr_iload_n C d_O_findFieldFrom_12 (n := 13) rfl rfl ?_
      refine zr_iadd C d_O_findFieldFrom_13 (n := 14) rfl ?_
      refine zr_toe (y := nI (t * 4 + nm)) (by simp only [pk_mul, nI_add]) ?_
      refine zr_istore C d_O_findFieldFrom_14 (n := 16) rfl (by decide) rfl ?_
      refine zr_aload_n C d_O_findFieldFrom_16 (n := 17) rfl rfl ?_
      refine zr_get C f_O_21 d_O_findFieldFrom_17 (n := 20) rfl ho rfl ?_
      refine zr_iload C d_O_findFieldFrom_20 (n := 22) rfl rfl ?_
      refine zr_ialdN C d_O_findFieldFrom_22 (n := 23) rfl a3 rfl (by omega) (by decide) ?_
      refine zr_iconst C d_O_findFieldFrom_23 (n := 24) rfl (v := -1) (by decide) ?_
      refine zr_icmp_eq C d_O_findFieldFrom_24 (n := 27) rfl (t := 46) (by decide) (fun c2 => ?_) (fun c2 => ?_)
      · refine zr_iconst C d_O_findFieldFrom_46 (n := 47) rfl (v := nI 0) (by decide) ?_
        refine zr_istore C d_O_findFieldFrom_47 (n := 49) rfl (by decide) rfl ?_
        exact L t 0 (by omega) (by rw [zo_ff_up (by simp [c2])] at hK; exact hK)
      · refine zr_iload_n C d_O_findFieldFrom_27 (n := 28) rfl rfl ?_
        refine zr_iconst C d_O_findFieldFrom_28 (n := 29) rfl (v := -1) (by decide) ?_
        refine zr_icmp_eq C d_O_findFieldFrom_29 (n := 32) rfl (t := 43) (by decide) (fun c3 => ?_) (fun c3 => ?_)
        · refine zr_iload C d_O_findFieldFrom_43 (n := 45) rfl rfl ?_
          exact zr_iret C d_O_findFieldFrom_45 rfl (by rw [zo_ff_own (by simp [c2, c3])] at hK; exact hK) (Nat.zero_le _) (Nat.zero_le _)
        · refine zr_aload_n C d_O_findFieldFrom_32 (n := 33) rfl rfl ?_
          refine zr_get C f_O_24 d_O_findFieldFrom_33 (n := 36) rfl ho rfl ?_
          refine zr_iload C d_O_findFieldFrom_36 (n := 38) rfl rfl ?_
          refine zr_ialdN C d_O_findFieldFrom_38 (n := 39) rfl a4 rfl (by omega) (by decide) ?_
          refine zr_iload_n C d_O_findFieldFrom_39 (n := 40) rfl rfl ?_
          refine zr_icmp_ne C d_O_findFieldFrom_40 (n := 43) rfl (t := 46) (by decide) (fun c4 => ?_) (fun c4 => ?_)
          · refine zr_iconst C d_O_findFieldFrom_46 (n := 47) rfl (v := nI 0) (by decide) ?_
            refine zr_istore C d_O_findFieldFrom_47 (n := 49) rfl (by decide) rfl ?_
            exact L t 0 (by omega) (by rw [zo_ff_up (by simp [c2, c3, c4])] at hK; exact hK)
          · refine zr_iload C d_O_findFieldFrom_43 (n := 45) rfl rfl ?_
            exact zr_iret C d_O_findFieldFrom_45 rfl (by rw [zo_ff_own (by simp [c2, c3, c4])] at hK; exact hK) (Nat.zero_le _) (Nat.zero_le _)
    · exact absurd (nI_lt (by omega) (by omega)) c1
abbrev rm_O_findField : Room := { frames := 8, cells := 0, slots := 0, locals := 27 * 7 + 30 }
set_option maxHeartbeats 4000000 in
set_option maxRecDepth 100000 in
/-- findField -/
theorem sp_O_findField (l : Launch) {h : zk_H} {o : Nat} {O : zo_O} (hO : zo_at h o O) (hw : zo_wf O) {t nm : Nat} (ht : t < 6) (hnm : nm < 4) {kd : Int32} {K : Option Value → zk_H → Prop} (hK : K (some (.int (zo_ff O nm kd 6 t))) h) : zk_S l y_O_findField b_O_findField 4 (some .int) rm_O_findField [.ref (o + 1), .int (nI t), .int (nI nm), .int kd] h K := by
  obtain ⟨ho, a0, a1, a2, a3, a4, a5, a6, a7⟩ := id hO
  refine zk_S_of R_O "findField" (by decide) rfl rfl [some (.ref (o + 1)), some (.int (nI t)), some (.int (nI nm)), some (.int kd)] 0 rfl (Nat.le_of_ble_eq_true rfl) (fun p e s m ar below meth c D dA b base C => ?_)
  refine zr_aload_n C d_O_findField_0 (n := 1) rfl rfl ?_
  refine zr_iload_n C d_O_findField_1 (n := 2) rfl rfl ?_
  refine zr_iload_n C d_O_findField_2 (n := 3) rfl rfl ?_
  refine zr_iload_n C d_O_findField_3 (n := 4) rfl rfl ?_
  refine zr_iconst C d_O_findField_4 (n := 5) rfl (v := nI 0) (by decide) ?_
  refine zr_callV4 C k_O_60 d_O_findField_5 (nx := 8) rfl ho rfl ⟨by decide, by decide⟩ (by decide) ⟨by decide, by decide⟩ (sp_O_findFieldFrom l hO hw hnm 6 (t := t) (dp := 0) ht rfl ?_)
  exact zr_iret C d_O_findField_8 rfl hK (Nat.zero_le _) (Nat.zero_le _)
def zo_mc (O : zo_O) (nm pa : Nat) (an z : Int32) : Nat → Nat → Int32
  | 0, _ => z
  | n + 1, hd => if hd = 6 then z else if zo_ma O (hd * 12 + nm * 4 + pa) an = true then nI (hd * 12 + nm * 4 + pa) else zo_mc O nm pa an z n (O 1 hd).toNatClampNeg
def zo_mi (O : zo_O) (nm pa : Nat) (an x : Int32) : Nat → Int32
  | 0 => -1
  | n + 1 => if zk_bit x n = true ∧ zo_hf O n (nI 1) = true ∧ zo_ma O (n * 12 + nm * 4 + pa) an = true then nI (n * 12 + nm * 4 + pa) else zo_mi O nm pa an x n
def zo_fm (O : zo_O) (t nm pa : Nat) (an : Int32) : Int32 := zo_mc O nm pa an (zo_mi O nm pa an (zo_st O t) 6) 6 t
theorem zo_wf_up {O : zo_O} (hw : zo_wf O) {t : Nat} (ht : t < 6) : ∃ s, s ≤ 6 ∧ O 1 t = nI s := by
  rcases hw t ht with h | ⟨s, h1, h2⟩
  · exact ⟨6, Nat.le_refl 6, h⟩
  · exact ⟨s, by omega, h2⟩
theorem zo_mc_end {O : zo_O} {nm pa : Nat} {an z : Int32} {n : Nat} : zo_mc O nm pa an z n 6 = z := by
  cases n with
  | zero => rfl
  | succ n => rw [zo_mc, if_pos rfl]
theorem zo_mc_yes {O : zo_O} {nm pa : Nat} {an z : Int32} {n hd : Nat} (h1 : ¬ hd = 6) (h2 : zo_ma O (hd * 12 + nm * 4 + pa) an = true) : zo_mc O nm pa an z (n + 1) hd = nI (hd * 12 + nm * 4 + pa) := by rw [zo_mc, if_neg h1, if_pos h2]
theorem zo_mc_go {O : zo_O} {nm pa : Nat} {an z : Int32} {n hd s : Nat} (h1 : ¬ hd = 6) (h2 : zo_ma O (hd * 12 + nm * 4 + pa) an = false) (h3 : O 1 hd = nI s) (hs : s ≤ 6) : zo_mc O nm pa an z (n + 1) hd = zo_mc O nm pa an z n s := by
  rw [zo_mc, if_neg h1, if_neg (by rw [h2]; decide), h3, nI_clamp (by omega)]
theorem zo_mi_yes {O : zo_O} {nm pa : Nat} {an x : Int32} {n : Nat} (h : zk_bit x n = true ∧ zo_hf O n (nI 1) = true ∧ zo_ma O (n * 12 + nm * 4 + pa) an = true) : zo_mi O nm pa an x (n + 1) = nI (n * 12 + nm * 4 + pa) := by rw [zo_mi, if_pos h]
theorem zo_mi_go {O : zo_O} {nm pa : Nat} {an x : Int32} {n : Nat} (h : ¬ (zk_bit x n = true ∧ zo_hf O n (nI 1) = true ∧ zo_ma O (n * 12 + nm * 4 + pa) an = true)) : zo_mi O nm pa an x (n + 1) = zo_mi O nm pa an x n := by rw [zo_mi, if_neg h]
abbrev rm_O_findMethod : Room := { frames := 2, cells := 0, slots := 0, locals := 44 }
set_option maxHeartbeats 4000000 in
set_option maxRecDepth 100000 in
/-- findMethod -/
theorem sp_O_findMethod (l : Launch) {h : zk_H} {o : Nat} {O : zo_O} (hO : zo_at h o O) (hw : zo_wf O) {t nm pa : Nat} (ht : t < 6) (hnm : nm < 3) (hpa : pa < 4) {an : Int32} {K : Option Value → zk_H → Prop} (hK : K (some (.int (zo_fm O t nm pa an))) h) : zk_S l y_O_findMethod b_O_findMethod 9 (some .int) rm_O_findMethod [.ref (o + 1), .int (nI t), .int (nI nm), .int (nI pa), .int an] h K := by
  obtain ⟨ho, a0, a1, a2, a3, a4, a5, a6, a7⟩ := id hO
  refine zk_S_of R_O "findMethod" (by decide) rfl rfl [some (.ref (o + 1)), some (.int (nI t)), some (.int (nI nm)), some (.int (nI pa)), some (.int an), none, none, none, none] 4 rfl (Nat.le_of_ble_eq_true rfl) (fun p e s m ar below meth c D dA b base C => ?_)
  have L2 : ∀ (n : Nat) (z : Int32), z = nI n + (-1) → n ≤ 6 → K (some (.int (zo_mi O nm pa an (zo_st O t) n))) h → zk_V p l e rm_O_findMethod s m ar below meth c 9 D dA b base (MQ below (zk_Q K D dA b base) ar s rm_O_findMethod.cells rm_O_findMethod.slots (fun q : Nat => base ≤ q)) 0 0 68 [some (.ref (o + 1)), some (.int (nI t)), some (.int (nI nm)), some (.int (nI pa)), some (.int an), none, some (.int (zo_st O t)), some (.int z), none] [] h := by
    intro n
    induction n with
    | zero =>
      intro z hz hn hK
      subst hz
      refine zr_iload C d_O_findMethod_68 (n := 70) rfl rfl ?_
      refine zr_if_lt C d_O_findMethod_70 (n := 73) rfl (t := 121) (by decide) (fun c1 => ?_) (fun c1 => ?_)
      · refine zr_iconst C d_O_findMethod_121 (n := 122) rfl (v := -1) (by decide) ?_
        exact zr_iret C d_O_findMethod_122 rfl hK (Nat.zero_le _) (Nat.zero_le _)
      · exact absurd (by decide) c1
    | succ n ih =>
      intro z hz hn hK
      rw [pk_sn] at hz
      subst hz
      refine zr_iload C d_O_findMethod_68 (n := 70) rfl rfl ?_
      refine zr_if_lt C d_O_findMethod_70 (n := 73) rfl (t := 121) (by decide) (fun c1 => ?_) (fun c1 => ?_)
      · exact absurd c1 (nI_pos (by omega))
      · refine zr_iload C d_O_findMethod_73 (n := 75) rfl rfl ?_
        refine zr_iload_n C d_O_findMethod_75 (n := 76) rfl rfl ?_
        refine zr_iload_n C d_O_findMethod_76 (n := 77) rfl rfl ?_
        refine zr_callSN3 C k_O_64 d_O_findMethod_77 (nx := 80) rfl ⟨by decide, by decide⟩ (by decide) ⟨by decide, by decide⟩ (sp_A_methodPlace l ?_)
        refine zr_istore C d_O_findMethod_80 (n := 82) rfl (by decide) rfl ?_
        refine zr_iload C d_O_findMethod_82 (n := 84) rfl rfl ?_
        refine zr_iload C d_O_findMethod_84 (n := 86) rfl rfl ?_
        refine zr_callSN2 C k_O_47 d_O_findMethod_86 (nx := 89) rfl ⟨by decide, by decide⟩ (by decide) ⟨by decide, by decide⟩ (sp_A_holds l ?_)
        refine zr_if_eq C d_O_findMethod_89 (n := 92) rfl (t := 115) (by decide) (fun c2 => ?_) (fun c2 => ?_)
        · replace c2 := zk_bz c2
          refine zr_iinc C d_O_findMethod_115 (n := 118) rfl rfl (w := -1) (by decide) rfl (by decide) rfl ?_
          refine zr_goto C d_O_findMethod_118 (t := 68) (by decide) ?_
          refine zr_drop 8 ?_
          exact ih _ rfl (by omega) (by rw [zo_mi_go (by simp [c2])] at hK; exact hK)
        · replace c2 := zk_bn c2
          refine zr_aload_n C d_O_findMethod_92 (n := 93) rfl rfl ?_
          refine zr_iload C d_O_findMethod_93 (n := 95) rfl rfl ?_
          refine zr_callV1 C k_O_44 d_O_findMethod_95 (nx := 98) rfl ho rfl ⟨by decide, by decide⟩ (by decide) ⟨by decide, by decide⟩ (sp_O_isInterface l hO (by omega) ?_)
          refine zr_if_eq C d_O_findMethod_98 (n := 101) rfl (t := 115) (by decide) (fun c3 => ?_) (fun c3 => ?_)
          · replace c3 := zk_bz c3
            refine zr_iinc C d_O_findMethod_115 (n := 118) rfl rfl (w := -1) (by decide) rfl (by decide) rfl ?_
            refine zr_goto C d_O_findMethod_118 (t := 68) (by decide) ?_
            refine zr_drop 8 ?_
            exact ih _ rfl (by omega) (by rw [zo_mi_go (by simp [c2, c3])] at hK; exact hK)
          · replace c3 := zk_bn c3
            refine zr_aload_n C d_O_findMethod_101 (n := 102) rfl rfl ?_
            refine zr_iload C d_O_findMethod_102 (n := 104) rfl rfl ?_
            refine zr_iload C d_O_findMethod_104 (n := 106) rfl rfl ?_
            refine zr_callV2 C k_O_68 d_O_findMethod_106 (nx := 109) rfl ho rfl ⟨by decide, by decide⟩ (by decide) ⟨by decide, by decide⟩ (sp_O_isMethodAt l hO (by omega) ?_)
            refine zr_if_eq C d_O_findMethod_109 (n := 112) rfl (t := 115) (by decide) (fun c4 => ?_) (fun c4 => ?_)
            · replace c4 := zk_bz c4
              refine zr_iinc C d_O_findMethod_115 (n := 118) rfl rfl (w := -1) (by decide) rfl (by decide) rfl ?_
              refine zr_goto C d_O_findMethod_118 (t := 68) (by decide) ?_
              refine zr_drop 8 ?_
              exact ih _ rfl (by omega) (by rw [zo_mi_go (by simp [c2, c3, c4])] at hK; exact hK)
            · replace c4 := zk_bn c4
              refine zr_iload C d_O_findMethod_112 (n := 114) rfl rfl ?_
              exact zr_iret C d_O_findMethod_114 rfl (by rw [zo_mi_yes (by simp [c2, c3, c4])] at hK; exact hK) (Nat.zero_le _) (Nat.zero_le _)
  have J : K (some (.int (zo_mi O nm pa an (zo_st O t) 6))) h → zk_V p l e rm_O_findMethod s m ar below meth c 9 D dA b base (MQ below (zk_Q K D dA b base) ar s rm_O_findMethod.cells rm_O_findMethod.slots (fun q : Nat => base ≤ q)) 0 0 58 [some (.ref (o + 1)), some (.int (nI t)), some (.int (nI nm)), some (.int (nI pa)), some (.int an), none, none, none, none] [] h := by
    intro hK
    refine zr_aload_n C d_O_findMethod_58 (n := 59) rfl rfl ?_
    refine zr_iload_n C d_O_findMethod_59 (n := 60) rfl rfl ?_
    refine zr_callV1 C k_O_71 d_O_findMethod_60 (nx := 63) rfl ho rfl ⟨by decide, by decide⟩ (by decide) ⟨by decide, by decide⟩ (sp_O_supertypesOf l hO ht ?_)
    refine zr_istore C d_O_findMethod_63 (n := 65) rfl (by decide) rfl ?_
    refine zr_iconst C d_O_findMethod_65 (n := 66) rfl (v := nI 5) (by decide) ?_
    refine zr_istore C d_O_findMethod_66 (n := 68) rfl (by decide) rfl ?_
    exact L2 6 _ (pk_sn 5).symm (by omega) hK
  have L1 : ∀ (n hd j : Nat), hd ≤ 6 → n + j = 6 → K (some (.int (zo_mc O nm pa an (zo_mi O nm pa an (zo_st O t) 6) n hd))) h → zk_V p l e rm_O_findMethod s m ar below meth c 9 D dA b base (MQ below (zk_Q K D dA b base) ar s rm_O_findMethod.cells rm_O_findMethod.slots (fun q : Nat => base ≤ q)) 0 0 6 [some (.ref (o + 1)), some (.int (nI t)), some (.int (nI nm)), some (.int (nI pa)), some (.int an), some (.int (nI hd)), some (.int (nI j)), none, none] [] h := by
    intro n
    induction n with
    | zero =>
      intro hd j hhd hj hK
      refine zr_iload C d_O_findMethod_6 (n := 8) rfl rfl ?_
      refine zr_bipush C d_O_findMethod_8 (n := 10) rfl (v := nI 6) (by decide) ?_
      refine zr_icmp_ge C d_O_findMethod_10 (n := 13) rfl (t := 58) (by decide) (fun c1 => ?_) (fun c1 => ?_)
      · refine zr_drop 5 ?_
        refine zr_drop 6 ?_
        exact J hK
      · exact absurd (zk_nle (by omega) (by omega) c1) (by omega)
    | succ n ih =>
      intro hd j hhd hj hK
      refine zr_iload C d_O_findMethod_6 (n := 8) rfl rfl ?_
      refine zr_bipush C d_O_findMethod_8 (n := 10) rfl (v := nI 6) (by decide) ?_
      refine zr_icmp_ge C d_O_findMethod_10 (n := 13) rfl (t := 58) (by decide) (fun c1 => ?_) (fun c1 => ?_)
      · exact absurd (zk_le (by omega) (by omega) c1) (by omega)
      · refine zr_iload C d_O_findMethod_13 (n := 15) rfl rfl ?_
        refine zr_bipush C d_O_findMethod_15 (n := 17) rfl (v := nI 6) (by decide) ?_
        refine zr_icmp_eq C d_O_findMethod_17 (n := 20) rfl (t := 58) (by decide) (fun c2 => ?_) (fun c2 => ?_)
        · replace c2 := zk_eq (by omega) (by omega) c2
          subst c2
          refine zr_drop 5 ?_
          refine zr_drop 6 ?_
          exact J (by rw [zo_mc_end] at hK; exact hK)
        · replace c2 := zk_ne (by omega) (by omega) c2
          refine zr_iload C d_O_findMethod_20 (n := 22) rfl rfl ?_
          refine zr_iload_n C d_O_findMethod_22 (n := 23) rfl rfl ?_
          refine zr_iload_n C d_O_findMethod_23 (n := 24) rfl rfl ?_
          refine zr_callSN3 C k_O_64 d_O_findMethod_24 (nx := 27) rfl ⟨by decide, by decide⟩ (by decide) ⟨by decide, by decide⟩ (sp_A_methodPlace l ?_)
          refine zr_istore C d_O_findMethod_27 (n := 29) rfl (by decide) rfl ?_
          refine zr_aload_n C d_O_findMethod_29 (n := 30) rfl rfl ?_
          refine zr_iload C d_O_findMethod_30 (n := 32) rfl rfl ?_
          refine zr_iload C d_O_findMethod_32 (n := 34) rfl rfl ?_
          refine zr_callV2 C k_O_68 d_O_findMethod_34 (nx := 37) rfl ho rfl ⟨by decide, by decide⟩ (by decide) ⟨by decide, by decide⟩ (sp_O_isMethodAt l hO (by omega) ?_)
          refine zr_if_eq C d_O_findMethod_37 (n := 40) rfl (t := 43) (by decide) (fun c3 => ?_) (fun c3 => ?_)
          · replace c3 := zk_bz c3
            refine zr_aload_n C d_O_findMethod_43 (n := 44) rfl rfl ?_
            refine zr_get C f_O_15 d_O_findMethod_44 (n := 47) rfl ho rfl ?_
            refine zr_iload C d_O_findMethod_47 (n := 49) rfl rfl ?_
            refine zr_ialdN C d_O_findMethod_49 (n := 50) rfl a1 rfl (by omega) (by decide) ?_
            obtain ⟨s0, hs0, hs0e⟩ := zo_wf_up hw (t := hd) (by omega)
            refine zr_toe (y := nI s0) hs0e ?_
            refine zr_istore C d_O_findMethod_50 (n := 52) rfl (by decide) rfl ?_
            refine zr_iinc C d_O_findMethod_52 (n := 55) rfl rfl (w := 1) (by decide) (nI_1 j) (by decide) rfl ?_
            refine zr_goto C d_O_findMethod_55 (t := 6) (by decide) ?_
            refine zr_drop 7 ?_
            exact ih s0 (j + 1) hs0 (by omega) (by rw [zo_mc_go c2 c3 hs0e hs0] at hK; exact hK)
          · replace c3 := zk_bn c3
            refine zr_iload C d_O_findMethod_40 (n := 42) rfl rfl ?_
            exact zr_iret C d_O_findMethod_42 rfl (by rw [zo_mc_yes c2 c3] at hK; exact hK) (Nat.zero_le _) (Nat.zero_le _)
  refine zr_iload_n C d_O_findMethod_0 (n := 1) rfl rfl ?_
  refine zr_istore C d_O_findMethod_1 (n := 3) rfl (by decide) rfl ?_
  refine zr_iconst C d_O_findMethod_3 (n := 4) rfl (v := nI 0) (by decide) ?_
  refine zr_istore C d_O_findMethod_4 (n := 6) rfl (by decide) rfl ?_
  exact L1 6 t 0 (by omega) rfl hK
