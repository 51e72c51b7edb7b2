theorem l_A_131 : Cond.constantDouble R_A 131 zf_half ∈ zk_tb := zk_mem 390 (by decide +kernel) rfl
def zc_num (b : Nat → Int32) : UInt64 := if b 2 = 0 then FP.dconst0 else if b 3 = nI 1 then FP.dmul (FP.i2d (b 4)) zf_half else FP.i2d (b 4)
theorem zb_m2 (O : zo_O) (t k j : Nat) {B : Nat → Int32} : zb_fin (zb_m O k j (zb_b1 O t B)) 2 = 0 := by
  by_cases hx : k = 3 ∧ zb_nz (O 6 j) (nI 1) = false
  · rw [zb_m_no hx.1 hx.2]; rfl
  · rw [zb_m_yes hx]; rfl
theorem zb_o2 (O : zo_O) (t : Nat) (B : Nat → Int32) (r : Option Nat) : zb_fin (zb_o O t (zb_b1 O t B) r) 2 = 0 := by
  by_cases h4 : zo_hf O t (nI 4) = true
  · rw [zb_o_x h4]; rfl
  · have h4' : zo_hf O t (nI 4) = false := by simpa using h4
    cases r with
    | none => rw [zb_o_n h4']; rfl
    | some j =>
      by_cases h8 : zb_nz (O 6 j) (nI 8) = true
      · rw [zb_o_h h4' h8]; rfl
      · rw [zb_o_y h4' (by simpa using h8)]
        split <;> rfl
/-- bound to a value: only a field's use that compiles -/
theorem zb_tv {O : zo_O} {k t nm ag : Nat} {B : Nat → Int32} (hk : k < 7) (h : ¬ zb_bind O k t nm ag B 2 = 0) : zb_bind O k t nm ag B 0 = 0 ∧ k < 2 := by
  by_cases hs : k < 2
  · refine ⟨?_, hs⟩
    by_cases h0 : zb_bind O k t nm ag B 0 = 0
    · exact h0
    exfalso
    apply h
    by_cases ho : zo_th O t = true ∧ zo_hf O t (nI 8) = false
    · rw [zb_bind_ok ho] at h0 ⊢
      have key : ∀ k, ¬ zb_fin (zb_f O k (zb_b1 O t B) (zb_pl (zo_ff O nm (-1) 6 t))) 0 = 0 → zb_fin (zb_f O k (zb_b1 O t B) (zb_pl (zo_ff O nm (-1) 6 t))) 2 = 0 := by
        intro k h0
        cases hr : zb_pl (zo_ff O nm (-1) 6 t) with
        | none => rfl
        | some j =>
          rw [hr] at h0
          by_cases h8 : zb_nz (O 3 j) (nI 8) = true
          · rw [zb_f_h h8]; rfl
          · have h8' : zb_nz (O 3 j) (nI 8) = false := by simpa using h8
            by_cases h4 : k = 1 ∧ zb_nz (O 3 j) (nI 4) = true
            · rw [zb_f_x h8' h4]; rfl
            · rw [zb_f_y h8' h4] at h0
              exact absurd rfl h0
      rcases (show k = 0 ∨ k = 1 by omega) with rfl | rfl
      · exact key 0 h0
      · exact key 1 h0
    · rw [zb_bind_no ho]; rfl
  · exfalso
    apply h
    by_cases h0 : zb_bind O k t nm ag B 0 = 0
    · exact (((zb_ind hk B zc_Z).2.2 h0).2.2.1 (by omega)).2
    · have e2 := (zb_ind (O := O) (t := t) (nm := nm) (ag := ag) hk B zc_Z).2.1
      by_cases ho : zo_th O t = true ∧ zo_hf O t (nI 8) = false
      · rw [zb_bind_ok ho]
        rcases (show k = 2 ∨ k = 3 ∨ k = 4 ∨ k = 5 ∨ k = 6 by omega) with rfl | rfl | rfl | rfl | rfl
        · show zb_fin (zb_cc O 2 t nm ag (zb_b1 O t B)) 2 = 0
          rw [zb_cc_eq]
          cases zb_cJ O t nm ag with
          | none => rfl
          | some j => exact zb_m2 _ _ _ _
        · show zb_fin (zb_cc O 3 t nm ag (zb_b1 O t B)) 2 = 0
          rw [zb_cc_eq]
          cases zb_cJ O t nm ag with
          | none => rfl
          | some j => exact zb_m2 _ _ _ _
        · rfl
        · rfl
        · exact zb_o2 _ _ _ _
      · rw [zb_bind_no ho]; rfl
theorem zc_num_eq {O : zo_O} {k t nm ag : Nat} (hk : k < 7) (B : Nat → Int32) : zc_num (zb_bind O k t nm ag B) = zc_num (zc_bd O k t nm ag) := by
  have hI := zb_ind (O := O) (t := t) (nm := nm) (ag := ag) hk B zc_Z
  by_cases h : zb_bind O k t nm ag B 2 = 0
  · have h2 : zc_bd O k t nm ag 2 = 0 := hI.2.1.symm.trans h
    rw [zc_num, if_pos h, zc_num, if_pos h2]
  · have h2 : ¬ zc_bd O k t nm ag 2 = 0 := fun q => h (hI.2.1.trans q)
    obtain ⟨h0, hk2⟩ := zb_tv hk h
    obtain ⟨e3, e4, -⟩ := (hI.2.2 h0).2.1 hk2
    rw [zc_num, if_neg h, zc_num, if_neg h2, e3, e4]
    rfl
theorem zc_num_nan (b : Nat → Int32) : Jvm.FP.Core.val64 (zc_num b) ≠ .nan := by
  unfold zc_num
  split
  · exact zf_c0
  · split
    · exact zf_dmul _
    · exact zf_i2d _
abbrev rm_A_value : Room := { frames := 11, cells := 0, slots := 0, locals := 288 }
set_option maxHeartbeats 4000000 in
set_option maxRecDepth 100000 in
/-- value -/
theorem sp_A_value (l : Launch) {h : zk_H} {V : Nat → zo_O} {uk ut un : Nat → Nat} {ua : Nat → Int32} {uc : Nat} {B E : Nat → Int32} (hS : zc_at h V uk ut un ua uc B E) (hw : ∀ v, v < 2 → zo_wf (V v)) (hu : zc_uv uk ut un ua uc) (huc : uc ≤ 16) {x y : Int32} {K : Option Value → zk_H → Prop} (hK : ∀ (h' : zk_H) (B' E' : Nat → Int32), zc_at h' V uk ut un ua uc B' E' → zc_fr h h' → K (some (.double (if zc_bl x (nI uc) = true ∧ zc_bl y (nI 2) = true then zc_num (zc_bd (V y.toNatClampNeg) (uk x.toNatClampNeg) (ut x.toNatClampNeg) (un x.toNatClampNeg) (ua x.toNatClampNeg).toNatClampNeg) else FP.dconst0))) h') : zk_S l y_A_value b_A_value 3 (some .double) rm_A_value [.ref (0 + 1), .int x, .int y] h K := by
  obtain ⟨hx, hO0, hO1, ⟨fu, hf, hfu⟩, hus, hb, he⟩ := id hS
  refine zk_S_of R_A "value" (by decide) rfl rfl [some (.ref (0 + 1)), some (.int x), some (.int y)] 0 rfl (Nat.le_of_ble_eq_true rfl) (fun p e s m ar below meth c D dA b base C => ?_)
  refine zr_iload_n C d_A_value_0 (n := 1) rfl rfl ?_
  refine zr_aload_n C d_A_value_1 (n := 2) rfl rfl ?_
  refine zr_get C f_A_26 d_A_value_2 (n := 5) rfl hx rfl ?_
  refine zr_callS2 C k_A_40 d_A_value_5 (nx := 8) rfl ⟨by decide, by decide⟩ (Nat.le_of_ble_eq_true rfl) ⟨by decide, by decide⟩ (sp_A_isBelow l ?_)
  refine zr_if_eq C d_A_value_8 (n := 11) rfl (t := 19) (by decide) (fun c1 => ?_) (fun c1 => ?_)
  · replace c1 := zk_bz c1
    refine zr_dconst0 C d_A_value_19 (n := 20) rfl ?_
    exact zr_dret C d_A_value_20 rfl (by rw [if_neg (by simp [c1])] at hK; exact hK h B E hS zc_fr_r) (Nat.zero_le _) (Nat.zero_le _)
  · replace c1 := zk_bn c1
    obtain ⟨j, hj, rfl, qj⟩ := zc_bl_n c1 (by first | decide | omega)
    obtain ⟨uk7, ut6, un4, um⟩ := hu j hj
    refine zr_iload_n C d_A_value_11 (n := 12) rfl rfl ?_
    refine zr_iconst C d_A_value_12 (n := 13) rfl (v := nI 2) (by decide) ?_
    refine zr_callS2 C k_A_40 d_A_value_13 (nx := 16) rfl ⟨by decide, by decide⟩ (Nat.le_of_ble_eq_true rfl) ⟨by decide, by decide⟩ (sp_A_isBelow l ?_)
    refine zr_if_ne C d_A_value_16 (n := 19) rfl (t := 21) (by decide) (fun c2 => ?_) (fun c2 => ?_)
    · replace c2 := zk_bn c2
      obtain ⟨v, hv, rfl, qv⟩ := zc_bl_n c2 (by first | decide | omega)
      refine zr_aload_n C d_A_value_21 (n := 22) rfl rfl ?_
      refine zr_get C f_A_33 d_A_value_22 (n := 25) rfl hx rfl ?_
      refine zr_aload_n C d_A_value_25 (n := 26) rfl rfl ?_
      refine zr_get C f_A_21 d_A_value_26 (n := 29) rfl hx rfl ?_
      refine zr_iload_n C d_A_value_29 (n := 30) rfl rfl ?_
      refine zr_aald C d_A_value_30 (n := 31) rfl (t := 1) rfl hf (vp_in_nI (by omega) (by decide)) (by rw [nI_clamp (by omega)]; exact hfu _ (by omega)) ?_
      refine zr_aload_n C d_A_value_31 (n := 32) rfl rfl ?_
      refine zr_iload_n C d_A_value_32 (n := 33) rfl rfl ?_
      refine zr_callV1 C k_A_44 d_A_value_33 (nx := 36) rfl hx rfl ⟨by decide, by decide⟩ (Nat.le_of_ble_eq_true rfl) ⟨by decide, by decide⟩ (sp_A_offerOf l hS hv ?_)
      have hO := zc_o hS hv
      have ho := hO.1
      refine zr_callV2 C k_A_103 d_A_value_36 (nx := 39) rfl hb rfl ⟨by decide, by decide⟩ (Nat.le_of_ble_eq_true rfl) ⟨by decide, by decide⟩ (sp_B_bind l (i := 36) (u := j + 20) (o := 9 * v + 1) (ag := (ua j).toNatClampNeg) hb (hus j (by omega)) hO (hw v hv) (by omega) (by omega) ut6 uk7 un4 um ?_)
      refine zr_aload_n C d_A_value_39 (n := 40) rfl rfl ?_
      refine zr_get C f_A_33 d_A_value_40 (n := 43) rfl (zk_g1 (by omega) hx) rfl ?_
      refine zr_getN C f_A_121 d_A_value_43 (n := 46) rfl (zk_g0 hb) rfl ?_
      refine zr_if_ne C d_A_value_46 (n := 49) rfl (t := 51) (by decide) (fun c3 => ?_) (fun c3 => ?_)
      · have c3 : ¬ zb_bind (V v) (uk j) (ut j) (un j) (ua j).toNatClampNeg B 2 = 0 := c3
        refine zr_aload_n C d_A_value_51 (n := 52) rfl rfl ?_
        refine zr_get C f_A_33 d_A_value_52 (n := 55) rfl (zk_g1 (by omega) hx) rfl ?_
        refine zr_getN C f_A_125 d_A_value_55 (n := 58) rfl (zk_g0 hb) rfl ?_
        refine zr_iconst C d_A_value_58 (n := 59) rfl (v := nI 1) (by decide) ?_
        refine zr_icmp_ne C d_A_value_59 (n := 62) rfl (t := 77) (by decide) (fun c4 => ?_) (fun c4 => ?_)
        · have c4 : ¬ zb_bind (V v) (uk j) (ut j) (un j) (ua j).toNatClampNeg B 3 = nI 1 := c4
          refine zr_aload_n C d_A_value_77 (n := 78) rfl rfl ?_
          refine zr_get C f_A_33 d_A_value_78 (n := 81) rfl (zk_g1 (by omega) hx) rfl ?_
          refine zr_getN C f_A_128 d_A_value_81 (n := 84) rfl (zk_g0 hb) rfl ?_
          refine zr_i2d C d_A_value_84 (n := 85) rfl ?_
          exact zr_dret (y := zc_num (zc_bd (V v) (uk j) (ut j) (un j) (ua j).toNatClampNeg)) C d_A_value_85 (by rw [← zc_num_eq uk7 B, zc_num, if_neg c3, if_neg c4]) (by rw [if_pos ⟨c1, c2⟩, qj, qv] at hK; exact hK _ _ _ (zc_b36 hS _).1 (zc_b36 hS _).2) (Nat.zero_le _) (Nat.zero_le _)
        · have c4 : zb_bind (V v) (uk j) (ut j) (un j) (ua j).toNatClampNeg B 3 = nI 1 := c4
          refine zr_aload_n C d_A_value_62 (n := 63) rfl rfl ?_
          refine zr_get C f_A_33 d_A_value_63 (n := 66) rfl (zk_g1 (by omega) hx) rfl ?_
          refine zr_getN C f_A_128 d_A_value_66 (n := 69) rfl (zk_g0 hb) rfl ?_
          refine zr_i2d C d_A_value_69 (n := 70) rfl ?_
          refine zr_ldc2d C d_A_value_70 (n := 73) rfl l_A_131 ?_
          refine zr_dmul C d_A_value_73 (n := 74) rfl (zf_n64 (zf_dmul _)) ?_
          refine zr_goto C d_A_value_74 (t := 85) (by decide) ?_
          exact zr_dret (y := zc_num (zc_bd (V v) (uk j) (ut j) (un j) (ua j).toNatClampNeg)) C d_A_value_85 (by rw [← zc_num_eq uk7 B, zc_num, if_neg c3, if_pos c4]) (by rw [if_pos ⟨c1, c2⟩, qj, qv] at hK; exact hK _ _ _ (zc_b36 hS _).1 (zc_b36 hS _).2) (Nat.zero_le _) (Nat.zero_le _)
      · have c3 : zb_bind (V v) (uk j) (ut j) (un j) (ua j).toNatClampNeg B 2 = 0 := c3
        refine zr_dconst0 C d_A_value_49 (n := 50) rfl ?_
        exact zr_dret (y := zc_num (zc_bd (V v) (uk j) (ut j) (un j) (ua j).toNatClampNeg)) C d_A_value_50 (by rw [← zc_num_eq uk7 B, zc_num, if_pos c3]) (by rw [if_pos ⟨c1, c2⟩, qj, qv] at hK; exact hK _ _ _ (zc_b36 hS _).1 (zc_b36 hS _).2) (Nat.zero_le _) (Nat.zero_le _)
    · replace c2 := zk_bz c2
      refine zr_dconst0 C d_A_value_19 (n := 20) rfl ?_
      exact zr_dret C d_A_value_20 rfl (by rw [if_neg (by simp [c1, c2])] at hK; exact hK h B E hS zc_fr_r) (Nat.zero_le _) (Nat.zero_le _)
def zc_sh (a b : Nat) : UInt64 := if a = 0 then FP.dconst1 else FP.ddiv (FP.i2d (nI b)) (FP.i2d (nI a))
def zc_share (V : Nat → zo_O) (uk ut un : Nat → Nat) (ua : Nat → Int32) (uc : Nat) : UInt64 := zc_sh (zc_cnt (fun i => !zc_er (zc_ft V uk ut un ua i)) uc 0 0) (zc_cnt (fun i => decide (¬ zc_ft V uk ut un ua i < 0)) uc 0 0)
theorem zc_sh_nan (a b : Nat) (ha : a < 17) (hb : b < 17) : Jvm.FP.Core.val64 (zc_sh a b) ≠ .nan := by
  unfold zc_sh
  split
  · exact zf_c1
  · exact zf_ddiv b hb a ha (by assumption)
theorem zk_n0 {a : Nat} (ha : a < 2147483648) (h : nI a = 0) : a = 0 := zk_eq ha (by decide) (h.trans nI_0.symm)
abbrev rm_A_share : Room := { frames := 12, cells := 0, slots := 0, locals := 309 }
set_option maxHeartbeats 4000000 in
set_option maxRecDepth 100000 in
/-- share -/
theorem sp_A_share (l : Launch) {h : zk_H} {V : Nat → zo_O} {uk ut un : Nat → Nat} {ua : Nat → Int32} {uc : Nat} {B E : Nat → Int32} (hS : zc_at h V uk ut un ua uc B E) (hw : ∀ v, v < 2 → zo_wf (V v)) (hu : zc_uv uk ut un ua uc) (huc : uc ≤ 16) {K : Option Value → zk_H → Prop} (hK : ∀ (h' : zk_H) (B' E' : Nat → Int32), zc_at h' V uk ut un ua uc B' E' → zc_fr h h' → K (some (.double (zc_share V uk ut un ua uc))) h') : zk_S l y_A_share b_A_share 5 (some .double) rm_A_share [.ref (0 + 1)] h K := by
  refine zk_S_of R_A "share" (by decide) rfl rfl [some (.ref (0 + 1)), none, none, none, none] 4 rfl (Nat.le_of_ble_eq_true rfl) (fun p e s m ar below meth c D dA b base C => ?_)
  have L : ∀ (n j a g : Nat) (h1 : zk_H) (B1 E1 : Nat → Int32), zc_at h1 V uk ut un ua uc B1 E1 → zc_fr h h1 → n + j = uc → a ≤ j → g ≤ j → (∀ (h' : zk_H) (B' E' : Nat → Int32), zc_at h' V uk ut un ua uc B' E' → zc_fr h h' → K (some (.double (zc_sh (zc_cnt (fun i => !zc_er (zc_ft V uk ut un ua i)) n j a) (zc_cnt (fun i => decide (¬ zc_ft V uk ut un ua i < 0)) n j g)))) h') → zk_V p l e rm_A_share s m ar below meth c 5 D dA b base (MQ below (zk_Q K D dA b base) ar s rm_A_share.cells rm_A_share.slots (fun q : Nat => base ≤ q)) 0 0 6 [some (.ref (0 + 1)), some (.int (nI a)), some (.int (nI g)), some (.int (nI j)), none] [] h1 := by
    intro n
    induction n with
    | zero =>
      intro j a g h1 B1 E1 hS1 hF1 hn ha hg hK
      refine zr_iload_n C d_A_share_6 (n := 7) rfl rfl ?_
      refine zr_aload_n C d_A_share_7 (n := 8) rfl rfl ?_
      refine zr_get C f_A_26 d_A_share_8 (n := 11) rfl hS1.1 rfl ?_
      refine zr_icmp_ge C d_A_share_11 (n := 14) rfl (t := 46) (by decide) (fun c1 => ?_) (fun c1 => ?_)
      · refine zr_iload_n C d_A_share_46 (n := 47) rfl rfl ?_
        refine zr_if_ne C d_A_share_47 (n := 50) rfl (t := 54) (by decide) (fun c2 => ?_) (fun c2 => ?_)
        · refine zr_iload_n C d_A_share_54 (n := 55) rfl rfl ?_
          refine zr_i2d C d_A_share_55 (n := 56) rfl ?_
          refine zr_iload_n C d_A_share_56 (n := 57) rfl rfl ?_
          refine zr_i2d C d_A_share_57 (n := 58) rfl ?_
          refine zr_ddiv C d_A_share_58 (n := 59) rfl (zf_n64 (zf_ddiv g (by omega) a (by omega) (fun q => c2 (by rw [q]; rfl)))) ?_
          exact zr_dret C d_A_share_59 (by rw [zc_cnt, zc_cnt, zc_sh, if_neg (by first | exact zk_n0 (by omega) c2 | exact fun q => c2 (by rw [q]; rfl))]) (hK h1 B1 E1 hS1 hF1) (Nat.zero_le _) (Nat.zero_le _)
        · refine zr_dconst1 C d_A_share_50 (n := 51) rfl ?_
          refine zr_goto C d_A_share_51 (t := 59) (by decide) ?_
          exact zr_dret C d_A_share_59 (by rw [zc_cnt, zc_cnt, zc_sh, if_pos (by first | exact zk_n0 (by omega) c2 | exact fun q => c2 (by rw [q]; rfl))]) (hK h1 B1 E1 hS1 hF1) (Nat.zero_le _) (Nat.zero_le _)
      · exact absurd (zk_nle (by omega) (by omega) c1) (by omega)
    | succ n ih =>
      intro j a g h1 B1 E1 hS1 hF1 hn ha hg hK
      refine zr_iload_n C d_A_share_6 (n := 7) rfl rfl ?_
      refine zr_aload_n C d_A_share_7 (n := 8) rfl rfl ?_
      refine zr_get C f_A_26 d_A_share_8 (n := 11) rfl hS1.1 rfl ?_
      refine zr_icmp_ge C d_A_share_11 (n := 14) rfl (t := 46) (by decide) (fun c1 => ?_) (fun c1 => ?_)
      · exact absurd (zk_le (by omega) (by omega) c1) (by omega)
      · have hj : j < uc := by omega
        refine zr_aload_n C d_A_share_14 (n := 15) rfl rfl ?_
        refine zr_iload_n C d_A_share_15 (n := 16) rfl rfl ?_
        refine zr_callV1 C k_A_110 d_A_share_16 (nx := 19) rfl hS1.1 rfl ⟨by decide, by decide⟩ (Nat.le_of_ble_eq_true rfl) ⟨by decide, by decide⟩ (sp_A_fateOf l hS1 hw hu huc hj (fun h2 B2 E2 hS2 hF2 => ?_))
        refine zr_istore C d_A_share_19 (n := 21) rfl (by decide) rfl ?_
        refine zr_iload C d_A_share_21 (n := 23) rfl rfl ?_
        refine zr_callS1 C k_A_133 d_A_share_23 (nx := 26) rfl ⟨by decide, by decide⟩ (Nat.le_of_ble_eq_true rfl) ⟨by decide, by decide⟩ (sp_A_isError l ?_)
        refine zr_if_ne C d_A_share_26 (n := 29) rfl (t := 32) (by decide) (fun c2 => ?_) (fun c2 => ?_)
        · replace c2 := zk_bn c2
          refine zr_iload C d_A_share_32 (n := 34) rfl rfl ?_
          refine zr_if_lt C d_A_share_34 (n := 37) rfl (t := 40) (by decide) (fun c3 => ?_) (fun c3 => ?_)
          · refine zr_iinc C d_A_share_40 (n := 43) rfl rfl (w := 1) (by decide) (nI_1 j) (by decide) rfl ?_
            refine zr_goto C d_A_share_43 (t := 6) (by decide) ?_
            refine zr_drop 4 ?_
            exact ih (j + 1) _ _ h2 B2 E2 hS2 (zc_fr_t hF1 hF2) (by omega) (by omega) (by omega) (by rw [zc_cnt_0 (f := (fun i => !zc_er (zc_ft V uk ut un ua i))) (j := j) (by simp [c2]), zc_cnt_0 (f := (fun i => decide (¬ zc_ft V uk ut un ua i < 0))) (j := j) (by simp [c3])] at hK; exact hK)
          · refine zr_iinc C d_A_share_37 (n := 40) rfl rfl (w := 1) (by decide) (nI_1 g) (by decide) rfl ?_
            refine zr_iinc C d_A_share_40 (n := 43) rfl rfl (w := 1) (by decide) (nI_1 j) (by decide) rfl ?_
            refine zr_goto C d_A_share_43 (t := 6) (by decide) ?_
            refine zr_drop 4 ?_
            exact ih (j + 1) _ _ h2 B2 E2 hS2 (zc_fr_t hF1 hF2) (by omega) (by omega) (by omega) (by rw [zc_cnt_0 (f := (fun i => !zc_er (zc_ft V uk ut un ua i))) (j := j) (by simp [c2]), zc_cnt_1 (f := (fun i => decide (¬ zc_ft V uk ut un ua i < 0))) (j := j) (by simp [c3])] at hK; exact hK)
        · replace c2 := zk_bz c2
          refine zr_iinc C d_A_share_29 (n := 32) rfl rfl (w := 1) (by decide) (nI_1 a) (by decide) rfl ?_
          refine zr_iload C d_A_share_32 (n := 34) rfl rfl ?_
          refine zr_if_lt C d_A_share_34 (n := 37) rfl (t := 40) (by decide) (fun c4 => ?_) (fun c4 => ?_)
          · refine zr_iinc C d_A_share_40 (n := 43) rfl rfl (w := 1) (by decide) (nI_1 j) (by decide) rfl ?_
            refine zr_goto C d_A_share_43 (t := 6) (by decide) ?_
            refine zr_drop 4 ?_
            exact ih (j + 1) _ _ h2 B2 E2 hS2 (zc_fr_t hF1 hF2) (by omega) (by omega) (by omega) (by rw [zc_cnt_1 (f := (fun i => !zc_er (zc_ft V uk ut un ua i))) (j := j) (by simp [c2]), zc_cnt_0 (f := (fun i => decide (¬ zc_ft V uk ut un ua i < 0))) (j := j) (by simp [c4])] at hK; exact hK)
          · refine zr_iinc C d_A_share_37 (n := 40) rfl rfl (w := 1) (by decide) (nI_1 g) (by decide) rfl ?_
            refine zr_iinc C d_A_share_40 (n := 43) rfl rfl (w := 1) (by decide) (nI_1 j) (by decide) rfl ?_
            refine zr_goto C d_A_share_43 (t := 6) (by decide) ?_
            refine zr_drop 4 ?_
            exact ih (j + 1) _ _ h2 B2 E2 hS2 (zc_fr_t hF1 hF2) (by omega) (by omega) (by omega) (by rw [zc_cnt_1 (f := (fun i => !zc_er (zc_ft V uk ut un ua i))) (j := j) (by simp [c2]), zc_cnt_1 (f := (fun i => decide (¬ zc_ft V uk ut un ua i < 0))) (j := j) (by simp [c4])] at hK; exact hK)
  refine zr_iconst C d_A_share_0 (n := 1) rfl (v := nI 0) (by decide) ?_
  refine zr_istore_n C d_A_share_1 (n := 2) rfl (by decide) rfl ?_
  refine zr_iconst C d_A_share_2 (n := 3) rfl (v := nI 0) (by decide) ?_
  refine zr_istore_n C d_A_share_3 (n := 4) rfl (by decide) rfl ?_
  refine zr_iconst C d_A_share_4 (n := 5) rfl (v := nI 0) (by decide) ?_
  refine zr_istore_n C d_A_share_5 (n := 6) rfl (by decide) rfl ?_
  exact L uc 0 0 0 h B E hS zc_fr_r rfl (Nat.le_refl 0) (Nat.le_refl 0) hK
