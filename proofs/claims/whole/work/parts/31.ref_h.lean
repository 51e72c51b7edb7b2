theorem zk_and1 (x : Int32) : x &&& nI 1 = if bt x 0 = true then nI 1 else 0 := by
  refine b_ext (fun i hi => ?_)
  rw [b_and, zk_bt_1 i hi]
  by_cases hx : bt x 0 = true
  · rw [if_pos hx, zk_bt_1 i hi]
    by_cases h0 : i = 0
    · subst h0; rw [hx]; rfl
    · rw [decide_eq_false h0, Bool.and_false]
  · rw [if_neg hx, b_0]
    by_cases h0 : i = 0
    · subst h0; rw [show bt x 0 = false by simpa using hx]; rfl
    · rw [decide_eq_false h0, Bool.and_false]
theorem zk_nz1 (x : Int32) : zb_nz x (nI 1) = bt x 0 := by
  unfold zb_nz
  rw [zk_and1]
  by_cases hx : bt x 0 = true
  · rw [if_pos hx, hx]; decide
  · rw [if_neg hx, show bt x 0 = false by simpa using hx]; decide
theorem zk_same1 {x y : Int32} : (x &&& nI 1 = y &&& nI 1) ↔ zb_nz x (nI 1) = zb_nz y (nI 1) := by
  rw [zk_nz1, zk_nz1, zk_and1, zk_and1]
  cases bt x 0 <;> cases bt y 0 <;> decide
theorem zk_b_1 {c : Bool} (h : zk_b c = nI 1) : c = true := by
  cases c with
  | true => rfl
  | false => exact absurd h (by decide)
theorem zk_b_n1 {c : Bool} (h : ¬ zk_b c = nI 1) : c = false := by
  cases c with
  | false => rfl
  | true => exact absurd rfl h
theorem zb_sb_x {O : zo_O} {t : Nat} {B : Nat → Int32} (hth : zo_th O t = true) (h : zb_nz (O 0 t) (nI 4) = true) : zb_sb O t B = true := by
  unfold zb_sb
  rw [zo_hf_nz hth, h]; rfl
theorem zb_sb_y {O P : zo_O} {t : Nat} {B : Nat → Int32} (hth : zo_th O t = true) (hB : B 1 = zk_b (zb_nz (P 0 t) (nI 1))) (h : ¬ O 0 t &&& nI 1 = P 0 t &&& nI 1) : zb_sb O t B = true := by
  have hn : ¬ zk_b (zb_nz (O 0 t) (nI 1)) = zk_b (zb_nz (P 0 t) (nI 1)) := fun q => h (zk_same1.mpr (by
    revert q
    cases zb_nz (O 0 t) (nI 1) <;> cases zb_nz (P 0 t) (nI 1) <;> decide))
  unfold zb_sb
  rw [hB, zo_hf_nz (x := nI 1) hth, decide_eq_true hn, Bool.or_true]
theorem zb_sb_f {O P : zo_O} {t : Nat} {B : Nat → Int32} (hth : zo_th O t = true) (hB : B 1 = zk_b (zb_nz (P 0 t) (nI 1))) (h4 : zb_nz (O 0 t) (nI 4) = false) (h : O 0 t &&& nI 1 = P 0 t &&& nI 1) : zb_sb O t B = false := by
  unfold zb_sb
  rw [hB, zo_hf_nz (x := nI 1) hth, zo_hf_nz hth, h4, zk_same1.mp h, decide_eq_false (fun q => q rfl)]; rfl
theorem zb_fo_x {O : zo_O} {t : Nat} {B : Nat → Int32} {r : Option Nat} (h : zb_sb O t B = true) : zb_fo O t B r = -9 := by
  unfold zb_fo
  rw [if_pos h]
abbrev rm_M_linked : Room := { frames := 4, cells := 0, slots := 0, locals := 109 }
set_option maxHeartbeats 4000000 in
set_option maxRecDepth 100000 in
/-- linked -/
theorem sp_M_linked (l : Launch) {h : zk_H} {V : Nat → zo_O} {S : zo_O} {us : Nat} (hM : zm_at h S us) (hR : zm_R V S) (hok : ∀ v, v < 2 → zo_ok (V v)) (hex : ∀ v, v < 2 → zo_ex (V v)) {k t nm j : Nat} {a9 : Int32} (hj : j < 16) (e0 : S 9 (4 * j) = nI k) (e1 : S 9 (4 * j + 1) = nI t) (e2 : S 9 (4 * j + 2) = nI nm) (e3 : S 9 (4 * j + 3) = a9) (hk : k < 7) (ht : t < 6) (hnm : nm < 4) (hum : k = 2 ∨ k = 3 ∨ k = 6 → nm < 3 ∧ a9 = nI a9.toNatClampNeg ∧ a9.toNatClampNeg < 4) {K : Option Value → zk_H → Prop} (hK : ∀ (h' : zk_H) (S' : zo_O), zm_mv h h' S S' us 0 → K (some (.int (zc_fate V k t nm a9.toNatClampNeg))) h') : zk_S l y_M_linked b_M_linked 7 (some .int) rm_M_linked [.ref (38 + 1), .int (nI j)] h K := by
  obtain ⟨hm, s0, s1, s2, s3, s4, s5, s6, s7, s8, s9, s10, s11⟩ := id hM
  refine zk_S_of R_M "linked" (by decide) rfl rfl [some (.ref (38 + 1)), some (.int (nI j)), none, none, none, none, none] 5 rfl (Nat.le_of_ble_eq_true rfl) (fun p e s m ar below meth c D dA b base C => ?_)
  rcases (show k = 0 ∨ k = 1 ∨ k = 2 ∨ k = 3 ∨ k = 4 ∨ k = 5 ∨ k = 6 by omega) with rfl | rfl | rfl | rfl | rfl | rfl | rfl
  · refine zr_aload_n C d_M_linked_0 (n := 1) rfl rfl ?_
    refine zr_iload_n C d_M_linked_1 (n := 2) rfl rfl ?_
    refine zr_iconst C d_M_linked_2 (n := 3) rfl (v := nI 0) (by decide) ?_
    refine zr_callV2 C k_M_94 d_M_linked_3 (nx := 6) rfl hm rfl ⟨by decide, by decide⟩ (Nat.le_of_ble_eq_true rfl) ⟨by decide, by decide⟩ (sp_M_bind l hM hR hok hex (v := 0) (by decide) hj e0 e1 e2 e3 hk ht hnm hum (fun h2 S2 mv hbw => ?_))
    obtain ⟨hm, s0, s1, s2, s3, s4, s5, s6, s7, s8, s9, s10, s11⟩ := id mv.1
    replace hR := zm_R_c hR mv.2.1
    rw [← mv.2.1 9 (by decide)] at e0 e1 e2 e3
    refine zr_istore_n C d_M_linked_6 (n := 7) rfl (by decide) rfl ?_
    refine zr_aload_n C d_M_linked_7 (n := 8) rfl rfl ?_
    refine zr_get C f_M_38 d_M_linked_8 (n := 11) rfl hm rfl ?_
    refine zr_iconst C d_M_linked_11 (n := 12) rfl (v := nI 4) (by decide) ?_
    refine zr_iload_n C d_M_linked_12 (n := 13) rfl rfl ?_
    refine zr_imul C d_M_linked_13 (n := 14) rfl ?_
    refine zr_toe (by simp only [pk_mul, nI_add]; rfl) ?_
    refine zr_ialdN C d_M_linked_14 (n := 15) rfl s9 rfl (by omega) (by decide) ?_
    refine zr_toe (y := nI 0) e0 ?_
    refine zr_istore_n C d_M_linked_15 (n := 16) rfl (by decide) rfl ?_
    refine zr_aload_n C d_M_linked_16 (n := 17) rfl rfl ?_
    refine zr_get C f_M_38 d_M_linked_17 (n := 20) rfl hm rfl ?_
    refine zr_iconst C d_M_linked_20 (n := 21) rfl (v := nI 4) (by decide) ?_
    refine zr_iload_n C d_M_linked_21 (n := 22) rfl rfl ?_
    refine zr_imul C d_M_linked_22 (n := 23) rfl ?_
    refine zr_toe (by simp only [pk_mul, nI_add]; rfl) ?_
    refine zr_iconst C d_M_linked_23 (n := 24) rfl (v := nI 1) (by decide) ?_
    refine zr_iadd C d_M_linked_24 (n := 25) rfl ?_
    refine zr_toe (by simp only [pk_mul, nI_add]; rfl) ?_
    refine zr_ialdN C d_M_linked_25 (n := 26) rfl s9 rfl (by omega) (by decide) ?_
    refine zr_toe (y := nI t) e1 ?_
    refine zr_istore C d_M_linked_26 (n := 28) rfl (by decide) rfl ?_
    refine zr_aload_n C d_M_linked_28 (n := 29) rfl rfl ?_
    refine zr_get C f_M_38 d_M_linked_29 (n := 32) rfl hm rfl ?_
    refine zr_iconst C d_M_linked_32 (n := 33) rfl (v := nI 4) (by decide) ?_
    refine zr_iload_n C d_M_linked_33 (n := 34) rfl rfl ?_
    refine zr_imul C d_M_linked_34 (n := 35) rfl ?_
    refine zr_toe (by simp only [pk_mul, nI_add]; rfl) ?_
    refine zr_iconst C d_M_linked_35 (n := 36) rfl (v := nI 2) (by decide) ?_
    refine zr_iadd C d_M_linked_36 (n := 37) rfl ?_
    refine zr_toe (by simp only [pk_mul, nI_add]; rfl) ?_
    refine zr_ialdN C d_M_linked_37 (n := 38) rfl s9 rfl (by omega) (by decide) ?_
    refine zr_toe (y := nI nm) e2 ?_
    refine zr_istore C d_M_linked_38 (n := 40) rfl (by decide) rfl ?_
    refine zr_iload_n C d_M_linked_40 (n := 41) rfl rfl ?_
    refine zr_if_eq C d_M_linked_41 (n := 44) rfl (t := 46) (by decide) (fun c1 => ?_) (fun c1 => ?_)
    · have hb := hbw c1
      have hth0 := (zc_bd_th c1).1
      obtain ⟨w0, w1, w2, w3, w4, w5⟩ := hb.1 (by decide)
      obtain ⟨j9, hj9, h39, hB2, hB3, hB4⟩ := zc_bd_f (hok 0 (by decide)) (by decide) ht hnm c1
      have hp3 : ¬ (zc_bd (V 0) 0 t nm a9.toNatClampNeg) 3 < 0 := by
        rw [hB3]
        rcases ((hok 0 (by decide)).2.2.1 j9 hj9 h39).1 with q | q
        · rw [q]; decide
        · rw [q]; decide
      refine zr_aload_n C d_M_linked_46 (n := 47) rfl rfl ?_
      refine zr_get C f_M_41 d_M_linked_47 (n := 50) rfl hm rfl ?_
      refine zr_iconst C d_M_linked_50 (n := 51) rfl (v := nI 0) (by decide) ?_
      refine zr_ialdN C d_M_linked_51 (n := 52) rfl s10 (j := 0) rfl (by decide) (by decide) ?_
      refine zr_toe (y := zk_b (zb_nz (V 0 3 j9) (nI 16))) (w0.trans hB2) ?_
      refine zr_iconst C d_M_linked_52 (n := 53) rfl (v := nI 1) (by decide) ?_
      refine zr_icmp_ne C d_M_linked_53 (n := 56) rfl (t := 65) (by decide) (fun c2 => ?_) (fun c2 => ?_)
      · replace c2 := zk_b_n1 c2
        have hz2 : (zc_bd (V 0) 0 t nm a9.toNatClampNeg) 2 = 0 := by rw [hB2, c2]; rfl
        rw [if_pos hz2] at w3
        refine zr_aload_n C d_M_linked_65 (n := 66) rfl rfl ?_
        refine zr_get C f_M_7 d_M_linked_66 (n := 69) rfl hm rfl ?_
        refine zr_bipush C d_M_linked_69 (n := 71) rfl (v := nI 6) (by decide) ?_
        refine zr_iload C d_M_linked_71 (n := 73) rfl rfl ?_
        refine zr_iadd C d_M_linked_73 (n := 74) rfl ?_
        refine zr_toe (by simp only [pk_mul, nI_add]; rfl) ?_
        refine zr_zaldN C d_M_linked_74 (n := 75) rfl s0 rfl (by omega) (by decide) ?_
        refine zr_toe (y := zk_b (zo_th (V 1) t)) ((hR 1 (by decide)).1 t (by omega)).1 ?_
        refine zr_if_ne C d_M_linked_75 (n := 78) rfl (t := 81) (by decide) (fun c3 => ?_) (fun c3 => ?_)
        · replace c3 := zk_bn c3
          have hth := c3
          refine zr_aload_n C d_M_linked_81 (n := 82) rfl rfl ?_
          refine zr_get C f_M_13 d_M_linked_82 (n := 85) rfl hm rfl ?_
          refine zr_bipush C d_M_linked_85 (n := 87) rfl (v := nI 6) (by decide) ?_
          refine zr_iload C d_M_linked_87 (n := 89) rfl rfl ?_
          refine zr_iadd C d_M_linked_89 (n := 90) rfl ?_
          refine zr_toe (by simp only [pk_mul, nI_add]; rfl) ?_
          refine zr_ialdN C d_M_linked_90 (n := 91) rfl s1 rfl (by omega) (by decide) ?_
          refine zr_toe (y := V 1 0 t) (((hR 1 (by decide)).1 t (by omega)).2 hth).1 ?_
          refine zr_istore C d_M_linked_91 (n := 93) rfl (by decide) rfl ?_
          refine zr_iload C d_M_linked_93 (n := 95) rfl rfl ?_
          refine zr_bipush C d_M_linked_95 (n := 97) rfl (v := nI 8) (by decide) ?_
          refine zr_iand C d_M_linked_97 (n := 98) rfl ?_
          refine zr_if_eq C d_M_linked_98 (n := 101) rfl (t := 104) (by decide) (fun c4 => ?_) (fun c4 => ?_)
          · replace c4 := zb_nzf c4
            refine zr_iload_n C d_M_linked_104 (n := 105) rfl rfl ?_
            refine zr_iconst C d_M_linked_105 (n := 106) rfl (v := nI 2) (by decide) ?_
            refine zr_icmp_ge C d_M_linked_106 (n := 109) rfl (t := 119) (by decide) (fun c5 => ?_) (fun c5 => ?_)
            · exact absurd c5 (by decide)
            · refine zr_aload_n C d_M_linked_109 (n := 110) rfl rfl ?_
              refine zr_iload_n C d_M_linked_110 (n := 111) rfl rfl ?_
              refine zr_iload C d_M_linked_111 (n := 113) rfl rfl ?_
              refine zr_iload C d_M_linked_113 (n := 115) rfl rfl ?_
              refine zr_callV3 C k_M_100 d_M_linked_115 (nx := 118) rfl hm rfl ⟨by decide, by decide⟩ (Nat.le_of_ble_eq_true rfl) ⟨by decide, by decide⟩ (sp_M_linkField l mv.1 hR hok (B := (zc_bd (V 0) 0 t nm a9.toNatClampNeg)) (by decide) ht hnm hth w1 w3 hp3 (fun h3 S3 mv3 => ?_))
              rw [zc_fate, if_pos c1, zb_fw_0] at hK
              rw [if_pos hz2] at hK
              rw [if_pos hth] at hK
              rw [if_neg (by rw [zo_hf0 c4]; decide)] at hK
              exact zr_iret C d_M_linked_118 rfl (hK _ _ (zm_mv_t mv mv3)) (Nat.zero_le _) (Nat.zero_le _)
          · replace c4 := zb_nzt c4
            refine zr_bipush C d_M_linked_101 (n := 103) rfl (v := -8) (by decide) ?_
            rw [zc_fate, if_pos c1, zb_fw_0] at hK
            rw [if_pos hz2] at hK
            rw [if_pos hth] at hK
            rw [if_pos (zo_hf1 hth c4)] at hK
            exact zr_iret C d_M_linked_103 rfl (hK _ _ mv) (Nat.zero_le _) (Nat.zero_le _)
        · replace c3 := zk_bz c3
          refine zr_bipush C d_M_linked_78 (n := 80) rfl (v := -6) (by decide) ?_
          rw [zc_fate, if_pos c1, zb_fw_0] at hK
          rw [if_pos hz2] at hK
          rw [if_neg (by rw [c3]; decide)] at hK
          exact zr_iret C d_M_linked_80 rfl (hK _ _ mv) (Nat.zero_le _) (Nat.zero_le _)
      · replace c2 := zk_b_1 c2
        have hz2 : ¬ (zc_bd (V 0) 0 t nm a9.toNatClampNeg) 2 = 0 := by rw [hB2, c2]; decide
        rw [if_neg hz2] at w5
        refine zr_aload_n C d_M_linked_56 (n := 57) rfl rfl ?_
        refine zr_iload C d_M_linked_57 (n := 59) rfl rfl ?_
        refine zr_iload C d_M_linked_59 (n := 61) rfl rfl ?_
        refine zr_callV2 C k_M_97 d_M_linked_61 (nx := 64) rfl hm rfl ⟨by decide, by decide⟩ (Nat.le_of_ble_eq_true rfl) ⟨by decide, by decide⟩ (sp_M_linkValue l mv.1 hR hok (B := (zc_bd (V 0) 0 t nm a9.toNatClampNeg)) ht hnm w1 w5 (fun h3 S3 mv3 => ?_))
        rw [zc_fate, if_pos c1, zb_fw_0] at hK
        rw [if_neg hz2] at hK
        exact zr_iret C d_M_linked_64 rfl (hK _ _ (zm_mv_t mv mv3)) (Nat.zero_le _) (Nat.zero_le _)
    · refine zr_iload_n C d_M_linked_44 (n := 45) rfl rfl ?_
      rw [zc_fate, if_neg c1] at hK
      exact zr_iret C d_M_linked_45 rfl (hK _ _ mv) (Nat.zero_le _) (Nat.zero_le _)
  · refine zr_aload_n C d_M_linked_0 (n := 1) rfl rfl ?_
    refine zr_iload_n C d_M_linked_1 (n := 2) rfl rfl ?_
    refine zr_iconst C d_M_linked_2 (n := 3) rfl (v := nI 0) (by decide) ?_
    refine zr_callV2 C k_M_94 d_M_linked_3 (nx := 6) rfl hm rfl ⟨by decide, by decide⟩ (Nat.le_of_ble_eq_true rfl) ⟨by decide, by decide⟩ (sp_M_bind l hM hR hok hex (v := 0) (by decide) hj e0 e1 e2 e3 hk ht hnm hum (fun h2 S2 mv hbw => ?_))
    obtain ⟨hm, s0, s1, s2, s3, s4, s5, s6, s7, s8, s9, s10, s11⟩ := id mv.1
    replace hR := zm_R_c hR mv.2.1
    rw [← mv.2.1 9 (by decide)] at e0 e1 e2 e3
    refine zr_istore_n C d_M_linked_6 (n := 7) rfl (by decide) rfl ?_
    refine zr_aload_n C d_M_linked_7 (n := 8) rfl rfl ?_
    refine zr_get C f_M_38 d_M_linked_8 (n := 11) rfl hm rfl ?_
    refine zr_iconst C d_M_linked_11 (n := 12) rfl (v := nI 4) (by decide) ?_
    refine zr_iload_n C d_M_linked_12 (n := 13) rfl rfl ?_
    refine zr_imul C d_M_linked_13 (n := 14) rfl ?_
    refine zr_toe (by simp only [pk_mul, nI_add]; rfl) ?_
    refine zr_ialdN C d_M_linked_14 (n := 15) rfl s9 rfl (by omega) (by decide) ?_
    refine zr_toe (y := nI 1) e0 ?_
    refine zr_istore_n C d_M_linked_15 (n := 16) rfl (by decide) rfl ?_
    refine zr_aload_n C d_M_linked_16 (n := 17) rfl rfl ?_
    refine zr_get C f_M_38 d_M_linked_17 (n := 20) rfl hm rfl ?_
    refine zr_iconst C d_M_linked_20 (n := 21) rfl (v := nI 4) (by decide) ?_
    refine zr_iload_n C d_M_linked_21 (n := 22) rfl rfl ?_
    refine zr_imul C d_M_linked_22 (n := 23) rfl ?_
    refine zr_toe (by simp only [pk_mul, nI_add]; rfl) ?_
    refine zr_iconst C d_M_linked_23 (n := 24) rfl (v := nI 1) (by decide) ?_
    refine zr_iadd C d_M_linked_24 (n := 25) rfl ?_
    refine zr_toe (by simp only [pk_mul, nI_add]; rfl) ?_
    refine zr_ialdN C d_M_linked_25 (n := 26) rfl s9 rfl (by omega) (by decide) ?_
    refine zr_toe (y := nI t) e1 ?_
    refine zr_istore C d_M_linked_26 (n := 28) rfl (by decide) rfl ?_
    refine zr_aload_n C d_M_linked_28 (n := 29) rfl rfl ?_
    refine zr_get C f_M_38 d_M_linked_29 (n := 32) rfl hm rfl ?_
    refine zr_iconst C d_M_linked_32 (n := 33) rfl (v := nI 4) (by decide) ?_
    refine zr_iload_n C d_M_linked_33 (n := 34) rfl rfl ?_
    refine zr_imul C d_M_linked_34 (n := 35) rfl ?_
    refine zr_toe (by simp only [pk_mul, nI_add]; rfl) ?_
    refine zr_iconst C d_M_linked_35 (n := 36) rfl (v := nI 2) (by decide) ?_
    refine zr_iadd C d_M_linked_36 (n := 37) rfl ?_
    refine zr_toe (by simp only [pk_mul, nI_add]; rfl) ?_
    refine zr_ialdN C d_M_linked_37 (n := 38) rfl s9 rfl (by omega) (by decide) ?_
    refine zr_toe (y := nI nm) e2 ?_
    refine zr_istore C d_M_linked_38 (n := 40) rfl (by decide) rfl ?_
    refine zr_iload_n C d_M_linked_40 (n := 41) rfl rfl ?_
    refine zr_if_eq C d_M_linked_41 (n := 44) rfl (t := 46) (by decide) (fun c1 => ?_) (fun c1 => ?_)
    · have hb := hbw c1
      have hth0 := (zc_bd_th c1).1
      obtain ⟨w0, w1, w2, w3, w4, w5⟩ := hb.1 (by decide)
      obtain ⟨j9, hj9, h39, hB2, hB3, hB4⟩ := zc_bd_f (hok 0 (by decide)) (by decide) ht hnm c1
      have hp3 : ¬ (zc_bd (V 0) 1 t nm a9.toNatClampNeg) 3 < 0 := by
        rw [hB3]
        rcases ((hok 0 (by decide)).2.2.1 j9 hj9 h39).1 with q | q
        · rw [q]; decide
        · rw [q]; decide
      refine zr_aload_n C d_M_linked_46 (n := 47) rfl rfl ?_
      refine zr_get C f_M_41 d_M_linked_47 (n := 50) rfl hm rfl ?_
      refine zr_iconst C d_M_linked_50 (n := 51) rfl (v := nI 0) (by decide) ?_
      refine zr_ialdN C d_M_linked_51 (n := 52) rfl s10 (j := 0) rfl (by decide) (by decide) ?_
      refine zr_toe (y := zk_b (zb_nz (V 0 3 j9) (nI 16))) (w0.trans hB2) ?_
      refine zr_iconst C d_M_linked_52 (n := 53) rfl (v := nI 1) (by decide) ?_
      refine zr_icmp_ne C d_M_linked_53 (n := 56) rfl (t := 65) (by decide) (fun c2 => ?_) (fun c2 => ?_)
      · replace c2 := zk_b_n1 c2
        have hz2 : (zc_bd (V 0) 1 t nm a9.toNatClampNeg) 2 = 0 := by rw [hB2, c2]; rfl
        rw [if_pos hz2] at w3
        refine zr_aload_n C d_M_linked_65 (n := 66) rfl rfl ?_
        refine zr_get C f_M_7 d_M_linked_66 (n := 69) rfl hm rfl ?_
        refine zr_bipush C d_M_linked_69 (n := 71) rfl (v := nI 6) (by decide) ?_
        refine zr_iload C d_M_linked_71 (n := 73) rfl rfl ?_
        refine zr_iadd C d_M_linked_73 (n := 74) rfl ?_
        refine zr_toe (by simp only [pk_mul, nI_add]; rfl) ?_
        refine zr_zaldN C d_M_linked_74 (n := 75) rfl s0 rfl (by omega) (by decide) ?_
        refine zr_toe (y := zk_b (zo_th (V 1) t)) ((hR 1 (by decide)).1 t (by omega)).1 ?_
        refine zr_if_ne C d_M_linked_75 (n := 78) rfl (t := 81) (by decide) (fun c3 => ?_) (fun c3 => ?_)
        · replace c3 := zk_bn c3
          have hth := c3
          refine zr_aload_n C d_M_linked_81 (n := 82) rfl rfl ?_
          refine zr_get C f_M_13 d_M_linked_82 (n := 85) rfl hm rfl ?_
          refine zr_bipush C d_M_linked_85 (n := 87) rfl (v := nI 6) (by decide) ?_
          refine zr_iload C d_M_linked_87 (n := 89) rfl rfl ?_
          refine zr_iadd C d_M_linked_89 (n := 90) rfl ?_
          refine zr_toe (by simp only [pk_mul, nI_add]; rfl) ?_
          refine zr_ialdN C d_M_linked_90 (n := 91) rfl s1 rfl (by omega) (by decide) ?_
          refine zr_toe (y := V 1 0 t) (((hR 1 (by decide)).1 t (by omega)).2 hth).1 ?_
          refine zr_istore C d_M_linked_91 (n := 93) rfl (by decide) rfl ?_
          refine zr_iload C d_M_linked_93 (n := 95) rfl rfl ?_
          refine zr_bipush C d_M_linked_95 (n := 97) rfl (v := nI 8) (by decide) ?_
          refine zr_iand C d_M_linked_97 (n := 98) rfl ?_
          refine zr_if_eq C d_M_linked_98 (n := 101) rfl (t := 104) (by decide) (fun c4 => ?_) (fun c4 => ?_)
          · replace c4 := zb_nzf c4
            refine zr_iload_n C d_M_linked_104 (n := 105) rfl rfl ?_
            refine zr_iconst C d_M_linked_105 (n := 106) rfl (v := nI 2) (by decide) ?_
            refine zr_icmp_ge C d_M_linked_106 (n := 109) rfl (t := 119) (by decide) (fun c5 => ?_) (fun c5 => ?_)
            · exact absurd c5 (by decide)
            · refine zr_aload_n C d_M_linked_109 (n := 110) rfl rfl ?_
              refine zr_iload_n C d_M_linked_110 (n := 111) rfl rfl ?_
              refine zr_iload C d_M_linked_111 (n := 113) rfl rfl ?_
              refine zr_iload C d_M_linked_113 (n := 115) rfl rfl ?_
              refine zr_callV3 C k_M_100 d_M_linked_115 (nx := 118) rfl hm rfl ⟨by decide, by decide⟩ (Nat.le_of_ble_eq_true rfl) ⟨by decide, by decide⟩ (sp_M_linkField l mv.1 hR hok (B := (zc_bd (V 0) 1 t nm a9.toNatClampNeg)) (by decide) ht hnm hth w1 w3 hp3 (fun h3 S3 mv3 => ?_))
              rw [zc_fate, if_pos c1, zb_fw_1] at hK
              rw [if_pos hz2] at hK
              rw [if_pos hth] at hK
              rw [if_neg (by rw [zo_hf0 c4]; decide)] at hK
              exact zr_iret C d_M_linked_118 rfl (hK _ _ (zm_mv_t mv mv3)) (Nat.zero_le _) (Nat.zero_le _)
          · replace c4 := zb_nzt c4
            refine zr_bipush C d_M_linked_101 (n := 103) rfl (v := -8) (by decide) ?_
            rw [zc_fate, if_pos c1, zb_fw_1] at hK
            rw [if_pos hz2] at hK
            rw [if_pos hth] at hK
            rw [if_pos (zo_hf1 hth c4)] at hK
            exact zr_iret C d_M_linked_103 rfl (hK _ _ mv) (Nat.zero_le _) (Nat.zero_le _)
        · replace c3 := zk_bz c3
          refine zr_bipush C d_M_linked_78 (n := 80) rfl (v := -6) (by decide) ?_
          rw [zc_fate, if_pos c1, zb_fw_1] at hK
          rw [if_pos hz2] at hK
          rw [if_neg (by rw [c3]; decide)] at hK
          exact zr_iret C d_M_linked_80 rfl (hK _ _ mv) (Nat.zero_le _) (Nat.zero_le _)
      · replace c2 := zk_b_1 c2
        have hz2 : ¬ (zc_bd (V 0) 1 t nm a9.toNatClampNeg) 2 = 0 := by rw [hB2, c2]; decide
        rw [if_neg hz2] at w5
        refine zr_aload_n C d_M_linked_56 (n := 57) rfl rfl ?_
        refine zr_iload C d_M_linked_57 (n := 59) rfl rfl ?_
        refine zr_iload C d_M_linked_59 (n := 61) rfl rfl ?_
        refine zr_callV2 C k_M_97 d_M_linked_61 (nx := 64) rfl hm rfl ⟨by decide, by decide⟩ (Nat.le_of_ble_eq_true rfl) ⟨by decide, by decide⟩ (sp_M_linkValue l mv.1 hR hok (B := (zc_bd (V 0) 1 t nm a9.toNatClampNeg)) ht hnm w1 w5 (fun h3 S3 mv3 => ?_))
        rw [zc_fate, if_pos c1, zb_fw_1] at hK
        rw [if_neg hz2] at hK
        exact zr_iret C d_M_linked_64 rfl (hK _ _ (zm_mv_t mv mv3)) (Nat.zero_le _) (Nat.zero_le _)
    · refine zr_iload_n C d_M_linked_44 (n := 45) rfl rfl ?_
      rw [zc_fate, if_neg c1] at hK
      exact zr_iret C d_M_linked_45 rfl (hK _ _ mv) (Nat.zero_le _) (Nat.zero_le _)
  · refine zr_aload_n C d_M_linked_0 (n := 1) rfl rfl ?_
    refine zr_iload_n C d_M_linked_1 (n := 2) rfl rfl ?_
    refine zr_iconst C d_M_linked_2 (n := 3) rfl (v := nI 0) (by decide) ?_
    refine zr_callV2 C k_M_94 d_M_linked_3 (nx := 6) rfl hm rfl ⟨by decide, by decide⟩ (Nat.le_of_ble_eq_true rfl) ⟨by decide, by decide⟩ (sp_M_bind l hM hR hok hex (v := 0) (by decide) hj e0 e1 e2 e3 hk ht hnm hum (fun h2 S2 mv hbw => ?_))
    obtain ⟨hm, s0, s1, s2, s3, s4, s5, s6, s7, s8, s9, s10, s11⟩ := id mv.1
    replace hR := zm_R_c hR mv.2.1
    rw [← mv.2.1 9 (by decide)] at e0 e1 e2 e3
    refine zr_istore_n C d_M_linked_6 (n := 7) rfl (by decide) rfl ?_
    refine zr_aload_n C d_M_linked_7 (n := 8) rfl rfl ?_
    refine zr_get C f_M_38 d_M_linked_8 (n := 11) rfl hm rfl ?_
    refine zr_iconst C d_M_linked_11 (n := 12) rfl (v := nI 4) (by decide) ?_
    refine zr_iload_n C d_M_linked_12 (n := 13) rfl rfl ?_
    refine zr_imul C d_M_linked_13 (n := 14) rfl ?_
    refine zr_toe (by simp only [pk_mul, nI_add]; rfl) ?_
    refine zr_ialdN C d_M_linked_14 (n := 15) rfl s9 rfl (by omega) (by decide) ?_
    refine zr_toe (y := nI 2) e0 ?_
    refine zr_istore_n C d_M_linked_15 (n := 16) rfl (by decide) rfl ?_
    refine zr_aload_n C d_M_linked_16 (n := 17) rfl rfl ?_
    refine zr_get C f_M_38 d_M_linked_17 (n := 20) rfl hm rfl ?_
    refine zr_iconst C d_M_linked_20 (n := 21) rfl (v := nI 4) (by decide) ?_
    refine zr_iload_n C d_M_linked_21 (n := 22) rfl rfl ?_
    refine zr_imul C d_M_linked_22 (n := 23) rfl ?_
    refine zr_toe (by simp only [pk_mul, nI_add]; rfl) ?_
    refine zr_iconst C d_M_linked_23 (n := 24) rfl (v := nI 1) (by decide) ?_
    refine zr_iadd C d_M_linked_24 (n := 25) rfl ?_
    refine zr_toe (by simp only [pk_mul, nI_add]; rfl) ?_
    refine zr_ialdN C d_M_linked_25 (n := 26) rfl s9 rfl (by omega) (by decide) ?_
    refine zr_toe (y := nI t) e1 ?_
    refine zr_istore C d_M_linked_26 (n := 28) rfl (by decide) rfl ?_
    refine zr_aload_n C d_M_linked_28 (n := 29) rfl rfl ?_
    refine zr_get C f_M_38 d_M_linked_29 (n := 32) rfl hm rfl ?_
    refine zr_iconst C d_M_linked_32 (n := 33) rfl (v := nI 4) (by decide) ?_
    refine zr_iload_n C d_M_linked_33 (n := 34) rfl rfl ?_
    refine zr_imul C d_M_linked_34 (n := 35) rfl ?_
    refine zr_toe (by simp only [pk_mul, nI_add]; rfl) ?_
    refine zr_iconst C d_M_linked_35 (n := 36) rfl (v := nI 2) (by decide) ?_
    refine zr_iadd C d_M_linked_36 (n := 37) rfl ?_
    refine zr_toe (by simp only [pk_mul, nI_add]; rfl) ?_
    refine zr_ialdN C d_M_linked_37 (n := 38) rfl s9 rfl (by omega) (by decide) ?_
    refine zr_toe (y := nI nm) e2 ?_
    refine zr_istore C d_M_linked_38 (n := 40) rfl (by decide) rfl ?_
    refine zr_iload_n C d_M_linked_40 (n := 41) rfl rfl ?_
    refine zr_if_eq C d_M_linked_41 (n := 44) rfl (t := 46) (by decide) (fun c1 => ?_) (fun c1 => ?_)
    · have hb := hbw c1
      have hth0 := (zc_bd_th c1).1
      have hz2 : (zc_bd (V 0) 2 t nm a9.toNatClampNeg) 2 = 0 := zc_bd_2 (by decide) (by decide) c1
      obtain ⟨w0, w1, w2, w3, w4, w5, w6⟩ := hb.2.1 (by decide)
      have hp := zb_par2 (B := zc_Z) c1 (by decide)
      have hq := hum (by decide)
      have h7 := zc_bd_7 (hok 0 (by decide)) ht hq.1 hq.2.2 (by decide) c1
      refine zr_aload_n C d_M_linked_46 (n := 47) rfl rfl ?_
      refine zr_get C f_M_41 d_M_linked_47 (n := 50) rfl hm rfl ?_
      refine zr_iconst C d_M_linked_50 (n := 51) rfl (v := nI 0) (by decide) ?_
      refine zr_ialdN C d_M_linked_51 (n := 52) rfl s10 (j := 0) rfl (by decide) (by decide) ?_
      refine zr_toe (y := 0) w0 ?_
      refine zr_iconst C d_M_linked_52 (n := 53) rfl (v := nI 1) (by decide) ?_
      refine zr_icmp_ne C d_M_linked_53 (n := 56) rfl (t := 65) (by decide) (fun c2 => ?_) (fun c2 => ?_)
      · refine zr_aload_n C d_M_linked_65 (n := 66) rfl rfl ?_
        refine zr_get C f_M_7 d_M_linked_66 (n := 69) rfl hm rfl ?_
        refine zr_bipush C d_M_linked_69 (n := 71) rfl (v := nI 6) (by decide) ?_
        refine zr_iload C d_M_linked_71 (n := 73) rfl rfl ?_
        refine zr_iadd C d_M_linked_73 (n := 74) rfl ?_
        refine zr_toe (by simp only [pk_mul, nI_add]; rfl) ?_
        refine zr_zaldN C d_M_linked_74 (n := 75) rfl s0 rfl (by omega) (by decide) ?_
        refine zr_toe (y := zk_b (zo_th (V 1) t)) ((hR 1 (by decide)).1 t (by omega)).1 ?_
        refine zr_if_ne C d_M_linked_75 (n := 78) rfl (t := 81) (by decide) (fun c3 => ?_) (fun c3 => ?_)
        · replace c3 := zk_bn c3
          have hth := c3
          refine zr_aload_n C d_M_linked_81 (n := 82) rfl rfl ?_
          refine zr_get C f_M_13 d_M_linked_82 (n := 85) rfl hm rfl ?_
          refine zr_bipush C d_M_linked_85 (n := 87) rfl (v := nI 6) (by decide) ?_
          refine zr_iload C d_M_linked_87 (n := 89) rfl rfl ?_
          refine zr_iadd C d_M_linked_89 (n := 90) rfl ?_
          refine zr_toe (by simp only [pk_mul, nI_add]; rfl) ?_
          refine zr_ialdN C d_M_linked_90 (n := 91) rfl s1 rfl (by omega) (by decide) ?_
          refine zr_toe (y := V 1 0 t) (((hR 1 (by decide)).1 t (by omega)).2 hth).1 ?_
          refine zr_istore C d_M_linked_91 (n := 93) rfl (by decide) rfl ?_
          refine zr_iload C d_M_linked_93 (n := 95) rfl rfl ?_
          refine zr_bipush C d_M_linked_95 (n := 97) rfl (v := nI 8) (by decide) ?_
          refine zr_iand C d_M_linked_97 (n := 98) rfl ?_
          refine zr_if_eq C d_M_linked_98 (n := 101) rfl (t := 104) (by decide) (fun c4 => ?_) (fun c4 => ?_)
          · replace c4 := zb_nzf c4
            refine zr_iload_n C d_M_linked_104 (n := 105) rfl rfl ?_
            refine zr_iconst C d_M_linked_105 (n := 106) rfl (v := nI 2) (by decide) ?_
            refine zr_icmp_ge C d_M_linked_106 (n := 109) rfl (t := 119) (by decide) (fun c5 => ?_) (fun c5 => ?_)
            · refine zr_iload_n C d_M_linked_119 (n := 120) rfl rfl ?_
              refine zr_iconst C d_M_linked_120 (n := 121) rfl (v := nI 4) (by decide) ?_
              refine zr_icmp_ge C d_M_linked_121 (n := 124) rfl (t := 133) (by decide) (fun c6 => ?_) (fun c6 => ?_)
              · exact absurd c6 (by decide)
              · refine zr_aload_n C d_M_linked_124 (n := 125) rfl rfl ?_
                refine zr_iload C d_M_linked_125 (n := 127) rfl rfl ?_
                refine zr_iload C d_M_linked_127 (n := 129) rfl rfl ?_
                refine zr_callV2 C k_M_103 d_M_linked_129 (nx := 132) rfl hm rfl ⟨by decide, by decide⟩ (Nat.le_of_ble_eq_true rfl) ⟨by decide, by decide⟩ (sp_M_linkCall l mv.1 hR hok (B := (zc_bd (V 0) 2 t nm a9.toNatClampNeg)) ht hq.1 hp.1 hth (w1.trans hp.2) w2 w3 w4 w6 h7 (fun h3 S3 mv3 => ?_))
                rw [zc_fate, if_pos c1, zb_fw_2] at hK
                rw [if_pos hz2] at hK
                rw [if_pos hth] at hK
                rw [if_neg (by rw [zo_hf0 c4]; decide)] at hK
                exact zr_iret C d_M_linked_132 rfl (hK _ _ (zm_mv_t mv mv3)) (Nat.zero_le _) (Nat.zero_le _)
            · exact absurd (by decide) c5
          · replace c4 := zb_nzt c4
            refine zr_bipush C d_M_linked_101 (n := 103) rfl (v := -8) (by decide) ?_
            rw [zc_fate, if_pos c1, zb_fw_2] at hK
            rw [if_pos hz2] at hK
            rw [if_pos hth] at hK
            rw [if_pos (zo_hf1 hth c4)] at hK
            exact zr_iret C d_M_linked_103 rfl (hK _ _ mv) (Nat.zero_le _) (Nat.zero_le _)
        · replace c3 := zk_bz c3
          refine zr_bipush C d_M_linked_78 (n := 80) rfl (v := -6) (by decide) ?_
          rw [zc_fate, if_pos c1, zb_fw_2] at hK
          rw [if_pos hz2] at hK
          rw [if_neg (by rw [c3]; decide)] at hK
          exact zr_iret C d_M_linked_80 rfl (hK _ _ mv) (Nat.zero_le _) (Nat.zero_le _)
      · exact absurd c2 (by decide)
    · refine zr_iload_n C d_M_linked_44 (n := 45) rfl rfl ?_
      rw [zc_fate, if_neg c1] at hK
      exact zr_iret C d_M_linked_45 rfl (hK _ _ mv) (Nat.zero_le _) (Nat.zero_le _)
  · refine zr_aload_n C d_M_linked_0 (n := 1) rfl rfl ?_
    refine zr_iload_n C d_M_linked_1 (n := 2) rfl rfl ?_
    refine zr_iconst C d_M_linked_2 (n := 3) rfl (v := nI 0) (by decide) ?_
    refine zr_callV2 C k_M_94 d_M_linked_3 (nx := 6) rfl hm rfl ⟨by decide, by decide⟩ (Nat.le_of_ble_eq_true rfl) ⟨by decide, by decide⟩ (sp_M_bind l hM hR hok hex (v := 0) (by decide) hj e0 e1 e2 e3 hk ht hnm hum (fun h2 S2 mv hbw => ?_))
    obtain ⟨hm, s0, s1, s2, s3, s4, s5, s6, s7, s8, s9, s10, s11⟩ := id mv.1
    replace hR := zm_R_c hR mv.2.1
    rw [← mv.2.1 9 (by decide)] at e0 e1 e2 e3
    refine zr_istore_n C d_M_linked_6 (n := 7) rfl (by decide) rfl ?_
    refine zr_aload_n C d_M_linked_7 (n := 8) rfl rfl ?_
    refine zr_get C f_M_38 d_M_linked_8 (n := 11) rfl hm rfl ?_
    refine zr_iconst C d_M_linked_11 (n := 12) rfl (v := nI 4) (by decide) ?_
    refine zr_iload_n C d_M_linked_12 (n := 13) rfl rfl ?_
    refine zr_imul C d_M_linked_13 (n := 14) rfl ?_
    refine zr_toe (by simp only [pk_mul, nI_add]; rfl) ?_
    refine zr_ialdN C d_M_linked_14 (n := 15) rfl s9 rfl (by omega) (by decide) ?_
    refine zr_toe (y := nI 3) e0 ?_
    refine zr_istore_n C d_M_linked_15 (n := 16) rfl (by decide) rfl ?_
    refine zr_aload_n C d_M_linked_16 (n := 17) rfl rfl ?_
    refine zr_get C f_M_38 d_M_linked_17 (n := 20) rfl hm rfl ?_
    refine zr_iconst C d_M_linked_20 (n := 21) rfl (v := nI 4) (by decide) ?_
    refine zr_iload_n C d_M_linked_21 (n := 22) rfl rfl ?_
    refine zr_imul C d_M_linked_22 (n := 23) rfl ?_
    refine zr_toe (by simp only [pk_mul, nI_add]; rfl) ?_
    refine zr_iconst C d_M_linked_23 (n := 24) rfl (v := nI 1) (by decide) ?_
    refine zr_iadd C d_M_linked_24 (n := 25) rfl ?_
    refine zr_toe (by simp only [pk_mul, nI_add]; rfl) ?_
    refine zr_ialdN C d_M_linked_25 (n := 26) rfl s9 rfl (by omega) (by decide) ?_
    refine zr_toe (y := nI t) e1 ?_
    refine zr_istore C d_M_linked_26 (n := 28) rfl (by decide) rfl ?_
    refine zr_aload_n C d_M_linked_28 (n := 29) rfl rfl ?_
    refine zr_get C f_M_38 d_M_linked_29 (n := 32) rfl hm rfl ?_
    refine zr_iconst C d_M_linked_32 (n := 33) rfl (v := nI 4) (by decide) ?_
    refine zr_iload_n C d_M_linked_33 (n := 34) rfl rfl ?_
    refine zr_imul C d_M_linked_34 (n := 35) rfl ?_
    refine zr_toe (by simp only [pk_mul, nI_add]; rfl) ?_
    refine zr_iconst C d_M_linked_35 (n := 36) rfl (v := nI 2) (by decide) ?_
    refine zr_iadd C d_M_linked_36 (n := 37) rfl ?_
    refine zr_toe (by simp only [pk_mul, nI_add]; rfl) ?_
    refine zr_ialdN C d_M_linked_37 (n := 38) rfl s9 rfl (by omega) (by decide) ?_
    refine zr_toe (y := nI nm) e2 ?_
    refine zr_istore C d_M_linked_38 (n := 40) rfl (by decide) rfl ?_
    refine zr_iload_n C d_M_linked_40 (n := 41) rfl rfl ?_
    refine zr_if_eq C d_M_linked_41 (n := 44) rfl (t := 46) (by decide) (fun c1 => ?_) (fun c1 => ?_)
    · have hb := hbw c1
      have hth0 := (zc_bd_th c1).1
      have hz2 : (zc_bd (V 0) 3 t nm a9.toNatClampNeg) 2 = 0 := zc_bd_2 (by decide) (by decide) c1
      obtain ⟨w0, w1, w2, w3, w4, w5, w6⟩ := hb.2.1 (by decide)
      have hp := zb_par2 (B := zc_Z) c1 (by decide)
      have hq := hum (by decide)
      have h7 := zc_bd_7 (hok 0 (by decide)) ht hq.1 hq.2.2 (by decide) c1
      refine zr_aload_n C d_M_linked_46 (n := 47) rfl rfl ?_
      refine zr_get C f_M_41 d_M_linked_47 (n := 50) rfl hm rfl ?_
      refine zr_iconst C d_M_linked_50 (n := 51) rfl (v := nI 0) (by decide) ?_
      refine zr_ialdN C d_M_linked_51 (n := 52) rfl s10 (j := 0) rfl (by decide) (by decide) ?_
      refine zr_toe (y := 0) w0 ?_
      refine zr_iconst C d_M_linked_52 (n := 53) rfl (v := nI 1) (by decide) ?_
      refine zr_icmp_ne C d_M_linked_53 (n := 56) rfl (t := 65) (by decide) (fun c2 => ?_) (fun c2 => ?_)
      · refine zr_aload_n C d_M_linked_65 (n := 66) rfl rfl ?_
        refine zr_get C f_M_7 d_M_linked_66 (n := 69) rfl hm rfl ?_
        refine zr_bipush C d_M_linked_69 (n := 71) rfl (v := nI 6) (by decide) ?_
        refine zr_iload C d_M_linked_71 (n := 73) rfl rfl ?_
        refine zr_iadd C d_M_linked_73 (n := 74) rfl ?_
        refine zr_toe (by simp only [pk_mul, nI_add]; rfl) ?_
        refine zr_zaldN C d_M_linked_74 (n := 75) rfl s0 rfl (by omega) (by decide) ?_
        refine zr_toe (y := zk_b (zo_th (V 1) t)) ((hR 1 (by decide)).1 t (by omega)).1 ?_
        refine zr_if_ne C d_M_linked_75 (n := 78) rfl (t := 81) (by decide) (fun c3 => ?_) (fun c3 => ?_)
        · replace c3 := zk_bn c3
          have hth := c3
          refine zr_aload_n C d_M_linked_81 (n := 82) rfl rfl ?_
          refine zr_get C f_M_13 d_M_linked_82 (n := 85) rfl hm rfl ?_
          refine zr_bipush C d_M_linked_85 (n := 87) rfl (v := nI 6) (by decide) ?_
          refine zr_iload C d_M_linked_87 (n := 89) rfl rfl ?_
          refine zr_iadd C d_M_linked_89 (n := 90) rfl ?_
          refine zr_toe (by simp only [pk_mul, nI_add]; rfl) ?_
          refine zr_ialdN C d_M_linked_90 (n := 91) rfl s1 rfl (by omega) (by decide) ?_
          refine zr_toe (y := V 1 0 t) (((hR 1 (by decide)).1 t (by omega)).2 hth).1 ?_
          refine zr_istore C d_M_linked_91 (n := 93) rfl (by decide) rfl ?_
          refine zr_iload C d_M_linked_93 (n := 95) rfl rfl ?_
          refine zr_bipush C d_M_linked_95 (n := 97) rfl (v := nI 8) (by decide) ?_
          refine zr_iand C d_M_linked_97 (n := 98) rfl ?_
          refine zr_if_eq C d_M_linked_98 (n := 101) rfl (t := 104) (by decide) (fun c4 => ?_) (fun c4 => ?_)
          · replace c4 := zb_nzf c4
            refine zr_iload_n C d_M_linked_104 (n := 105) rfl rfl ?_
            refine zr_iconst C d_M_linked_105 (n := 106) rfl (v := nI 2) (by decide) ?_
            refine zr_icmp_ge C d_M_linked_106 (n := 109) rfl (t := 119) (by decide) (fun c5 => ?_) (fun c5 => ?_)
            · refine zr_iload_n C d_M_linked_119 (n := 120) rfl rfl ?_
              refine zr_iconst C d_M_linked_120 (n := 121) rfl (v := nI 4) (by decide) ?_
              refine zr_icmp_ge C d_M_linked_121 (n := 124) rfl (t := 133) (by decide) (fun c6 => ?_) (fun c6 => ?_)
              · exact absurd c6 (by decide)
              · refine zr_aload_n C d_M_linked_124 (n := 125) rfl rfl ?_
                refine zr_iload C d_M_linked_125 (n := 127) rfl rfl ?_
                refine zr_iload C d_M_linked_127 (n := 129) rfl rfl ?_
                refine zr_callV2 C k_M_103 d_M_linked_129 (nx := 132) rfl hm rfl ⟨by decide, by decide⟩ (Nat.le_of_ble_eq_true rfl) ⟨by decide, by decide⟩ (sp_M_linkCall l mv.1 hR hok (B := (zc_bd (V 0) 3 t nm a9.toNatClampNeg)) ht hq.1 hp.1 hth (w1.trans hp.2) w2 w3 w4 w6 h7 (fun h3 S3 mv3 => ?_))
                rw [zc_fate, if_pos c1, zb_fw_3] at hK
                rw [if_pos hz2] at hK
                rw [if_pos hth] at hK
                rw [if_neg (by rw [zo_hf0 c4]; decide)] at hK
                exact zr_iret C d_M_linked_132 rfl (hK _ _ (zm_mv_t mv mv3)) (Nat.zero_le _) (Nat.zero_le _)
            · exact absurd (by decide) c5
          · replace c4 := zb_nzt c4
            refine zr_bipush C d_M_linked_101 (n := 103) rfl (v := -8) (by decide) ?_
            rw [zc_fate, if_pos c1, zb_fw_3] at hK
            rw [if_pos hz2] at hK
            rw [if_pos hth] at hK
            rw [if_pos (zo_hf1 hth c4)] at hK
            exact zr_iret C d_M_linked_103 rfl (hK _ _ mv) (Nat.zero_le _) (Nat.zero_le _)
        · replace c3 := zk_bz c3
          refine zr_bipush C d_M_linked_78 (n := 80) rfl (v := -6) (by decide) ?_
          rw [zc_fate, if_pos c1, zb_fw_3] at hK
          rw [if_pos hz2] at hK
          rw [if_neg (by rw [c3]; decide)] at hK
          exact zr_iret C d_M_linked_80 rfl (hK _ _ mv) (Nat.zero_le _) (Nat.zero_le _)
      · exact absurd c2 (by decide)
    · refine zr_iload_n C d_M_linked_44 (n := 45) rfl rfl ?_
      rw [zc_fate, if_neg c1] at hK
      exact zr_iret C d_M_linked_45 rfl (hK _ _ mv) (Nat.zero_le _) (Nat.zero_le _)
  · refine zr_aload_n C d_M_linked_0 (n := 1) rfl rfl ?_
    refine zr_iload_n C d_M_linked_1 (n := 2) rfl rfl ?_
    refine zr_iconst C d_M_linked_2 (n := 3) rfl (v := nI 0) (by decide) ?_
    refine zr_callV2 C k_M_94 d_M_linked_3 (nx := 6) rfl hm rfl ⟨by decide, by decide⟩ (Nat.le_of_ble_eq_true rfl) ⟨by decide, by decide⟩ (sp_M_bind l hM hR hok hex (v := 0) (by decide) hj e0 e1 e2 e3 hk ht hnm hum (fun h2 S2 mv hbw => ?_))
    obtain ⟨hm, s0, s1, s2, s3, s4, s5, s6, s7, s8, s9, s10, s11⟩ := id mv.1
    replace hR := zm_R_c hR mv.2.1
    rw [← mv.2.1 9 (by decide)] at e0 e1 e2 e3
    refine zr_istore_n C d_M_linked_6 (n := 7) rfl (by decide) rfl ?_
    refine zr_aload_n C d_M_linked_7 (n := 8) rfl rfl ?_
    refine zr_get C f_M_38 d_M_linked_8 (n := 11) rfl hm rfl ?_
    refine zr_iconst C d_M_linked_11 (n := 12) rfl (v := nI 4) (by decide) ?_
    refine zr_iload_n C d_M_linked_12 (n := 13) rfl rfl ?_
    refine zr_imul C d_M_linked_13 (n := 14) rfl ?_
    refine zr_toe (by simp only [pk_mul, nI_add]; rfl) ?_
    refine zr_ialdN C d_M_linked_14 (n := 15) rfl s9 rfl (by omega) (by decide) ?_
    refine zr_toe (y := nI 4) e0 ?_
    refine zr_istore_n C d_M_linked_15 (n := 16) rfl (by decide) rfl ?_
    refine zr_aload_n C d_M_linked_16 (n := 17) rfl rfl ?_
    refine zr_get C f_M_38 d_M_linked_17 (n := 20) rfl hm rfl ?_
    refine zr_iconst C d_M_linked_20 (n := 21) rfl (v := nI 4) (by decide) ?_
    refine zr_iload_n C d_M_linked_21 (n := 22) rfl rfl ?_
    refine zr_imul C d_M_linked_22 (n := 23) rfl ?_
    refine zr_toe (by simp only [pk_mul, nI_add]; rfl) ?_
    refine zr_iconst C d_M_linked_23 (n := 24) rfl (v := nI 1) (by decide) ?_
    refine zr_iadd C d_M_linked_24 (n := 25) rfl ?_
    refine zr_toe (by simp only [pk_mul, nI_add]; rfl) ?_
    refine zr_ialdN C d_M_linked_25 (n := 26) rfl s9 rfl (by omega) (by decide) ?_
    refine zr_toe (y := nI t) e1 ?_
    refine zr_istore C d_M_linked_26 (n := 28) rfl (by decide) rfl ?_
    refine zr_aload_n C d_M_linked_28 (n := 29) rfl rfl ?_
    refine zr_get C f_M_38 d_M_linked_29 (n := 32) rfl hm rfl ?_
    refine zr_iconst C d_M_linked_32 (n := 33) rfl (v := nI 4) (by decide) ?_
    refine zr_iload_n C d_M_linked_33 (n := 34) rfl rfl ?_
    refine zr_imul C d_M_linked_34 (n := 35) rfl ?_
    refine zr_toe (by simp only [pk_mul, nI_add]; rfl) ?_
    refine zr_iconst C d_M_linked_35 (n := 36) rfl (v := nI 2) (by decide) ?_
    refine zr_iadd C d_M_linked_36 (n := 37) rfl ?_
    refine zr_toe (by simp only [pk_mul, nI_add]; rfl) ?_
    refine zr_ialdN C d_M_linked_37 (n := 38) rfl s9 rfl (by omega) (by decide) ?_
    refine zr_toe (y := nI nm) e2 ?_
    refine zr_istore C d_M_linked_38 (n := 40) rfl (by decide) rfl ?_
    refine zr_iload_n C d_M_linked_40 (n := 41) rfl rfl ?_
    refine zr_if_eq C d_M_linked_41 (n := 44) rfl (t := 46) (by decide) (fun c1 => ?_) (fun c1 => ?_)
    · have hb := hbw c1
      have hth0 := (zc_bd_th c1).1
      have hz2 : (zc_bd (V 0) 4 t nm a9.toNatClampNeg) 2 = 0 := zc_bd_2 (by decide) (by decide) c1
      obtain ⟨w0, -⟩ := hb.2.2.1 (by decide)
      refine zr_aload_n C d_M_linked_46 (n := 47) rfl rfl ?_
      refine zr_get C f_M_41 d_M_linked_47 (n := 50) rfl hm rfl ?_
      refine zr_iconst C d_M_linked_50 (n := 51) rfl (v := nI 0) (by decide) ?_
      refine zr_ialdN C d_M_linked_51 (n := 52) rfl s10 (j := 0) rfl (by decide) (by decide) ?_
      refine zr_toe (y := 0) w0 ?_
      refine zr_iconst C d_M_linked_52 (n := 53) rfl (v := nI 1) (by decide) ?_
      refine zr_icmp_ne C d_M_linked_53 (n := 56) rfl (t := 65) (by decide) (fun c2 => ?_) (fun c2 => ?_)
      · refine zr_aload_n C d_M_linked_65 (n := 66) rfl rfl ?_
        refine zr_get C f_M_7 d_M_linked_66 (n := 69) rfl hm rfl ?_
        refine zr_bipush C d_M_linked_69 (n := 71) rfl (v := nI 6) (by decide) ?_
        refine zr_iload C d_M_linked_71 (n := 73) rfl rfl ?_
        refine zr_iadd C d_M_linked_73 (n := 74) rfl ?_
        refine zr_toe (by simp only [pk_mul, nI_add]; rfl) ?_
        refine zr_zaldN C d_M_linked_74 (n := 75) rfl s0 rfl (by omega) (by decide) ?_
        refine zr_toe (y := zk_b (zo_th (V 1) t)) ((hR 1 (by decide)).1 t (by omega)).1 ?_
        refine zr_if_ne C d_M_linked_75 (n := 78) rfl (t := 81) (by decide) (fun c3 => ?_) (fun c3 => ?_)
        · replace c3 := zk_bn c3
          have hth := c3
          refine zr_aload_n C d_M_linked_81 (n := 82) rfl rfl ?_
          refine zr_get C f_M_13 d_M_linked_82 (n := 85) rfl hm rfl ?_
          refine zr_bipush C d_M_linked_85 (n := 87) rfl (v := nI 6) (by decide) ?_
          refine zr_iload C d_M_linked_87 (n := 89) rfl rfl ?_
          refine zr_iadd C d_M_linked_89 (n := 90) rfl ?_
          refine zr_toe (by simp only [pk_mul, nI_add]; rfl) ?_
          refine zr_ialdN C d_M_linked_90 (n := 91) rfl s1 rfl (by omega) (by decide) ?_
          refine zr_toe (y := V 1 0 t) (((hR 1 (by decide)).1 t (by omega)).2 hth).1 ?_
          refine zr_istore C d_M_linked_91 (n := 93) rfl (by decide) rfl ?_
          refine zr_iload C d_M_linked_93 (n := 95) rfl rfl ?_
          refine zr_bipush C d_M_linked_95 (n := 97) rfl (v := nI 8) (by decide) ?_
          refine zr_iand C d_M_linked_97 (n := 98) rfl ?_
          refine zr_if_eq C d_M_linked_98 (n := 101) rfl (t := 104) (by decide) (fun c4 => ?_) (fun c4 => ?_)
          · replace c4 := zb_nzf c4
            refine zr_iload_n C d_M_linked_104 (n := 105) rfl rfl ?_
            refine zr_iconst C d_M_linked_105 (n := 106) rfl (v := nI 2) (by decide) ?_
            refine zr_icmp_ge C d_M_linked_106 (n := 109) rfl (t := 119) (by decide) (fun c5 => ?_) (fun c5 => ?_)
            · refine zr_iload_n C d_M_linked_119 (n := 120) rfl rfl ?_
              refine zr_iconst C d_M_linked_120 (n := 121) rfl (v := nI 4) (by decide) ?_
              refine zr_icmp_ge C d_M_linked_121 (n := 124) rfl (t := 133) (by decide) (fun c6 => ?_) (fun c6 => ?_)
              · refine zr_iload_n C d_M_linked_133 (n := 134) rfl rfl ?_
                refine zr_iconst C d_M_linked_134 (n := 135) rfl (v := nI 4) (by decide) ?_
                refine zr_icmp_ne C d_M_linked_135 (n := 138) rfl (t := 152) (by decide) (fun c7 => ?_) (fun c7 => ?_)
                · exact absurd rfl c7
                · refine zr_iload C d_M_linked_138 (n := 140) rfl rfl ?_
                  refine zr_iconst C d_M_linked_140 (n := 141) rfl (v := nI 3) (by decide) ?_
                  refine zr_iand C d_M_linked_141 (n := 142) rfl ?_
                  refine zr_if_eq C d_M_linked_142 (n := 145) rfl (t := 150) (by decide) (fun c8 => ?_) (fun c8 => ?_)
                  · replace c8 := zb_nzf c8
                    refine zr_iconst C d_M_linked_150 (n := 151) rfl (v := nI 0) (by decide) ?_
                    rw [zc_fate, if_pos c1, zb_fw_4] at hK
                    rw [if_pos hz2] at hK
                    rw [if_pos hth] at hK
                    rw [if_neg (by rw [zo_hf0 c4]; decide)] at hK
                    rw [if_neg (by rw [zo_hf_nz hth, c8]; decide)] at hK
                    exact zr_iret C d_M_linked_151 rfl (hK _ _ mv) (Nat.zero_le _) (Nat.zero_le _)
                  · replace c8 := zb_nzt c8
                    refine zr_bipush C d_M_linked_145 (n := 147) rfl (v := -9) (by decide) ?_
                    refine zr_goto C d_M_linked_147 (t := 151) (by decide) ?_
                    rw [zc_fate, if_pos c1, zb_fw_4] at hK
                    rw [if_pos hz2] at hK
                    rw [if_pos hth] at hK
                    rw [if_neg (by rw [zo_hf0 c4]; decide)] at hK
                    rw [if_pos (by rw [zo_hf_nz hth, c8])] at hK
                    exact zr_iret C d_M_linked_151 rfl (hK _ _ mv) (Nat.zero_le _) (Nat.zero_le _)
              · exact absurd (by decide) c6
            · exact absurd (by decide) c5
          · replace c4 := zb_nzt c4
            refine zr_bipush C d_M_linked_101 (n := 103) rfl (v := -8) (by decide) ?_
            rw [zc_fate, if_pos c1, zb_fw_4] at hK
            rw [if_pos hz2] at hK
            rw [if_pos hth] at hK
            rw [if_pos (zo_hf1 hth c4)] at hK
            exact zr_iret C d_M_linked_103 rfl (hK _ _ mv) (Nat.zero_le _) (Nat.zero_le _)
        · replace c3 := zk_bz c3
          refine zr_bipush C d_M_linked_78 (n := 80) rfl (v := -6) (by decide) ?_
          rw [zc_fate, if_pos c1, zb_fw_4] at hK
          rw [if_pos hz2] at hK
          rw [if_neg (by rw [c3]; decide)] at hK
          exact zr_iret C d_M_linked_80 rfl (hK _ _ mv) (Nat.zero_le _) (Nat.zero_le _)
      · exact absurd c2 (by decide)
    · refine zr_iload_n C d_M_linked_44 (n := 45) rfl rfl ?_
      rw [zc_fate, if_neg c1] at hK
      exact zr_iret C d_M_linked_45 rfl (hK _ _ mv) (Nat.zero_le _) (Nat.zero_le _)
  · refine zr_aload_n C d_M_linked_0 (n := 1) rfl rfl ?_
    refine zr_iload_n C d_M_linked_1 (n := 2) rfl rfl ?_
    refine zr_iconst C d_M_linked_2 (n := 3) rfl (v := nI 0) (by decide) ?_
    refine zr_callV2 C k_M_94 d_M_linked_3 (nx := 6) rfl hm rfl ⟨by decide, by decide⟩ (Nat.le_of_ble_eq_true rfl) ⟨by decide, by decide⟩ (sp_M_bind l hM hR hok hex (v := 0) (by decide) hj e0 e1 e2 e3 hk ht hnm hum (fun h2 S2 mv hbw => ?_))
    obtain ⟨hm, s0, s1, s2, s3, s4, s5, s6, s7, s8, s9, s10, s11⟩ := id mv.1
    replace hR := zm_R_c hR mv.2.1
    rw [← mv.2.1 9 (by decide)] at e0 e1 e2 e3
    refine zr_istore_n C d_M_linked_6 (n := 7) rfl (by decide) rfl ?_
    refine zr_aload_n C d_M_linked_7 (n := 8) rfl rfl ?_
    refine zr_get C f_M_38 d_M_linked_8 (n := 11) rfl hm rfl ?_
    refine zr_iconst C d_M_linked_11 (n := 12) rfl (v := nI 4) (by decide) ?_
    refine zr_iload_n C d_M_linked_12 (n := 13) rfl rfl ?_
    refine zr_imul C d_M_linked_13 (n := 14) rfl ?_
    refine zr_toe (by simp only [pk_mul, nI_add]; rfl) ?_
    refine zr_ialdN C d_M_linked_14 (n := 15) rfl s9 rfl (by omega) (by decide) ?_
    refine zr_toe (y := nI 5) e0 ?_
    refine zr_istore_n C d_M_linked_15 (n := 16) rfl (by decide) rfl ?_
    refine zr_aload_n C d_M_linked_16 (n := 17) rfl rfl ?_
    refine zr_get C f_M_38 d_M_linked_17 (n := 20) rfl hm rfl ?_
    refine zr_iconst C d_M_linked_20 (n := 21) rfl (v := nI 4) (by decide) ?_
    refine zr_iload_n C d_M_linked_21 (n := 22) rfl rfl ?_
    refine zr_imul C d_M_linked_22 (n := 23) rfl ?_
    refine zr_toe (by simp only [pk_mul, nI_add]; rfl) ?_
    refine zr_iconst C d_M_linked_23 (n := 24) rfl (v := nI 1) (by decide) ?_
    refine zr_iadd C d_M_linked_24 (n := 25) rfl ?_
    refine zr_toe (by simp only [pk_mul, nI_add]; rfl) ?_
    refine zr_ialdN C d_M_linked_25 (n := 26) rfl s9 rfl (by omega) (by decide) ?_
    refine zr_toe (y := nI t) e1 ?_
    refine zr_istore C d_M_linked_26 (n := 28) rfl (by decide) rfl ?_
    refine zr_aload_n C d_M_linked_28 (n := 29) rfl rfl ?_
    refine zr_get C f_M_38 d_M_linked_29 (n := 32) rfl hm rfl ?_
    refine zr_iconst C d_M_linked_32 (n := 33) rfl (v := nI 4) (by decide) ?_
    refine zr_iload_n C d_M_linked_33 (n := 34) rfl rfl ?_
    refine zr_imul C d_M_linked_34 (n := 35) rfl ?_
    refine zr_toe (by simp only [pk_mul, nI_add]; rfl) ?_
    refine zr_iconst C d_M_linked_35 (n := 36) rfl (v := nI 2) (by decide) ?_
    refine zr_iadd C d_M_linked_36 (n := 37) rfl ?_
    refine zr_toe (by simp only [pk_mul, nI_add]; rfl) ?_
    refine zr_ialdN C d_M_linked_37 (n := 38) rfl s9 rfl (by omega) (by decide) ?_
    refine zr_toe (y := nI nm) e2 ?_
    refine zr_istore C d_M_linked_38 (n := 40) rfl (by decide) rfl ?_
    refine zr_iload_n C d_M_linked_40 (n := 41) rfl rfl ?_
    refine zr_if_eq C d_M_linked_41 (n := 44) rfl (t := 46) (by decide) (fun c1 => ?_) (fun c1 => ?_)
    · have hb := hbw c1
      have hth0 := (zc_bd_th c1).1
      have hz2 : (zc_bd (V 0) 5 t nm a9.toNatClampNeg) 2 = 0 := zc_bd_2 (by decide) (by decide) c1
      obtain ⟨w0, -⟩ := hb.2.2.2.1 (by decide)
      have hB1 := zc_bd_1 (by decide) c1
      refine zr_aload_n C d_M_linked_46 (n := 47) rfl rfl ?_
      refine zr_get C f_M_41 d_M_linked_47 (n := 50) rfl hm rfl ?_
      refine zr_iconst C d_M_linked_50 (n := 51) rfl (v := nI 0) (by decide) ?_
      refine zr_ialdN C d_M_linked_51 (n := 52) rfl s10 (j := 0) rfl (by decide) (by decide) ?_
      refine zr_toe (y := 0) w0 ?_
      refine zr_iconst C d_M_linked_52 (n := 53) rfl (v := nI 1) (by decide) ?_
      refine zr_icmp_ne C d_M_linked_53 (n := 56) rfl (t := 65) (by decide) (fun c2 => ?_) (fun c2 => ?_)
      · refine zr_aload_n C d_M_linked_65 (n := 66) rfl rfl ?_
        refine zr_get C f_M_7 d_M_linked_66 (n := 69) rfl hm rfl ?_
        refine zr_bipush C d_M_linked_69 (n := 71) rfl (v := nI 6) (by decide) ?_
        refine zr_iload C d_M_linked_71 (n := 73) rfl rfl ?_
        refine zr_iadd C d_M_linked_73 (n := 74) rfl ?_
        refine zr_toe (by simp only [pk_mul, nI_add]; rfl) ?_
        refine zr_zaldN C d_M_linked_74 (n := 75) rfl s0 rfl (by omega) (by decide) ?_
        refine zr_toe (y := zk_b (zo_th (V 1) t)) ((hR 1 (by decide)).1 t (by omega)).1 ?_
        refine zr_if_ne C d_M_linked_75 (n := 78) rfl (t := 81) (by decide) (fun c3 => ?_) (fun c3 => ?_)
        · replace c3 := zk_bn c3
          have hth := c3
          refine zr_aload_n C d_M_linked_81 (n := 82) rfl rfl ?_
          refine zr_get C f_M_13 d_M_linked_82 (n := 85) rfl hm rfl ?_
          refine zr_bipush C d_M_linked_85 (n := 87) rfl (v := nI 6) (by decide) ?_
          refine zr_iload C d_M_linked_87 (n := 89) rfl rfl ?_
          refine zr_iadd C d_M_linked_89 (n := 90) rfl ?_
          refine zr_toe (by simp only [pk_mul, nI_add]; rfl) ?_
          refine zr_ialdN C d_M_linked_90 (n := 91) rfl s1 rfl (by omega) (by decide) ?_
          refine zr_toe (y := V 1 0 t) (((hR 1 (by decide)).1 t (by omega)).2 hth).1 ?_
          refine zr_istore C d_M_linked_91 (n := 93) rfl (by decide) rfl ?_
          refine zr_iload C d_M_linked_93 (n := 95) rfl rfl ?_
          refine zr_bipush C d_M_linked_95 (n := 97) rfl (v := nI 8) (by decide) ?_
          refine zr_iand C d_M_linked_97 (n := 98) rfl ?_
          refine zr_if_eq C d_M_linked_98 (n := 101) rfl (t := 104) (by decide) (fun c4 => ?_) (fun c4 => ?_)
          · replace c4 := zb_nzf c4
            refine zr_iload_n C d_M_linked_104 (n := 105) rfl rfl ?_
            refine zr_iconst C d_M_linked_105 (n := 106) rfl (v := nI 2) (by decide) ?_
            refine zr_icmp_ge C d_M_linked_106 (n := 109) rfl (t := 119) (by decide) (fun c5 => ?_) (fun c5 => ?_)
            · refine zr_iload_n C d_M_linked_119 (n := 120) rfl rfl ?_
              refine zr_iconst C d_M_linked_120 (n := 121) rfl (v := nI 4) (by decide) ?_
              refine zr_icmp_ge C d_M_linked_121 (n := 124) rfl (t := 133) (by decide) (fun c6 => ?_) (fun c6 => ?_)
              · refine zr_iload_n C d_M_linked_133 (n := 134) rfl rfl ?_
                refine zr_iconst C d_M_linked_134 (n := 135) rfl (v := nI 4) (by decide) ?_
                refine zr_icmp_ne C d_M_linked_135 (n := 138) rfl (t := 152) (by decide) (fun c7 => ?_) (fun c7 => ?_)
                · refine zr_iload C d_M_linked_152 (n := 154) rfl rfl ?_
                  refine zr_iconst C d_M_linked_154 (n := 155) rfl (v := nI 4) (by decide) ?_
                  refine zr_iand C d_M_linked_155 (n := 156) rfl ?_
                  refine zr_if_ne C d_M_linked_156 (n := 159) rfl (t := 175) (by decide) (fun c8 => ?_) (fun c8 => ?_)
                  · replace c8 := zb_nzt c8
                    refine zr_bipush C d_M_linked_175 (n := 177) rfl (v := -9) (by decide) ?_
                    rw [zc_fate, if_pos c1, zb_fw_5] at hK
                    rw [if_pos hz2] at hK
                    rw [if_pos hth] at hK
                    rw [if_neg (by rw [zo_hf0 c4]; decide)] at hK
                    rw [if_pos (zb_sb_x hth c8)] at hK
                    exact zr_iret C d_M_linked_177 rfl (hK _ _ mv) (Nat.zero_le _) (Nat.zero_le _)
                  · replace c8 := zb_nzf c8
                    refine zr_iload C d_M_linked_159 (n := 161) rfl rfl ?_
                    refine zr_iconst C d_M_linked_161 (n := 162) rfl (v := nI 1) (by decide) ?_
                    refine zr_iand C d_M_linked_162 (n := 163) rfl ?_
                    refine zr_aload_n C d_M_linked_163 (n := 164) rfl rfl ?_
                    refine zr_get C f_M_13 d_M_linked_164 (n := 167) rfl hm rfl ?_
                    refine zr_iload C d_M_linked_167 (n := 169) rfl rfl ?_
                    refine zr_ialdN C d_M_linked_169 (n := 170) rfl s1 (j := 6 * 0 + t) (congrArg nI (by omega)) (by omega) (by decide) ?_
                    refine zr_toe (y := V 0 0 t) (((hR 0 (by decide)).1 t (by omega)).2 hth0).1 ?_
                    refine zr_iconst C d_M_linked_170 (n := 171) rfl (v := nI 1) (by decide) ?_
                    refine zr_iand C d_M_linked_171 (n := 172) rfl ?_
                    refine zr_icmp_eq C d_M_linked_172 (n := 175) rfl (t := 178) (by decide) (fun c9 => ?_) (fun c9 => ?_)
                    · refine zr_iload_n C d_M_linked_178 (n := 179) rfl rfl ?_
                      refine zr_iconst C d_M_linked_179 (n := 180) rfl (v := nI 5) (by decide) ?_
                      refine zr_icmp_ne C d_M_linked_180 (n := 183) rfl (t := 187) (by decide) (fun c10 => ?_) (fun c10 => ?_)
                      · exact absurd rfl c10
                      · refine zr_iconst C d_M_linked_183 (n := 184) rfl (v := nI 0) (by decide) ?_
                        refine zr_goto C d_M_linked_184 (t := 195) (by decide) ?_
                        rw [zc_fate, if_pos c1, zb_fw_5] at hK
                        rw [if_pos hz2] at hK
                        rw [if_pos hth] at hK
                        rw [if_neg (by rw [zo_hf0 c4]; decide)] at hK
                        rw [if_neg (by rw [zb_sb_f hth hB1 c8 c9]; decide)] at hK
                        exact zr_iret C d_M_linked_195 rfl (hK _ _ mv) (Nat.zero_le _) (Nat.zero_le _)
                    · refine zr_bipush C d_M_linked_175 (n := 177) rfl (v := -9) (by decide) ?_
                      rw [zc_fate, if_pos c1, zb_fw_5] at hK
                      rw [if_pos hz2] at hK
                      rw [if_pos hth] at hK
                      rw [if_neg (by rw [zo_hf0 c4]; decide)] at hK
                      rw [if_pos (zb_sb_y hth hB1 c9)] at hK
                      exact zr_iret C d_M_linked_177 rfl (hK _ _ mv) (Nat.zero_le _) (Nat.zero_le _)
                · exact absurd c7 (by decide)
              · exact absurd (by decide) c6
            · exact absurd (by decide) c5
          · replace c4 := zb_nzt c4
            refine zr_bipush C d_M_linked_101 (n := 103) rfl (v := -8) (by decide) ?_
            rw [zc_fate, if_pos c1, zb_fw_5] at hK
            rw [if_pos hz2] at hK
            rw [if_pos hth] at hK
            rw [if_pos (zo_hf1 hth c4)] at hK
            exact zr_iret C d_M_linked_103 rfl (hK _ _ mv) (Nat.zero_le _) (Nat.zero_le _)
        · replace c3 := zk_bz c3
          refine zr_bipush C d_M_linked_78 (n := 80) rfl (v := -6) (by decide) ?_
          rw [zc_fate, if_pos c1, zb_fw_5] at hK
          rw [if_pos hz2] at hK
          rw [if_neg (by rw [c3]; decide)] at hK
          exact zr_iret C d_M_linked_80 rfl (hK _ _ mv) (Nat.zero_le _) (Nat.zero_le _)
      · exact absurd c2 (by decide)
    · refine zr_iload_n C d_M_linked_44 (n := 45) rfl rfl ?_
      rw [zc_fate, if_neg c1] at hK
      exact zr_iret C d_M_linked_45 rfl (hK _ _ mv) (Nat.zero_le _) (Nat.zero_le _)
  · refine zr_aload_n C d_M_linked_0 (n := 1) rfl rfl ?_
    refine zr_iload_n C d_M_linked_1 (n := 2) rfl rfl ?_
    refine zr_iconst C d_M_linked_2 (n := 3) rfl (v := nI 0) (by decide) ?_
    refine zr_callV2 C k_M_94 d_M_linked_3 (nx := 6) rfl hm rfl ⟨by decide, by decide⟩ (Nat.le_of_ble_eq_true rfl) ⟨by decide, by decide⟩ (sp_M_bind l hM hR hok hex (v := 0) (by decide) hj e0 e1 e2 e3 hk ht hnm hum (fun h2 S2 mv hbw => ?_))
    obtain ⟨hm, s0, s1, s2, s3, s4, s5, s6, s7, s8, s9, s10, s11⟩ := id mv.1
    replace hR := zm_R_c hR mv.2.1
    rw [← mv.2.1 9 (by decide)] at e0 e1 e2 e3
    refine zr_istore_n C d_M_linked_6 (n := 7) rfl (by decide) rfl ?_
    refine zr_aload_n C d_M_linked_7 (n := 8) rfl rfl ?_
    refine zr_get C f_M_38 d_M_linked_8 (n := 11) rfl hm rfl ?_
    refine zr_iconst C d_M_linked_11 (n := 12) rfl (v := nI 4) (by decide) ?_
    refine zr_iload_n C d_M_linked_12 (n := 13) rfl rfl ?_
    refine zr_imul C d_M_linked_13 (n := 14) rfl ?_
    refine zr_toe (by simp only [pk_mul, nI_add]; rfl) ?_
    refine zr_ialdN C d_M_linked_14 (n := 15) rfl s9 rfl (by omega) (by decide) ?_
    refine zr_toe (y := nI 6) e0 ?_
    refine zr_istore_n C d_M_linked_15 (n := 16) rfl (by decide) rfl ?_
    refine zr_aload_n C d_M_linked_16 (n := 17) rfl rfl ?_
    refine zr_get C f_M_38 d_M_linked_17 (n := 20) rfl hm rfl ?_
    refine zr_iconst C d_M_linked_20 (n := 21) rfl (v := nI 4) (by decide) ?_
    refine zr_iload_n C d_M_linked_21 (n := 22) rfl rfl ?_
    refine zr_imul C d_M_linked_22 (n := 23) rfl ?_
    refine zr_toe (by simp only [pk_mul, nI_add]; rfl) ?_
    refine zr_iconst C d_M_linked_23 (n := 24) rfl (v := nI 1) (by decide) ?_
    refine zr_iadd C d_M_linked_24 (n := 25) rfl ?_
    refine zr_toe (by simp only [pk_mul, nI_add]; rfl) ?_
    refine zr_ialdN C d_M_linked_25 (n := 26) rfl s9 rfl (by omega) (by decide) ?_
    refine zr_toe (y := nI t) e1 ?_
    refine zr_istore C d_M_linked_26 (n := 28) rfl (by decide) rfl ?_
    refine zr_aload_n C d_M_linked_28 (n := 29) rfl rfl ?_
    refine zr_get C f_M_38 d_M_linked_29 (n := 32) rfl hm rfl ?_
    refine zr_iconst C d_M_linked_32 (n := 33) rfl (v := nI 4) (by decide) ?_
    refine zr_iload_n C d_M_linked_33 (n := 34) rfl rfl ?_
    refine zr_imul C d_M_linked_34 (n := 35) rfl ?_
    refine zr_toe (by simp only [pk_mul, nI_add]; rfl) ?_
    refine zr_iconst C d_M_linked_35 (n := 36) rfl (v := nI 2) (by decide) ?_
    refine zr_iadd C d_M_linked_36 (n := 37) rfl ?_
    refine zr_toe (by simp only [pk_mul, nI_add]; rfl) ?_
    refine zr_ialdN C d_M_linked_37 (n := 38) rfl s9 rfl (by omega) (by decide) ?_
    refine zr_toe (y := nI nm) e2 ?_
    refine zr_istore C d_M_linked_38 (n := 40) rfl (by decide) rfl ?_
    refine zr_iload_n C d_M_linked_40 (n := 41) rfl rfl ?_
    refine zr_if_eq C d_M_linked_41 (n := 44) rfl (t := 46) (by decide) (fun c1 => ?_) (fun c1 => ?_)
    · have hb := hbw c1
      have hth0 := (zc_bd_th c1).1
      have hz2 : (zc_bd (V 0) 6 t nm a9.toNatClampNeg) 2 = 0 := zc_bd_2 (by decide) (by decide) c1
      obtain ⟨w0, w1, w2, -⟩ := hb.2.2.2.2 (by decide)
      have hB1 := zc_bd_1 (by decide) c1
      have hq := hum (by decide)
      refine zr_aload_n C d_M_linked_46 (n := 47) rfl rfl ?_
      refine zr_get C f_M_41 d_M_linked_47 (n := 50) rfl hm rfl ?_
      refine zr_iconst C d_M_linked_50 (n := 51) rfl (v := nI 0) (by decide) ?_
      refine zr_ialdN C d_M_linked_51 (n := 52) rfl s10 (j := 0) rfl (by decide) (by decide) ?_
      refine zr_toe (y := 0) w0 ?_
      refine zr_iconst C d_M_linked_52 (n := 53) rfl (v := nI 1) (by decide) ?_
      refine zr_icmp_ne C d_M_linked_53 (n := 56) rfl (t := 65) (by decide) (fun c2 => ?_) (fun c2 => ?_)
      · refine zr_aload_n C d_M_linked_65 (n := 66) rfl rfl ?_
        refine zr_get C f_M_7 d_M_linked_66 (n := 69) rfl hm rfl ?_
        refine zr_bipush C d_M_linked_69 (n := 71) rfl (v := nI 6) (by decide) ?_
        refine zr_iload C d_M_linked_71 (n := 73) rfl rfl ?_
        refine zr_iadd C d_M_linked_73 (n := 74) rfl ?_
        refine zr_toe (by simp only [pk_mul, nI_add]; rfl) ?_
        refine zr_zaldN C d_M_linked_74 (n := 75) rfl s0 rfl (by omega) (by decide) ?_
        refine zr_toe (y := zk_b (zo_th (V 1) t)) ((hR 1 (by decide)).1 t (by omega)).1 ?_
        refine zr_if_ne C d_M_linked_75 (n := 78) rfl (t := 81) (by decide) (fun c3 => ?_) (fun c3 => ?_)
        · replace c3 := zk_bn c3
          have hth := c3
          refine zr_aload_n C d_M_linked_81 (n := 82) rfl rfl ?_
          refine zr_get C f_M_13 d_M_linked_82 (n := 85) rfl hm rfl ?_
          refine zr_bipush C d_M_linked_85 (n := 87) rfl (v := nI 6) (by decide) ?_
          refine zr_iload C d_M_linked_87 (n := 89) rfl rfl ?_
          refine zr_iadd C d_M_linked_89 (n := 90) rfl ?_
          refine zr_toe (by simp only [pk_mul, nI_add]; rfl) ?_
          refine zr_ialdN C d_M_linked_90 (n := 91) rfl s1 rfl (by omega) (by decide) ?_
          refine zr_toe (y := V 1 0 t) (((hR 1 (by decide)).1 t (by omega)).2 hth).1 ?_
          refine zr_istore C d_M_linked_91 (n := 93) rfl (by decide) rfl ?_
          refine zr_iload C d_M_linked_93 (n := 95) rfl rfl ?_
          refine zr_bipush C d_M_linked_95 (n := 97) rfl (v := nI 8) (by decide) ?_
          refine zr_iand C d_M_linked_97 (n := 98) rfl ?_
          refine zr_if_eq C d_M_linked_98 (n := 101) rfl (t := 104) (by decide) (fun c4 => ?_) (fun c4 => ?_)
          · replace c4 := zb_nzf c4
            refine zr_iload_n C d_M_linked_104 (n := 105) rfl rfl ?_
            refine zr_iconst C d_M_linked_105 (n := 106) rfl (v := nI 2) (by decide) ?_
            refine zr_icmp_ge C d_M_linked_106 (n := 109) rfl (t := 119) (by decide) (fun c5 => ?_) (fun c5 => ?_)
            · refine zr_iload_n C d_M_linked_119 (n := 120) rfl rfl ?_
              refine zr_iconst C d_M_linked_120 (n := 121) rfl (v := nI 4) (by decide) ?_
              refine zr_icmp_ge C d_M_linked_121 (n := 124) rfl (t := 133) (by decide) (fun c6 => ?_) (fun c6 => ?_)
              · refine zr_iload_n C d_M_linked_133 (n := 134) rfl rfl ?_
                refine zr_iconst C d_M_linked_134 (n := 135) rfl (v := nI 4) (by decide) ?_
                refine zr_icmp_ne C d_M_linked_135 (n := 138) rfl (t := 152) (by decide) (fun c7 => ?_) (fun c7 => ?_)
                · refine zr_iload C d_M_linked_152 (n := 154) rfl rfl ?_
                  refine zr_iconst C d_M_linked_154 (n := 155) rfl (v := nI 4) (by decide) ?_
                  refine zr_iand C d_M_linked_155 (n := 156) rfl ?_
                  refine zr_if_ne C d_M_linked_156 (n := 159) rfl (t := 175) (by decide) (fun c8 => ?_) (fun c8 => ?_)
                  · replace c8 := zb_nzt c8
                    refine zr_bipush C d_M_linked_175 (n := 177) rfl (v := -9) (by decide) ?_
                    rw [zc_fate, if_pos c1, zb_fw_6] at hK
                    rw [if_pos hz2] at hK
                    rw [if_pos hth] at hK
                    rw [if_neg (by rw [zo_hf0 c4]; decide)] at hK
                    rw [zb_fo_x (zb_sb_x hth c8)] at hK
                    exact zr_iret C d_M_linked_177 rfl (hK _ _ mv) (Nat.zero_le _) (Nat.zero_le _)
                  · replace c8 := zb_nzf c8
                    refine zr_iload C d_M_linked_159 (n := 161) rfl rfl ?_
                    refine zr_iconst C d_M_linked_161 (n := 162) rfl (v := nI 1) (by decide) ?_
                    refine zr_iand C d_M_linked_162 (n := 163) rfl ?_
                    refine zr_aload_n C d_M_linked_163 (n := 164) rfl rfl ?_
                    refine zr_get C f_M_13 d_M_linked_164 (n := 167) rfl hm rfl ?_
                    refine zr_iload C d_M_linked_167 (n := 169) rfl rfl ?_
                    refine zr_ialdN C d_M_linked_169 (n := 170) rfl s1 (j := 6 * 0 + t) (congrArg nI (by omega)) (by omega) (by decide) ?_
                    refine zr_toe (y := V 0 0 t) (((hR 0 (by decide)).1 t (by omega)).2 hth0).1 ?_
                    refine zr_iconst C d_M_linked_170 (n := 171) rfl (v := nI 1) (by decide) ?_
                    refine zr_iand C d_M_linked_171 (n := 172) rfl ?_
                    refine zr_icmp_eq C d_M_linked_172 (n := 175) rfl (t := 178) (by decide) (fun c9 => ?_) (fun c9 => ?_)
                    · refine zr_iload_n C d_M_linked_178 (n := 179) rfl rfl ?_
                      refine zr_iconst C d_M_linked_179 (n := 180) rfl (v := nI 5) (by decide) ?_
                      refine zr_icmp_ne C d_M_linked_180 (n := 183) rfl (t := 187) (by decide) (fun c10 => ?_) (fun c10 => ?_)
                      · refine zr_aload_n C d_M_linked_187 (n := 188) rfl rfl ?_
                        refine zr_iload C d_M_linked_188 (n := 190) rfl rfl ?_
                        refine zr_iload C d_M_linked_190 (n := 192) rfl rfl ?_
                        refine zr_callV2 C k_M_106 d_M_linked_192 (nx := 195) rfl hm rfl ⟨by decide, by decide⟩ (Nat.le_of_ble_eq_true rfl) ⟨by decide, by decide⟩ (sp_M_linkOverride l mv.1 hR hok (B := (zc_bd (V 0) 6 t nm a9.toNatClampNeg)) ht hq.1 hq.2.2 hth (zb_sb_f hth hB1 c8 c9) w1 w2 (fun h3 S3 mv3 => ?_))
                        rw [zc_fate, if_pos c1, zb_fw_6] at hK
                        rw [if_pos hz2] at hK
                        rw [if_pos hth] at hK
                        rw [if_neg (by rw [zo_hf0 c4]; decide)] at hK
                        exact zr_iret C d_M_linked_195 rfl (hK _ _ (zm_mv_t mv mv3)) (Nat.zero_le _) (Nat.zero_le _)
                      · exact absurd c10 (by decide)
                    · refine zr_bipush C d_M_linked_175 (n := 177) rfl (v := -9) (by decide) ?_
                      rw [zc_fate, if_pos c1, zb_fw_6] at hK
                      rw [if_pos hz2] at hK
                      rw [if_pos hth] at hK
                      rw [if_neg (by rw [zo_hf0 c4]; decide)] at hK
                      rw [zb_fo_x (zb_sb_y hth hB1 c9)] at hK
                      exact zr_iret C d_M_linked_177 rfl (hK _ _ mv) (Nat.zero_le _) (Nat.zero_le _)
                · exact absurd c7 (by decide)
              · exact absurd (by decide) c6
            · exact absurd (by decide) c5
          · replace c4 := zb_nzt c4
            refine zr_bipush C d_M_linked_101 (n := 103) rfl (v := -8) (by decide) ?_
            rw [zc_fate, if_pos c1, zb_fw_6] at hK
            rw [if_pos hz2] at hK
            rw [if_pos hth] at hK
            rw [if_pos (zo_hf1 hth c4)] at hK
            exact zr_iret C d_M_linked_103 rfl (hK _ _ mv) (Nat.zero_le _) (Nat.zero_le _)
        · replace c3 := zk_bz c3
          refine zr_bipush C d_M_linked_78 (n := 80) rfl (v := -6) (by decide) ?_
          rw [zc_fate, if_pos c1, zb_fw_6] at hK
          rw [if_pos hz2] at hK
          rw [if_neg (by rw [c3]; decide)] at hK
          exact zr_iret C d_M_linked_80 rfl (hK _ _ mv) (Nat.zero_le _) (Nat.zero_le _)
      · exact absurd c2 (by decide)
    · refine zr_iload_n C d_M_linked_44 (n := 45) rfl rfl ?_
      rw [zc_fate, if_neg c1] at hK
      exact zr_iret C d_M_linked_45 rfl (hK _ _ mv) (Nat.zero_le _) (Nat.zero_le _)
