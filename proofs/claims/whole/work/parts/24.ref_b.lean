abbrev rm_M_parentsRight : Room := { frames := 0, cells := 0, slots := 0, locals := 0 }
set_option maxHeartbeats 4000000 in
set_option maxRecDepth 100000 in
/-- parentsRight -/
theorem sp_M_parentsRight (l : Launch) {h : zk_H} {V : Nat → zo_O} {S : zo_O} {us : Nat} (hM : zm_at h S us) (hR : zm_R V S) (hok : ∀ v, v < 2 → zo_ok (V v)) {v : Nat} (hv : v < 2) {t sp : Nat} (ht : t < 6) (hsp : sp ≤ 6) {x : Int32} {K : Option Value → zk_H → Prop} (hK : K (some (.int (zk_b (zo_cn (V v) t sp x)))) h) : zk_S l y_M_parentsRight b_M_parentsRight 8 (some .boolean) rm_M_parentsRight [.ref (38 + 1), .int (nI v), .int (nI t), .int (nI sp), .int x] h K := by
  obtain ⟨hm, s0, s1, s2, s3, s4, s5, s6, s7, s8, s9, s10, s11⟩ := id hM
  refine zk_S_of R_M "parentsRight" (by decide) rfl rfl [some (.ref (38 + 1)), some (.int (nI v)), some (.int (nI t)), some (.int (nI sp)), some (.int x), none, none, none] 3 rfl (Nat.le_of_ble_eq_true rfl) (fun p e s m ar below meth c D dA b base C => ?_)
  have L : ∀ (n j : Nat), n + j = 6 → K (some (.int (zk_b (zo_cnL (V v) t x n j)))) h → zk_V p l e rm_M_parentsRight s m ar below meth c 8 D dA b base (MQ below (zk_Q K D dA b base) ar s rm_M_parentsRight.cells rm_M_parentsRight.slots (fun q : Nat => base ≤ q)) 0 0 48 [some (.ref (38 + 1)), some (.int (nI v)), some (.int (nI t)), some (.int (nI sp)), some (.int x), some (.int (nI (6 * v))), some (.int (nI j)), none] [] h := by
    intro n
    induction n with
    | zero =>
      intro j hj hK
      refine zr_iload C d_M_parentsRight_48 (n := 50) rfl rfl ?_
      refine zr_bipush C d_M_parentsRight_50 (n := 52) rfl (v := nI 6) (by decide) ?_
      refine zr_icmp_ge C d_M_parentsRight_52 (n := 55) rfl (t := 119) (by decide) (fun c1 => ?_) (fun c1 => ?_)
      · refine zr_iconst C d_M_parentsRight_119 (n := 120) rfl (v := nI 1) (by decide) ?_
        exact zr_zret C d_M_parentsRight_120 rfl (by decide) hK (Nat.zero_le _) (Nat.zero_le _)
      · exact absurd (zk_nle (by omega) (by omega) c1) (by omega)
    | succ n ih =>
      intro j hj hK
      refine zr_iload C d_M_parentsRight_48 (n := 50) rfl rfl ?_
      refine zr_bipush C d_M_parentsRight_50 (n := 52) rfl (v := nI 6) (by decide) ?_
      refine zr_icmp_ge C d_M_parentsRight_52 (n := 55) rfl (t := 119) (by decide) (fun c1 => ?_) (fun c1 => ?_)
      · exact absurd (zk_le (by omega) (by omega) c1) (by omega)
      · replace c1 := zk_nle (by omega) (by omega) c1
        refine zr_iload C d_M_parentsRight_55 (n := 57) rfl rfl ?_
        refine zr_iload C d_M_parentsRight_57 (n := 59) rfl rfl ?_
        refine zr_ishr C d_M_parentsRight_59 (n := 60) rfl ?_
        refine zr_iconst C d_M_parentsRight_60 (n := 61) rfl (v := nI 1) (by decide) ?_
        refine zr_iand C d_M_parentsRight_61 (n := 62) rfl ?_
        refine zr_if_eq C d_M_parentsRight_62 (n := 65) rfl (t := 69) (by decide) (fun c2 => ?_) (fun c2 => ?_)
        · replace c2 := zk_bt0 c2
          refine zr_iconst C d_M_parentsRight_69 (n := 70) rfl (v := nI 0) (by decide) ?_
          refine zr_toe (y := zk_b (zk_bit x j)) (by rw [c2]; rfl) ?_
          refine zr_istore C d_M_parentsRight_70 (n := 72) rfl (by decide) rfl ?_
          refine zr_iload C d_M_parentsRight_72 (n := 74) rfl rfl ?_
          refine zr_if_eq C d_M_parentsRight_74 (n := 77) rfl (t := 113) (by decide) (fun c3 => ?_) (fun c3 => ?_)
          · replace c3 := zk_bz c3
            refine zr_iinc C d_M_parentsRight_113 (n := 116) rfl rfl (w := 1) (by decide) (nI_1 j) (by decide) rfl ?_
            refine zr_goto C d_M_parentsRight_116 (t := 48) (by decide) ?_
            refine zr_drop 7 ?_
            exact ih (j + 1) (by omega) (by rw [zo_cnL_go (fun q => absurd (c2.symm.trans q) (by decide))] at hK; exact hK)
          · replace c3 := zk_bn c3
            exact absurd ((c2).symm.trans c3) (by decide)
        · replace c2 := zk_bt1 c2
          refine zr_iconst C d_M_parentsRight_65 (n := 66) rfl (v := nI 1) (by decide) ?_
          refine zr_goto C d_M_parentsRight_66 (t := 70) (by decide) ?_
          refine zr_toe (y := zk_b (zk_bit x j)) (by rw [c2]; rfl) ?_
          refine zr_istore C d_M_parentsRight_70 (n := 72) rfl (by decide) rfl ?_
          refine zr_iload C d_M_parentsRight_72 (n := 74) rfl rfl ?_
          refine zr_if_eq C d_M_parentsRight_74 (n := 77) rfl (t := 113) (by decide) (fun c4 => ?_) (fun c4 => ?_)
          · replace c4 := zk_bz c4
            exact absurd ((c2).symm.trans c4) (by decide)
          · replace c4 := zk_bn c4
            refine zr_iload C d_M_parentsRight_77 (n := 79) rfl rfl ?_
            refine zr_iload_n C d_M_parentsRight_79 (n := 80) rfl rfl ?_
            refine zr_icmp_ge C d_M_parentsRight_80 (n := 83) rfl (t := 111) (by decide) (fun c5 => ?_) (fun c5 => ?_)
            · replace c5 := zk_le (by omega) (by omega) c5
              refine zr_iconst C d_M_parentsRight_111 (n := 112) rfl (v := nI 0) (by decide) ?_
              exact zr_zret C d_M_parentsRight_112 (by rw [zo_cnL_no c2 (by omega)]; rfl) (by decide) hK (Nat.zero_le _) (Nat.zero_le _)
            · replace c5 := zk_nle (by omega) (by omega) c5
              refine zr_aload_n C d_M_parentsRight_83 (n := 84) rfl rfl ?_
              refine zr_get C f_M_7 d_M_parentsRight_84 (n := 87) rfl hm rfl ?_
              refine zr_iload C d_M_parentsRight_87 (n := 89) rfl rfl ?_
              refine zr_iload C d_M_parentsRight_89 (n := 91) rfl rfl ?_
              refine zr_iadd C d_M_parentsRight_91 (n := 92) rfl ?_
              refine zr_toe (by simp only [pk_mul, nI_add]; rfl) ?_
              refine zr_zaldN C d_M_parentsRight_92 (n := 93) rfl s0 rfl (by omega) (by decide) ?_
              refine zr_toe (y := zk_b (zo_th (V v) j)) ((hR v hv).1 j (by omega)).1 ?_
              refine zr_if_eq C d_M_parentsRight_93 (n := 96) rfl (t := 111) (by decide) (fun c6 => ?_) (fun c6 => ?_)
              · replace c6 := zk_bz c6
                refine zr_iconst C d_M_parentsRight_111 (n := 112) rfl (v := nI 0) (by decide) ?_
                exact zr_zret C d_M_parentsRight_112 (by rw [zo_cnL_no c2 (by rw [zo_hfn c6]; exact fun q => absurd q.2 (by decide))]; rfl) (by decide) hK (Nat.zero_le _) (Nat.zero_le _)
              · replace c6 := zk_bn c6
                refine zr_aload_n C d_M_parentsRight_96 (n := 97) rfl rfl ?_
                refine zr_get C f_M_13 d_M_parentsRight_97 (n := 100) rfl hm rfl ?_
                refine zr_iload C d_M_parentsRight_100 (n := 102) rfl rfl ?_
                refine zr_iload C d_M_parentsRight_102 (n := 104) rfl rfl ?_
                refine zr_iadd C d_M_parentsRight_104 (n := 105) rfl ?_
                refine zr_toe (by simp only [pk_mul, nI_add]; rfl) ?_
                refine zr_ialdN C d_M_parentsRight_105 (n := 106) rfl s1 rfl (by omega) (by decide) ?_
                refine zr_toe (y := V v 0 j) (((hR v hv).1 j (by omega)).2 c6).1 ?_
                refine zr_iconst C d_M_parentsRight_106 (n := 107) rfl (v := nI 1) (by decide) ?_
                refine zr_iand C d_M_parentsRight_107 (n := 108) rfl ?_
                refine zr_if_ne C d_M_parentsRight_108 (n := 111) rfl (t := 113) (by decide) (fun c7 => ?_) (fun c7 => ?_)
                · replace c7 := zb_nzt c7
                  refine zr_iinc C d_M_parentsRight_113 (n := 116) rfl rfl (w := 1) (by decide) (nI_1 j) (by decide) rfl ?_
                  refine zr_goto C d_M_parentsRight_116 (t := 48) (by decide) ?_
                  refine zr_drop 7 ?_
                  exact ih (j + 1) (by omega) (by rw [zo_cnL_go (fun _ => ⟨c5, zo_hf1 c6 c7⟩)] at hK; exact hK)
                · replace c7 := zb_nzf c7
                  refine zr_iconst C d_M_parentsRight_111 (n := 112) rfl (v := nI 0) (by decide) ?_
                  exact zr_zret C d_M_parentsRight_112 (by rw [zo_cnL_no c2 (by rw [zo_hf0 c7]; exact fun q => absurd q.2 (by decide))]; rfl) (by decide) hK (Nat.zero_le _) (Nat.zero_le _)
  refine zr_bipush C d_M_parentsRight_0 (n := 2) rfl (v := nI 6) (by decide) ?_
  refine zr_iload_n C d_M_parentsRight_2 (n := 3) rfl rfl ?_
  refine zr_imul C d_M_parentsRight_3 (n := 4) rfl ?_
  refine zr_toe (by simp only [pk_mul, nI_add]; rfl) ?_
  refine zr_istore C d_M_parentsRight_4 (n := 6) rfl (by decide) rfl ?_
  refine zr_iload_n C d_M_parentsRight_6 (n := 7) rfl rfl ?_
  refine zr_bipush C d_M_parentsRight_7 (n := 9) rfl (v := nI 6) (by decide) ?_
  refine zr_icmp_ge C d_M_parentsRight_9 (n := 12) rfl (t := 45) (by decide) (fun c1 => ?_) (fun c1 => ?_)
  · replace c1 := zk_le (by omega) (by omega) c1
    refine zr_iconst C d_M_parentsRight_45 (n := 46) rfl (v := nI 0) (by decide) ?_
    refine zr_istore C d_M_parentsRight_46 (n := 48) rfl (by decide) rfl ?_
    exact L 6 0 rfl (by rw [zo_cn, if_neg (fun q => q.1 (by omega))] at hK; exact hK)
  · replace c1 := zk_nle (by omega) (by omega) c1
    refine zr_iload_n C d_M_parentsRight_12 (n := 13) rfl rfl ?_
    refine zr_iload_n C d_M_parentsRight_13 (n := 14) rfl rfl ?_
    refine zr_icmp_ge C d_M_parentsRight_14 (n := 17) rfl (t := 43) (by decide) (fun c2 => ?_) (fun c2 => ?_)
    · replace c2 := zk_le (by omega) (by omega) c2
      refine zr_iconst C d_M_parentsRight_43 (n := 44) rfl (v := nI 0) (by decide) ?_
      exact zr_zret C d_M_parentsRight_44 (by rw [zo_cn, if_pos ⟨by omega, fun q => by omega⟩]; rfl) (by decide) hK (Nat.zero_le _) (Nat.zero_le _)
    · replace c2 := zk_nle (by omega) (by omega) c2
      refine zr_aload_n C d_M_parentsRight_17 (n := 18) rfl rfl ?_
      refine zr_get C f_M_7 d_M_parentsRight_18 (n := 21) rfl hm rfl ?_
      refine zr_iload C d_M_parentsRight_21 (n := 23) rfl rfl ?_
      refine zr_iload_n C d_M_parentsRight_23 (n := 24) rfl rfl ?_
      refine zr_iadd C d_M_parentsRight_24 (n := 25) rfl ?_
      refine zr_toe (by simp only [pk_mul, nI_add]; rfl) ?_
      refine zr_zaldN C d_M_parentsRight_25 (n := 26) rfl s0 rfl (by omega) (by decide) ?_
      refine zr_toe (y := zk_b (zo_th (V v) sp)) ((hR v hv).1 sp (by omega)).1 ?_
      refine zr_if_eq C d_M_parentsRight_26 (n := 29) rfl (t := 43) (by decide) (fun c3 => ?_) (fun c3 => ?_)
      · replace c3 := zk_bz c3
        refine zr_iconst C d_M_parentsRight_43 (n := 44) rfl (v := nI 0) (by decide) ?_
        exact zr_zret C d_M_parentsRight_44 (by rw [zo_cn, if_pos ⟨by omega, fun q => absurd (c3.symm.trans q.2.1) (by decide)⟩]; rfl) (by decide) hK (Nat.zero_le _) (Nat.zero_le _)
      · replace c3 := zk_bn c3
        refine zr_aload_n C d_M_parentsRight_29 (n := 30) rfl rfl ?_
        refine zr_get C f_M_13 d_M_parentsRight_30 (n := 33) rfl hm rfl ?_
        refine zr_iload C d_M_parentsRight_33 (n := 35) rfl rfl ?_
        refine zr_iload_n C d_M_parentsRight_35 (n := 36) rfl rfl ?_
        refine zr_iadd C d_M_parentsRight_36 (n := 37) rfl ?_
        refine zr_toe (by simp only [pk_mul, nI_add]; rfl) ?_
        refine zr_ialdN C d_M_parentsRight_37 (n := 38) rfl s1 rfl (by omega) (by decide) ?_
        refine zr_toe (y := V v 0 sp) (((hR v hv).1 sp (by omega)).2 c3).1 ?_
        refine zr_iconst C d_M_parentsRight_38 (n := 39) rfl (v := nI 1) (by decide) ?_
        refine zr_iand C d_M_parentsRight_39 (n := 40) rfl ?_
        refine zr_if_eq C d_M_parentsRight_40 (n := 43) rfl (t := 45) (by decide) (fun c4 => ?_) (fun c4 => ?_)
        · replace c4 := zb_nzf c4
          refine zr_iconst C d_M_parentsRight_45 (n := 46) rfl (v := nI 0) (by decide) ?_
          refine zr_istore C d_M_parentsRight_46 (n := 48) rfl (by decide) rfl ?_
          exact L 6 0 rfl (by rw [zo_cn, if_neg (fun q => q.2 ⟨c2, c3, zo_hf0 c4⟩)] at hK; exact hK)
        · replace c4 := zb_nzt c4
          refine zr_iconst C d_M_parentsRight_43 (n := 44) rfl (v := nI 0) (by decide) ?_
          exact zr_zret C d_M_parentsRight_44 (by rw [zo_cn, if_pos ⟨by omega, fun q => absurd ((zo_hf1 c3 c4).symm.trans q.2.2) (by decide)⟩]; rfl) (by decide) hK (Nat.zero_le _) (Nat.zero_le _)
theorem zo_up6 {O : zo_O} (hw : zo_wf O) {t : Nat} (ht : t < 6) : (nI 6 ≤ O 1 t ↔ O 1 t = nI 6) := by
  rcases hw t ht with e | ⟨s, hs, e⟩
  · rw [e]; exact ⟨fun _ => rfl, fun _ => by decide⟩
  · rw [e]; exact ⟨fun q => absurd (zk_le (by omega) (by omega) q) (by omega), fun q => absurd (zk_eq (by omega) (by omega) q) (by omega)⟩
abbrev rm_M_isUnder : Room := { frames := 0, cells := 0, slots := 0, locals := 0 }
set_option maxHeartbeats 4000000 in
set_option maxRecDepth 100000 in
/-- isUnder -/
theorem sp_M_isUnder (l : Launch) {h : zk_H} {V : Nat → zo_O} {S : zo_O} {us : Nat} (hM : zm_at h S us) (hR : zm_R V S) (hok : ∀ v, v < 2 → zo_ok (V v)) {v : Nat} (hv : v < 2) {t o : Nat} (ht : t < 6) (ho : o < 6) (hth : zo_th (V v) t = true) {K : Option Value → zk_H → Prop} (hK : K (some (.int (zk_b (zk_bit (zo_st (V v) t) o)))) h) : zk_S l y_M_isUnder b_M_isUnder 7 (some .boolean) rm_M_isUnder [.ref (38 + 1), .int (nI v), .int (nI t), .int (nI o)] h K := by
  obtain ⟨hm, s0, s1, s2, s3, s4, s5, s6, s7, s8, s9, s10, s11⟩ := id hM
  refine zk_S_of R_M "isUnder" (by decide) rfl rfl [some (.ref (38 + 1)), some (.int (nI v)), some (.int (nI t)), some (.int (nI o)), none, none, none] 3 rfl (Nat.le_of_ble_eq_true rfl) (fun p e s m ar below meth c D dA b base C => ?_)
  have L : ∀ (n : Nat) (y z : Int32), z = nI n + (-1) → n ≤ 6 → zo_cov (V v) y n → K (some (.int (zk_b (zk_bit (zo_stL (V v) n y) o)))) h → zk_V p l e rm_M_isUnder s m ar below meth c 7 D dA b base (MQ below (zk_Q K D dA b base) ar s rm_M_isUnder.cells rm_M_isUnder.slots (fun q : Nat => base ≤ q)) 0 0 8 [some (.ref (38 + 1)), some (.int (nI v)), some (.int (nI t)), some (.int (nI o)), some (.int y), some (.int z), none] [] h := by
    intro n
    induction n with
    | zero =>
      intro y z hz hn hy hK
      subst hz
      refine zr_iload C d_M_isUnder_8 (n := 10) rfl rfl ?_
      refine zr_if_lt C d_M_isUnder_10 (n := 13) rfl (t := 79) (by decide) (fun c1 => ?_) (fun c1 => ?_)
      · refine zr_iload C d_M_isUnder_79 (n := 81) rfl rfl ?_
        refine zr_iload_n C d_M_isUnder_81 (n := 82) rfl rfl ?_
        refine zr_ishr C d_M_isUnder_82 (n := 83) rfl ?_
        refine zr_iconst C d_M_isUnder_83 (n := 84) rfl (v := nI 1) (by decide) ?_
        refine zr_iand C d_M_isUnder_84 (n := 85) rfl ?_
        refine zr_if_eq C d_M_isUnder_85 (n := 88) rfl (t := 92) (by decide) (fun c2 => ?_) (fun c2 => ?_)
        · replace c2 := zk_bt0 c2
          refine zr_iconst C d_M_isUnder_92 (n := 93) rfl (v := nI 0) (by decide) ?_
          exact zr_zret C d_M_isUnder_93 (by rw [zo_stL, c2]; rfl) (by decide) hK (Nat.zero_le _) (Nat.zero_le _)
        · replace c2 := zk_bt1 c2
          refine zr_iconst C d_M_isUnder_88 (n := 89) rfl (v := nI 1) (by decide) ?_
          refine zr_goto C d_M_isUnder_89 (t := 93) (by decide) ?_
          exact zr_zret C d_M_isUnder_93 (by rw [zo_stL, c2]; rfl) (by decide) hK (Nat.zero_le _) (Nat.zero_le _)
      · exact absurd (by decide) c1
    | succ n ih =>
      intro y z hz hn hy hK
      rw [pk_sn] at hz
      subst hz
      refine zr_iload C d_M_isUnder_8 (n := 10) rfl rfl ?_
      refine zr_if_lt C d_M_isUnder_10 (n := 13) rfl (t := 79) (by decide) (fun c1 => ?_) (fun c1 => ?_)
      · exact absurd c1 (nI_pos (by omega))
      · refine zr_bipush C d_M_isUnder_13 (n := 15) rfl (v := nI 6) (by decide) ?_
        refine zr_iload_n C d_M_isUnder_15 (n := 16) rfl rfl ?_
        refine zr_imul C d_M_isUnder_16 (n := 17) rfl ?_
        refine zr_toe (by simp only [pk_mul, nI_add]; rfl) ?_
        refine zr_iload C d_M_isUnder_17 (n := 19) rfl rfl ?_
        refine zr_iadd C d_M_isUnder_19 (n := 20) rfl ?_
        refine zr_toe (by simp only [pk_mul, nI_add]; rfl) ?_
        refine zr_istore C d_M_isUnder_20 (n := 22) rfl (by decide) rfl ?_
        refine zr_iload C d_M_isUnder_22 (n := 24) rfl rfl ?_
        refine zr_iload C d_M_isUnder_24 (n := 26) rfl rfl ?_
        refine zr_ishr C d_M_isUnder_26 (n := 27) rfl ?_
        refine zr_iconst C d_M_isUnder_27 (n := 28) rfl (v := nI 1) (by decide) ?_
        refine zr_iand C d_M_isUnder_28 (n := 29) rfl ?_
        refine zr_if_ne C d_M_isUnder_29 (n := 32) rfl (t := 35) (by decide) (fun c2 => ?_) (fun c2 => ?_)
        · replace c2 := zk_bt1 c2
          refine zr_iload C d_M_isUnder_35 (n := 37) rfl rfl ?_
          refine zr_aload_n C d_M_isUnder_37 (n := 38) rfl rfl ?_
          refine zr_get C f_M_20 d_M_isUnder_38 (n := 41) rfl hm rfl ?_
          refine zr_iload C d_M_isUnder_41 (n := 43) rfl rfl ?_
          refine zr_ialdN C d_M_isUnder_43 (n := 44) rfl s3 rfl (by omega) (by decide) ?_
          refine zr_toe (y := V v 2 n) (((hR v hv).1 n (by omega)).2 (hy n (by omega) c2)).2.2 ?_
          refine zr_ior C d_M_isUnder_44 (n := 45) rfl ?_
          refine zr_istore C d_M_isUnder_45 (n := 47) rfl (by decide) rfl ?_
          refine zr_aload_n C d_M_isUnder_47 (n := 48) rfl rfl ?_
          refine zr_get C f_M_17 d_M_isUnder_48 (n := 51) rfl hm rfl ?_
          refine zr_iload C d_M_isUnder_51 (n := 53) rfl rfl ?_
          refine zr_ialdN C d_M_isUnder_53 (n := 54) rfl s2 rfl (by omega) (by decide) ?_
          refine zr_toe (y := V v 1 n) (((hR v hv).1 n (by omega)).2 (hy n (by omega) c2)).2.1 ?_
          refine zr_bipush C d_M_isUnder_54 (n := 56) rfl (v := nI 6) (by decide) ?_
          refine zr_icmp_ge C d_M_isUnder_56 (n := 59) rfl (t := 73) (by decide) (fun c3 => ?_) (fun c3 => ?_)
          · replace c3 := (zo_up6 (zo_ok_wf (hok v hv)) (by omega)).mp c3
            refine zr_iinc C d_M_isUnder_73 (n := 76) rfl rfl (w := -1) (by decide) rfl (by decide) rfl ?_
            refine zr_goto C d_M_isUnder_76 (t := 8) (by decide) ?_
            refine zr_drop 6 ?_
            refine ih _ _ rfl (by omega) (zo_cov_s (hok v hv) (by omega) hy |> cast (by simp only [zo_st1, c2, c3, if_true, if_false, reduceCtorEq, Bool.false_eq_true])) ?_
            simpa [zo_stL, zo_st1, c2, c3] using hK
          · replace c3 : ¬ V v 1 n = nI 6 := fun q => c3 ((zo_up6 (zo_ok_wf (hok v hv)) (by omega)).mpr q)
            refine zr_iload C d_M_isUnder_59 (n := 61) rfl rfl ?_
            refine zr_iconst C d_M_isUnder_61 (n := 62) rfl (v := nI 1) (by decide) ?_
            refine zr_aload_n C d_M_isUnder_62 (n := 63) rfl rfl ?_
            refine zr_get C f_M_17 d_M_isUnder_63 (n := 66) rfl hm rfl ?_
            refine zr_iload C d_M_isUnder_66 (n := 68) rfl rfl ?_
            refine zr_ialdN C d_M_isUnder_68 (n := 69) rfl s2 rfl (by omega) (by decide) ?_
            refine zr_toe (y := V v 1 n) (((hR v hv).1 n (by omega)).2 (hy n (by omega) c2)).2.1 ?_
            refine zr_ishl C d_M_isUnder_69 (n := 70) rfl ?_
            refine zr_ior C d_M_isUnder_70 (n := 71) rfl ?_
            refine zr_istore C d_M_isUnder_71 (n := 73) rfl (by decide) rfl ?_
            refine zr_iinc C d_M_isUnder_73 (n := 76) rfl rfl (w := -1) (by decide) rfl (by decide) rfl ?_
            refine zr_goto C d_M_isUnder_76 (t := 8) (by decide) ?_
            refine zr_drop 6 ?_
            refine ih _ _ rfl (by omega) (zo_cov_s (hok v hv) (by omega) hy |> cast (by simp only [zo_st1, c2, c3, if_true, if_false, reduceCtorEq, Bool.false_eq_true])) ?_
            simpa [zo_stL, zo_st1, c2, c3] using hK
        · replace c2 := zk_bt0 c2
          refine zr_goto C d_M_isUnder_32 (t := 73) (by decide) ?_
          refine zr_iinc C d_M_isUnder_73 (n := 76) rfl rfl (w := -1) (by decide) rfl (by decide) rfl ?_
          refine zr_goto C d_M_isUnder_76 (t := 8) (by decide) ?_
          refine zr_drop 6 ?_
          refine ih _ _ rfl (by omega) (zo_cov_s (hok v hv) (by omega) hy |> cast (by simp only [zo_st1, c2, if_true, if_false, reduceCtorEq, Bool.false_eq_true])) ?_
          simpa [zo_stL, zo_st1, c2] using hK
  refine zr_iconst C d_M_isUnder_0 (n := 1) rfl (v := nI 1) (by decide) ?_
  refine zr_iload_n C d_M_isUnder_1 (n := 2) rfl rfl ?_
  refine zr_ishl C d_M_isUnder_2 (n := 3) rfl ?_
  refine zr_istore C d_M_isUnder_3 (n := 5) rfl (by decide) rfl ?_
  refine zr_iload_n C d_M_isUnder_5 (n := 6) rfl rfl ?_
  refine zr_istore C d_M_isUnder_6 (n := 8) rfl (by decide) rfl ?_
  exact L (t + 1) _ _ (pk_sn t).symm (by omega) (zo_cov_1 ht hth) hK
/-- a place of the class as the reference numbers it -/
def zm_p (w : Nat) (r : Int32) : Int32 := match zb_pl r with
  | none => -1
  | some j => nI (w + j)
theorem zm_p_n {w : Nat} : zm_p w (-1) = -1 := by rw [zm_p, zb_pl_n]
theorem zm_p_s {w j : Nat} (hj : j < 2147483648) : zm_p w (nI j) = nI (w + j) := by rw [zm_p, zb_pl_s hj]
theorem zo_hf_t {O : zo_O} {t : Nat} {x : Int32} (h : zo_hf O t x = true) : zo_th O t = true := decide_eq_true (of_decide_eq_true h).1
theorem zo_nx {O : zo_O} (hok : zo_ok O) {t : Nat} (ht : t < 6) (hth : zo_th O t = true) : ∃ s, s ≤ 6 ∧ O 1 t = nI s ∧ (s < 6 → s < t ∧ zo_th O s = true) := by
  rcases (hok.2.1 t ht (zo_thn hth)).1 with e | ⟨s, h1, h2, h3⟩
  · exact ⟨6, Nat.le_refl 6, e, fun q => absurd q (by omega)⟩
  · exact ⟨s, by omega, h2, fun _ => ⟨h1, decide_eq_true h3⟩⟩
abbrev rm_M_findMethod : Room := { frames := 1, cells := 0, slots := 0, locals := 26 }
set_option maxHeartbeats 4000000 in
set_option maxRecDepth 100000 in
/-- findMethod -/
theorem sp_M_findMethod (l : Launch) {h : zk_H} {V : Nat → zo_O} {S : zo_O} {us : Nat} (hM : zm_at h S us) (hR : zm_R V S) (hok : ∀ v, v < 2 → zo_ok (V v)) {v : Nat} (hv : v < 2) {t nm pa : Nat} (ht : t < 6) (hnm : nm < 3) (hpa : pa < 4) (hth : zo_th (V v) t = true) {x : Int32} (hx : x = -1 ∨ ∃ a, a < 4 ∧ x = nI a) {K : Option Value → zk_H → Prop} (hK : K (some (.int (zm_p (72 * v) (zo_fm (V v) t nm pa x)))) h) : zk_S l y_M_findMethod b_M_findMethod 10 (some .int) rm_M_findMethod [.ref (38 + 1), .int (nI v), .int (nI t), .int (nI nm), .int (nI pa), .int x] h K := by
  obtain ⟨hm, s0, s1, s2, s3, s4, s5, s6, s7, s8, s9, s10, s11⟩ := id hM
  refine zk_S_of R_M "findMethod" (by decide) rfl rfl [some (.ref (38 + 1)), some (.int (nI v)), some (.int (nI t)), some (.int (nI nm)), some (.int (nI pa)), some (.int x), none, none, none, none] 4 rfl (Nat.le_of_ble_eq_true rfl) (fun p e s m ar below meth c D dA b base C => ?_)
  have L2 : ∀ (n : Nat) (z : Int32), z = nI n + (-1) → n ≤ 6 → K (some (.int (zm_p (72 * v) (zo_mi (V v) nm pa x (zo_st (V v) t) n)))) h → zk_V p l e rm_M_findMethod s m ar below meth c 10 D dA b base (MQ below (zk_Q K D dA b base) ar s rm_M_findMethod.cells rm_M_findMethod.slots (fun q : Nat => base ≤ q)) 0 0 67 [some (.ref (38 + 1)), some (.int (nI v)), some (.int (nI t)), some (.int (nI nm)), some (.int (nI pa)), some (.int x), some (.int (nI (4 * nm + pa))), none, some (.int z), none] [] h := by
    intro n
    induction n with
    | zero =>
      intro z hz hn hK
      subst hz
      refine zr_iload C d_M_findMethod_67 (n := 69) rfl rfl ?_
      refine zr_if_lt C d_M_findMethod_69 (n := 72) rfl (t := 146) (by decide) (fun c1 => ?_) (fun c1 => ?_)
      · refine zr_iconst C d_M_findMethod_146 (n := 147) rfl (v := -1) (by decide) ?_
        exact zr_iret C d_M_findMethod_147 (by rw [zo_mi, zm_p_n]) hK (Nat.zero_le _) (Nat.zero_le _)
      · exact absurd (by decide) c1
    | succ n ih =>
      intro z hz hn hK
      rw [pk_sn] at hz
      subst hz
      refine zr_iload C d_M_findMethod_67 (n := 69) rfl rfl ?_
      refine zr_if_lt C d_M_findMethod_69 (n := 72) rfl (t := 146) (by decide) (fun c1 => ?_) (fun c1 => ?_)
      · exact absurd c1 (nI_pos (by omega))
      · refine zr_bipush C d_M_findMethod_72 (n := 74) rfl (v := nI 6) (by decide) ?_
        refine zr_iload_n C d_M_findMethod_74 (n := 75) rfl rfl ?_
        refine zr_imul C d_M_findMethod_75 (n := 76) rfl ?_
        refine zr_toe (by simp only [pk_mul, nI_add]; rfl) ?_
        refine zr_iload C d_M_findMethod_76 (n := 78) rfl rfl ?_
        refine zr_iadd C d_M_findMethod_78 (n := 79) rfl ?_
        refine zr_toe (by simp only [pk_mul, nI_add]; rfl) ?_
        refine zr_istore C d_M_findMethod_79 (n := 81) rfl (by decide) rfl ?_
        refine zr_aload_n C d_M_findMethod_81 (n := 82) rfl rfl ?_
        refine zr_get C f_M_7 d_M_findMethod_82 (n := 85) rfl hm rfl ?_
        refine zr_iload C d_M_findMethod_85 (n := 87) rfl rfl ?_
        refine zr_zaldN C d_M_findMethod_87 (n := 88) rfl s0 rfl (by omega) (by decide) ?_
        refine zr_toe (y := zk_b (zo_th (V v) n)) ((hR v hv).1 n (by omega)).1 ?_
        refine zr_if_eq C d_M_findMethod_88 (n := 91) rfl (t := 140) (by decide) (fun c2 => ?_) (fun c2 => ?_)
        · replace c2 := zk_bz c2
          refine zr_iinc C d_M_findMethod_140 (n := 143) rfl rfl (w := -1) (by decide) rfl (by decide) rfl ?_
          refine zr_goto C d_M_findMethod_143 (t := 67) (by decide) ?_
          refine zr_drop 9 ?_
          exact ih _ rfl (by omega) (by rw [zo_mi_go (fun q => absurd ((zo_hfn c2).symm.trans q.2.1) (by decide))] at hK; exact hK)
        · replace c2 := zk_bn c2
          refine zr_aload_n C d_M_findMethod_91 (n := 92) rfl rfl ?_
          refine zr_get C f_M_13 d_M_findMethod_92 (n := 95) rfl hm rfl ?_
          refine zr_iload C d_M_findMethod_95 (n := 97) rfl rfl ?_
          refine zr_ialdN C d_M_findMethod_97 (n := 98) rfl s1 rfl (by omega) (by decide) ?_
          refine zr_toe (y := V v 0 n) (((hR v hv).1 n (by omega)).2 c2).1 ?_
          refine zr_iconst C d_M_findMethod_98 (n := 99) rfl (v := nI 1) (by decide) ?_
          refine zr_iand C d_M_findMethod_99 (n := 100) rfl ?_
          refine zr_if_eq C d_M_findMethod_100 (n := 103) rfl (t := 140) (by decide) (fun c3 => ?_) (fun c3 => ?_)
          · replace c3 := zb_nzf c3
            refine zr_iinc C d_M_findMethod_140 (n := 143) rfl rfl (w := -1) (by decide) rfl (by decide) rfl ?_
            refine zr_goto C d_M_findMethod_143 (t := 67) (by decide) ?_
            refine zr_drop 9 ?_
            exact ih _ rfl (by omega) (by rw [zo_mi_go (fun q => absurd ((zo_hf0 c3).symm.trans q.2.1) (by decide))] at hK; exact hK)
          · replace c3 := zb_nzt c3
            refine zr_aload_n C d_M_findMethod_103 (n := 104) rfl rfl ?_
            refine zr_iload_n C d_M_findMethod_104 (n := 105) rfl rfl ?_
            refine zr_iload_n C d_M_findMethod_105 (n := 106) rfl rfl ?_
            refine zr_iload C d_M_findMethod_106 (n := 108) rfl rfl ?_
            refine zr_callV3 C k_M_66 d_M_findMethod_108 (nx := 111) rfl hm rfl ⟨by decide, by decide⟩ (Nat.le_of_ble_eq_true rfl) ⟨by decide, by decide⟩ (sp_M_isUnder l hM hR hok hv ht (by omega) hth ?_)
            refine zr_if_eq C d_M_findMethod_111 (n := 114) rfl (t := 140) (by decide) (fun c4 => ?_) (fun c4 => ?_)
            · replace c4 := zk_bz c4
              refine zr_iinc C d_M_findMethod_140 (n := 143) rfl rfl (w := -1) (by decide) rfl (by decide) rfl ?_
              refine zr_goto C d_M_findMethod_143 (t := 67) (by decide) ?_
              refine zr_drop 9 ?_
              exact ih _ rfl (by omega) (by rw [zo_mi_go (fun q => absurd (c4.symm.trans q.1) (by decide))] at hK; exact hK)
            · replace c4 := zk_bn c4
              refine zr_aload_n C d_M_findMethod_114 (n := 115) rfl rfl ?_
              refine zr_bipush C d_M_findMethod_115 (n := 117) rfl (v := nI 12) (by decide) ?_
              refine zr_iload C d_M_findMethod_117 (n := 119) rfl rfl ?_
              refine zr_imul C d_M_findMethod_119 (n := 120) rfl ?_
              refine zr_toe (by simp only [pk_mul, nI_add]; rfl) ?_
              refine zr_iload C d_M_findMethod_120 (n := 122) rfl rfl ?_
              refine zr_iadd C d_M_findMethod_122 (n := 123) rfl ?_
              refine zr_toe (by simp only [pk_mul, nI_add]; rfl) ?_
              refine zr_toe (y := nI (72 * v + (n * 12 + nm * 4 + pa))) (congrArg nI (by omega)) ?_
              refine zr_iload C d_M_findMethod_123 (n := 125) rfl rfl ?_
              refine zr_callV2 C k_M_63 d_M_findMethod_125 (nx := 128) rfl hm rfl ⟨by decide, by decide⟩ (Nat.le_of_ble_eq_true rfl) ⟨by decide, by decide⟩ (sp_M_isMethod l hM hR hok hv (j := n * 12 + nm * 4 + pa) (by omega) hx ?_)
              refine zr_if_eq C d_M_findMethod_128 (n := 131) rfl (t := 140) (by decide) (fun c5 => ?_) (fun c5 => ?_)
              · replace c5 := zk_bz c5
                refine zr_iinc C d_M_findMethod_140 (n := 143) rfl rfl (w := -1) (by decide) rfl (by decide) rfl ?_
                refine zr_goto C d_M_findMethod_143 (t := 67) (by decide) ?_
                refine zr_drop 9 ?_
                exact ih _ rfl (by omega) (by rw [zo_mi_go (fun q => absurd (c5.symm.trans q.2.2) (by decide))] at hK; exact hK)
              · replace c5 := zk_bn c5
                refine zr_bipush C d_M_findMethod_131 (n := 133) rfl (v := nI 12) (by decide) ?_
                refine zr_iload C d_M_findMethod_133 (n := 135) rfl rfl ?_
                refine zr_imul C d_M_findMethod_135 (n := 136) rfl ?_
                refine zr_toe (by simp only [pk_mul, nI_add]; rfl) ?_
                refine zr_iload C d_M_findMethod_136 (n := 138) rfl rfl ?_
                refine zr_iadd C d_M_findMethod_138 (n := 139) rfl ?_
                refine zr_toe (by simp only [pk_mul, nI_add]; rfl) ?_
                refine zr_toe (y := nI (72 * v + (n * 12 + nm * 4 + pa))) (congrArg nI (by omega)) ?_
                exact zr_iret C d_M_findMethod_139 (by rw [zo_mi_yes ⟨c4, zo_hf1 c2 c3, c5⟩, zm_p_s (by omega)]) hK (Nat.zero_le _) (Nat.zero_le _)
  have J : K (some (.int (zm_p (72 * v) (zo_mi (V v) nm pa x (zo_st (V v) t) 6)))) h → zk_V p l e rm_M_findMethod s m ar below meth c 10 D dA b base (MQ below (zk_Q K D dA b base) ar s rm_M_findMethod.cells rm_M_findMethod.slots (fun q : Nat => base ≤ q)) 0 0 64 [some (.ref (38 + 1)), some (.int (nI v)), some (.int (nI t)), some (.int (nI nm)), some (.int (nI pa)), some (.int x), some (.int (nI (4 * nm + pa))), none, none, none] [] h := by
    intro hK
    refine zr_iconst C d_M_findMethod_64 (n := 65) rfl (v := nI 5) (by decide) ?_
    refine zr_istore C d_M_findMethod_65 (n := 67) rfl (by decide) rfl ?_
    exact L2 6 _ (pk_sn 5).symm (by omega) hK
  have L1 : ∀ (n hd : Nat), hd ≤ 6 → (hd < 6 → hd < n ∧ zo_th (V v) hd = true) → K (some (.int (zm_p (72 * v) (zo_mc (V v) nm pa x (zo_mi (V v) nm pa x (zo_st (V v) t) 6) n hd)))) h → zk_V p l e rm_M_findMethod s m ar below meth c 10 D dA b base (MQ below (zk_Q K D dA b base) ar s rm_M_findMethod.cells rm_M_findMethod.slots (fun q : Nat => base ≤ q)) 0 0 11 [some (.ref (38 + 1)), some (.int (nI v)), some (.int (nI t)), some (.int (nI nm)), some (.int (nI pa)), some (.int x), some (.int (nI (4 * nm + pa))), some (.int (nI hd)), none, none] [] h := by
    intro n
    induction n with
    | zero =>
      intro hd hhd hc hK
      have h6 : hd = 6 := Classical.byContradiction fun q => absurd (hc (by omega)).1 (by omega)
      subst h6
      refine zr_iload C d_M_findMethod_11 (n := 13) rfl rfl ?_
      refine zr_bipush C d_M_findMethod_13 (n := 15) rfl (v := nI 6) (by decide) ?_
      refine zr_icmp_ge C d_M_findMethod_15 (n := 18) rfl (t := 64) (by decide) (fun c1 => ?_) (fun c1 => ?_)
      · refine zr_drop 7 ?_
        exact J hK
      · exact absurd (by decide) c1
    | succ n ih =>
      intro hd hhd hc hK
      refine zr_iload C d_M_findMethod_11 (n := 13) rfl rfl ?_
      refine zr_bipush C d_M_findMethod_13 (n := 15) rfl (v := nI 6) (by decide) ?_
      refine zr_icmp_ge C d_M_findMethod_15 (n := 18) rfl (t := 64) (by decide) (fun c1 => ?_) (fun c1 => ?_)
      · replace c1 := zk_le (by omega) (by omega) c1
        have h6 : hd = 6 := by omega
        subst h6
        refine zr_drop 7 ?_
        exact J (by rw [zo_mc_end] at hK; exact hK)
      · replace c1 := zk_nle (by omega) (by omega) c1
        obtain ⟨hc1, hc2⟩ := hc c1
        refine zr_bipush C d_M_findMethod_18 (n := 20) rfl (v := nI 12) (by decide) ?_
        refine zr_bipush C d_M_findMethod_20 (n := 22) rfl (v := nI 6) (by decide) ?_
        refine zr_iload_n C d_M_findMethod_22 (n := 23) rfl rfl ?_
        refine zr_imul C d_M_findMethod_23 (n := 24) rfl ?_
        refine zr_toe (by simp only [pk_mul, nI_add]; rfl) ?_
        refine zr_iload C d_M_findMethod_24 (n := 26) rfl rfl ?_
        refine zr_iadd C d_M_findMethod_26 (n := 27) rfl ?_
        refine zr_toe (by simp only [pk_mul, nI_add]; rfl) ?_
        refine zr_imul C d_M_findMethod_27 (n := 28) rfl ?_
        refine zr_toe (by simp only [pk_mul, nI_add]; rfl) ?_
        refine zr_iload C d_M_findMethod_28 (n := 30) rfl rfl ?_
        refine zr_iadd C d_M_findMethod_30 (n := 31) rfl ?_
        refine zr_toe (by simp only [pk_mul, nI_add]; rfl) ?_
        refine zr_toe (y := nI (72 * v + (hd * 12 + nm * 4 + pa))) (congrArg nI (by omega)) ?_
        refine zr_istore C d_M_findMethod_31 (n := 33) rfl (by decide) rfl ?_
        refine zr_aload_n C d_M_findMethod_33 (n := 34) rfl rfl ?_
        refine zr_iload C d_M_findMethod_34 (n := 36) rfl rfl ?_
        refine zr_iload C d_M_findMethod_36 (n := 38) rfl rfl ?_
        refine zr_callV2 C k_M_63 d_M_findMethod_38 (nx := 41) rfl hm rfl ⟨by decide, by decide⟩ (Nat.le_of_ble_eq_true rfl) ⟨by decide, by decide⟩ (sp_M_isMethod l hM hR hok hv (j := hd * 12 + nm * 4 + pa) (by omega) hx ?_)
        refine zr_if_eq C d_M_findMethod_41 (n := 44) rfl (t := 47) (by decide) (fun c2 => ?_) (fun c2 => ?_)
        · replace c2 := zk_bz c2
          refine zr_aload_n C d_M_findMethod_47 (n := 48) rfl rfl ?_
          refine zr_get C f_M_17 d_M_findMethod_48 (n := 51) rfl hm rfl ?_
          refine zr_bipush C d_M_findMethod_51 (n := 53) rfl (v := nI 6) (by decide) ?_
          refine zr_iload_n C d_M_findMethod_53 (n := 54) rfl rfl ?_
          refine zr_imul C d_M_findMethod_54 (n := 55) rfl ?_
          refine zr_toe (by simp only [pk_mul, nI_add]; rfl) ?_
          refine zr_iload C d_M_findMethod_55 (n := 57) rfl rfl ?_
          refine zr_iadd C d_M_findMethod_57 (n := 58) rfl ?_
          refine zr_toe (by simp only [pk_mul, nI_add]; rfl) ?_
          refine zr_ialdN C d_M_findMethod_58 (n := 59) rfl s2 rfl (by omega) (by decide) ?_
          refine zr_toe (y := V v 1 hd) (((hR v hv).1 hd (by omega)).2 hc2).2.1 ?_
          obtain ⟨s0, hs0, hs0e, hs0c⟩ := zo_nx (hok v hv) (t := hd) (by omega) hc2
          refine zr_toe (y := nI s0) hs0e ?_
          refine zr_istore C d_M_findMethod_59 (n := 61) rfl (by decide) rfl ?_
          refine zr_goto C d_M_findMethod_61 (t := 11) (by decide) ?_
          refine zr_drop 8 ?_
          exact ih s0 hs0 (fun q => ⟨by have := hs0c q; omega, (hs0c q).2⟩) (by rw [zo_mc_go (by omega) c2 hs0e hs0] at hK; exact hK)
        · replace c2 := zk_bn c2
          refine zr_iload C d_M_findMethod_44 (n := 46) rfl rfl ?_
          exact zr_iret C d_M_findMethod_46 (by rw [zo_mc_yes (by omega) c2, zm_p_s (by omega)]) hK (Nat.zero_le _) (Nat.zero_le _)
  refine zr_iconst C d_M_findMethod_0 (n := 1) rfl (v := nI 4) (by decide) ?_
  refine zr_iload_n C d_M_findMethod_1 (n := 2) rfl rfl ?_
  refine zr_imul C d_M_findMethod_2 (n := 3) rfl ?_
  refine zr_toe (by simp only [pk_mul, nI_add]; rfl) ?_
  refine zr_iload C d_M_findMethod_3 (n := 5) rfl rfl ?_
  refine zr_iadd C d_M_findMethod_5 (n := 6) rfl ?_
  refine zr_toe (by simp only [pk_mul, nI_add]; rfl) ?_
  refine zr_istore C d_M_findMethod_6 (n := 8) rfl (by decide) rfl ?_
  refine zr_iload_n C d_M_findMethod_8 (n := 9) rfl rfl ?_
  refine zr_istore C d_M_findMethod_9 (n := 11) rfl (by decide) rfl ?_
  exact L1 6 t (by omega) (fun _ => ⟨ht, hth⟩) hK
