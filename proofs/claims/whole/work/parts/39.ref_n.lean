theorem zm_if {a : Nat} {f g : Nat → Int32} {i : Nat} (h : ∀ x, f x = if a ≤ x ∧ x < a + i then -1 else g x) (x : Nat) : upd f (a + i) (-1) x = if a ≤ x ∧ x < a + (i + 1) then -1 else g x := by
  by_cases q : x = a + i
  · rw [q, pk_us, if_pos (by omega)]
  · rw [pk_un q, h x]
    by_cases r : a ≤ x ∧ x < a + i
    · rw [if_pos r, if_pos (by omega)]
    · rw [if_neg r, if_neg (by omega)]
theorem zm_if0 {a : Nat} {g : Nat → Int32} (x : Nat) : g x = if a ≤ x ∧ x < a + 0 then -1 else g x := by rw [if_neg (by omega)]
abbrev rm_M_drop : Room := { frames := 1, cells := 0, slots := 0, locals := 24 }
set_option maxHeartbeats 4000000 in
set_option maxRecDepth 100000 in
/-- drop -/
theorem sp_M_drop (l : Launch) {h : zk_H} {V : Nat → zo_O} {S : zo_O} {us : Nat} {uk ut un : Nat → Nat} {ua : Nat → Int32} (hM : zm_at h S us) (hJ : zm_J V S us uk ut un ua) {x0 x1 : Int32} {K : Option Value → zk_H → Prop} (hK : ∀ (h' : zk_H) (S' : zo_O), zm_at h' S' us → zm_fr h h' → zm_J (zc_W (zc_dropC V x0 x1) V (zc_up V x0.toNatClampNeg (zc_rt (V x0.toNatClampNeg) x1.toNatClampNeg))) S' us uk ut un ua → K (some (.int (zc_R (zc_dropC V x0 x1)))) h') : zk_S l y_M_drop b_M_drop 5 (some .int) rm_M_drop [.ref (38 + 1), .int x0, .int x1] h K := by
  obtain ⟨hm, s0, s1, s2, s3, s4, s5, s6, s7, s8, s9, s10, s11⟩ := id hM
  obtain ⟨hR, hok, hex, hu, hus, hS9⟩ := id hJ
  refine zk_S_of R_M "drop" (by decide) rfl rfl [some (.ref (38 + 1)), some (.int x0), some (.int x1), none, none] 2 rfl (Nat.le_of_ble_eq_true rfl) (fun p e s m ar below meth c D dA b base C => ?_)
  refine zr_iload_n C d_M_drop_0 (n := 1) rfl rfl ?_
  refine zr_iconst C d_M_drop_1 (n := 2) rfl (v := nI 0) (by decide) ?_
  refine zr_iconst C d_M_drop_2 (n := 3) rfl (v := nI 1) (by decide) ?_
  refine zr_callS3 C k_M_47 d_M_drop_3 (nx := 6) rfl ⟨by decide, by decide⟩ (Nat.le_of_ble_eq_true rfl) ⟨by decide, by decide⟩ (sp_M_in l ?_)
  refine zr_if_eq C d_M_drop_6 (n := 9) rfl (t := 41) (by decide) (fun c1 => ?_) (fun c1 => ?_)
  · replace c1 := zk_bz c1
    rw [zc_in_1] at c1
    refine zr_iconst C d_M_drop_41 (n := 42) rfl (v := -1) (by decide) ?_
    have e9 : zc_dropC V x0 x1 = false := by simp [zc_dropC, zc_tt, c1]
    rw [e9] at hK
    exact zr_iret C d_M_drop_42 rfl (hK h S hM zm_fr_r hJ) (Nat.zero_le _) (Nat.zero_le _)
  · replace c1 := zk_bn c1
    rw [zc_in_1] at c1
    obtain ⟨v, hv, rfl, qv⟩ := zc_bl_n c1 (by first | decide | omega)
    refine zr_iload_n C d_M_drop_9 (n := 10) rfl rfl ?_
    refine zr_iconst C d_M_drop_10 (n := 11) rfl (v := nI 0) (by decide) ?_
    refine zr_iconst C d_M_drop_11 (n := 12) rfl (v := nI 5) (by decide) ?_
    refine zr_callS3 C k_M_47 d_M_drop_12 (nx := 15) rfl ⟨by decide, by decide⟩ (Nat.le_of_ble_eq_true rfl) ⟨by decide, by decide⟩ (sp_M_in l ?_)
    refine zr_if_eq C d_M_drop_15 (n := 18) rfl (t := 41) (by decide) (fun c2 => ?_) (fun c2 => ?_)
    · replace c2 := zk_bz c2
      rw [zc_in_5] at c2
      refine zr_iconst C d_M_drop_41 (n := 42) rfl (v := -1) (by decide) ?_
      have e9 : zc_dropC V (nI v) x1 = false := by simp [zc_dropC, zc_tt, c1, c2, qv]
      rw [e9] at hK
      exact zr_iret C d_M_drop_42 rfl (hK h S hM zm_fr_r hJ) (Nat.zero_le _) (Nat.zero_le _)
    · replace c2 := zk_bn c2
      rw [zc_in_5] at c2
      obtain ⟨t, ht, rfl, qt⟩ := zc_bl_n c2 (by first | decide | omega)
      refine zr_aload_n C d_M_drop_18 (n := 19) rfl rfl ?_
      refine zr_get C f_M_7 d_M_drop_19 (n := 22) rfl hm rfl ?_
      refine zr_bipush C d_M_drop_22 (n := 24) rfl (v := nI 6) (by decide) ?_
      refine zr_iload_n C d_M_drop_24 (n := 25) rfl rfl ?_
      refine zr_imul C d_M_drop_25 (n := 26) rfl ?_
      refine zr_toe (by simp only [pk_mul, nI_add]; rfl) ?_
      refine zr_iload_n C d_M_drop_26 (n := 27) rfl rfl ?_
      refine zr_iadd C d_M_drop_27 (n := 28) rfl ?_
      refine zr_toe (by simp only [pk_mul, nI_add]; rfl) ?_
      refine zr_zaldN C d_M_drop_28 (n := 29) rfl s0 rfl (by omega) (by decide) ?_
      refine zr_toe (y := zk_b (zo_th (V v) t)) ((hR v hv).1 t (by omega)).1 ?_
      refine zr_if_eq C d_M_drop_29 (n := 32) rfl (t := 41) (by decide) (fun c3 => ?_) (fun c3 => ?_)
      · replace c3 := zk_bz c3
        refine zr_iconst C d_M_drop_41 (n := 42) rfl (v := -1) (by decide) ?_
        have e9 : zc_dropC V (nI v) (nI t) = false := by simp [zc_dropC, zc_tt, c1, c2, c3, qv, qt]
        rw [e9] at hK
        exact zr_iret C d_M_drop_42 rfl (hK h S hM zm_fr_r hJ) (Nat.zero_le _) (Nat.zero_le _)
      · replace c3 := zk_bn c3
        refine zr_aload_n C d_M_drop_32 (n := 33) rfl rfl ?_
        refine zr_iload_n C d_M_drop_33 (n := 34) rfl rfl ?_
        refine zr_iload_n C d_M_drop_34 (n := 35) rfl rfl ?_
        refine zr_callV2 C k_M_55 d_M_drop_35 (nx := 38) rfl hm rfl ⟨by decide, by decide⟩ (Nat.le_of_ble_eq_true rfl) ⟨by decide, by decide⟩ (sp_M_named l hM hR hok hv ht ?_)
        refine zr_if_eq C d_M_drop_38 (n := 41) rfl (t := 43) (by decide) (fun c4 => ?_) (fun c4 => ?_)
        · replace c4 := zk_bz c4
          refine zr_bipush C d_M_drop_43 (n := 45) rfl (v := nI 6) (by decide) ?_
          refine zr_iload_n C d_M_drop_45 (n := 46) rfl rfl ?_
          refine zr_imul C d_M_drop_46 (n := 47) rfl ?_
          refine zr_toe (by simp only [pk_mul, nI_add]; rfl) ?_
          refine zr_iload_n C d_M_drop_47 (n := 48) rfl rfl ?_
          refine zr_iadd C d_M_drop_48 (n := 49) rfl ?_
          refine zr_toe (by simp only [pk_mul, nI_add]; rfl) ?_
          refine zr_istore_n C d_M_drop_49 (n := 50) rfl (by decide) rfl ?_
          refine zr_aload_n C d_M_drop_50 (n := 51) rfl rfl ?_
          refine zr_get C f_M_7 d_M_drop_51 (n := 54) rfl hm rfl ?_
          refine zr_iload_n C d_M_drop_54 (n := 55) rfl rfl ?_
          refine zr_iconst C d_M_drop_55 (n := 56) rfl (v := nI 0) (by decide) ?_
          refine zr_zastN C d_M_drop_56 (n := 57) rfl s0 rfl (by omega) (by decide) (by decide) ?_
          refine zr_iconst C d_M_drop_57 (n := 58) rfl (v := nI 4) (by decide) ?_
          refine zr_iload_n C d_M_drop_58 (n := 59) rfl rfl ?_
          refine zr_imul C d_M_drop_59 (n := 60) rfl ?_
          refine zr_toe (by simp only [pk_mul, nI_add]; rfl) ?_
          refine zr_istore C d_M_drop_60 (n := 62) rfl (by decide) rfl ?_
          have b0 := c1
          have b1 := c2
          have b2 := c3
          have b3 := c4
          have L2 : ∀ (n i : Nat) (h1 : zk_H) (S1 : zo_O), zm_at h1 S1 us → zm_fr h h1 → n + i = 12 → S1 0 = upd (S 0) (6 * v + t) (nI 0) → (∀ x, S1 4 x = if 4 * (6 * v + t) ≤ x ∧ x < 4 * (6 * v + t) + 4 then -1 else S 4 x) → (∀ x, S1 7 x = if 12 * (6 * v + t) ≤ x ∧ x < 12 * (6 * v + t) + i then -1 else S 7 x) → (∀ q, q < 10 → q ≠ 0 → q ≠ 4 → q ≠ 7 → S1 q = S q) → zk_V p l e rm_M_drop s m ar below meth c 5 D dA b base (MQ below (zk_Q K D dA b base) ar s rm_M_drop.cells rm_M_drop.slots (fun q : Nat => base ≤ q)) 0 0 92 [some (.ref (38 + 1)), some (.int (nI v)), some (.int (nI t)), some (.int (nI (6 * v + t))), some (.int (nI (12 * (6 * v + t) + i)))] [] h1 := by
            intro n
            induction n with
            | zero =>
              intro i h1 S1 hM1 fr1 hi f0 f4 f7 fx
              obtain ⟨hm, s0, s1, s2, s3, s4, s5, s6, s7, s8, s9, s10, s11⟩ := id hM1
              refine zr_iload C d_M_drop_92 (n := 94) rfl rfl ?_
              refine zr_bipush C d_M_drop_94 (n := 96) rfl (v := nI 12) (by decide) ?_
              refine zr_iload_n C d_M_drop_96 (n := 97) rfl rfl ?_
              refine zr_imul C d_M_drop_97 (n := 98) rfl ?_
              refine zr_toe (by simp only [pk_mul, nI_add]; rfl) ?_
              refine zr_bipush C d_M_drop_98 (n := 100) rfl (v := nI 12) (by decide) ?_
              refine zr_iadd C d_M_drop_100 (n := 101) rfl ?_
              refine zr_toe (by simp only [pk_mul, nI_add]; rfl) ?_
              refine zr_icmp_ge C d_M_drop_101 (n := 104) rfl (t := 118) (by decide) (fun c1 => ?_) (fun c1 => ?_)
              · refine zr_iconst C d_M_drop_118 (n := 119) rfl (v := nI 0) (by decide) ?_
                have e9 : zc_dropC V (nI v) (nI t) = true := by simp [zc_dropC, zc_tt, qv, qt, b0, b1, b2, b3]
                rw [e9, qv, qt] at hK
                exact zr_iret C d_M_drop_119 rfl (hK h1 S1 hM1 fr1 (zm_J_drop hJ hv ht b3 f0 f4 (fun x => by rw [f7 x, show i = 12 by omega]) fx)) (Nat.zero_le _) (Nat.zero_le _)
              · exact absurd (zk_nle (by omega) (by omega) c1) (by omega)
            | succ n ih =>
              intro i h1 S1 hM1 fr1 hi f0 f4 f7 fx
              obtain ⟨hm, s0, s1, s2, s3, s4, s5, s6, s7, s8, s9, s10, s11⟩ := id hM1
              refine zr_iload C d_M_drop_92 (n := 94) rfl rfl ?_
              refine zr_bipush C d_M_drop_94 (n := 96) rfl (v := nI 12) (by decide) ?_
              refine zr_iload_n C d_M_drop_96 (n := 97) rfl rfl ?_
              refine zr_imul C d_M_drop_97 (n := 98) rfl ?_
              refine zr_toe (by simp only [pk_mul, nI_add]; rfl) ?_
              refine zr_bipush C d_M_drop_98 (n := 100) rfl (v := nI 12) (by decide) ?_
              refine zr_iadd C d_M_drop_100 (n := 101) rfl ?_
              refine zr_toe (by simp only [pk_mul, nI_add]; rfl) ?_
              refine zr_icmp_ge C d_M_drop_101 (n := 104) rfl (t := 118) (by decide) (fun c1 => ?_) (fun c1 => ?_)
              · exact absurd (zk_le (by omega) (by omega) c1) (by omega)
              · refine zr_aload_n C d_M_drop_104 (n := 105) rfl rfl ?_
                refine zr_get C f_M_32 d_M_drop_105 (n := 108) rfl hm rfl ?_
                refine zr_iload C d_M_drop_108 (n := 110) rfl rfl ?_
                refine zr_iconst C d_M_drop_110 (n := 111) rfl (v := -1) (by decide) ?_
                refine zr_iastN C d_M_drop_111 (n := 112) rfl s7 rfl (by omega) (by decide) ?_
                refine zr_iinc C d_M_drop_112 (n := 115) rfl rfl (w := 1) (by decide) (nI_1 (12 * (6 * v + t) + i)) (by decide) rfl ?_
                refine zr_goto C d_M_drop_115 (t := 92) (by decide) ?_
                exact ih (i + 1) _ (zm_u S1 7 (upd (S1 7) (12 * (6 * v + t) + i) (-1))) (zm_at_7 hM1) (zm_fr_s (by omega) fr1) (by omega) ((zm_u_n (by omega)).trans f0) (fun x => by rw [zm_u_n (by omega)]; exact f4 x) (fun x => zm_if f7 x) (fun q h1 h2 h3 h4 => (zm_u_n (by omega)).trans (fx q h1 h2 h3 h4))
          have L1 : ∀ (n i : Nat) (h1 : zk_H) (S1 : zo_O), zm_at h1 S1 us → zm_fr h h1 → n + i = 4 → S1 0 = upd (S 0) (6 * v + t) (nI 0) → (∀ x, S1 4 x = if 4 * (6 * v + t) ≤ x ∧ x < 4 * (6 * v + t) + i then -1 else S 4 x) → S1 7 = S 7 → (∀ q, q < 10 → q ≠ 0 → q ≠ 4 → q ≠ 7 → S1 q = S q) → zk_V p l e rm_M_drop s m ar below meth c 5 D dA b base (MQ below (zk_Q K D dA b base) ar s rm_M_drop.cells rm_M_drop.slots (fun q : Nat => base ≤ q)) 0 0 62 [some (.ref (38 + 1)), some (.int (nI v)), some (.int (nI t)), some (.int (nI (6 * v + t))), some (.int (nI (4 * (6 * v + t) + i)))] [] h1 := by
            intro n
            induction n with
            | zero =>
              intro i h1 S1 hM1 fr1 hi f0 f4 f7 fx
              obtain ⟨hm, s0, s1, s2, s3, s4, s5, s6, s7, s8, s9, s10, s11⟩ := id hM1
              refine zr_iload C d_M_drop_62 (n := 64) rfl rfl ?_
              refine zr_iconst C d_M_drop_64 (n := 65) rfl (v := nI 4) (by decide) ?_
              refine zr_iload_n C d_M_drop_65 (n := 66) rfl rfl ?_
              refine zr_imul C d_M_drop_66 (n := 67) rfl ?_
              refine zr_toe (by simp only [pk_mul, nI_add]; rfl) ?_
              refine zr_iconst C d_M_drop_67 (n := 68) rfl (v := nI 4) (by decide) ?_
              refine zr_iadd C d_M_drop_68 (n := 69) rfl ?_
              refine zr_toe (by simp only [pk_mul, nI_add]; rfl) ?_
              refine zr_icmp_ge C d_M_drop_69 (n := 72) rfl (t := 86) (by decide) (fun c1 => ?_) (fun c1 => ?_)
              · refine zr_bipush C d_M_drop_86 (n := 88) rfl (v := nI 12) (by decide) ?_
                refine zr_iload_n C d_M_drop_88 (n := 89) rfl rfl ?_
                refine zr_imul C d_M_drop_89 (n := 90) rfl ?_
                refine zr_toe (by simp only [pk_mul, nI_add]; rfl) ?_
                refine zr_istore C d_M_drop_90 (n := 92) rfl (by decide) rfl ?_
                exact L2 12 0 h1 S1 hM1 fr1 rfl f0 (fun x => by rw [f4 x, show i = 4 by omega]) (fun x => by rw [f7]; exact zm_if0 x) fx
              · exact absurd (zk_nle (by omega) (by omega) c1) (by omega)
            | succ n ih =>
              intro i h1 S1 hM1 fr1 hi f0 f4 f7 fx
              obtain ⟨hm, s0, s1, s2, s3, s4, s5, s6, s7, s8, s9, s10, s11⟩ := id hM1
              refine zr_iload C d_M_drop_62 (n := 64) rfl rfl ?_
              refine zr_iconst C d_M_drop_64 (n := 65) rfl (v := nI 4) (by decide) ?_
              refine zr_iload_n C d_M_drop_65 (n := 66) rfl rfl ?_
              refine zr_imul C d_M_drop_66 (n := 67) rfl ?_
              refine zr_toe (by simp only [pk_mul, nI_add]; rfl) ?_
              refine zr_iconst C d_M_drop_67 (n := 68) rfl (v := nI 4) (by decide) ?_
              refine zr_iadd C d_M_drop_68 (n := 69) rfl ?_
              refine zr_toe (by simp only [pk_mul, nI_add]; rfl) ?_
              refine zr_icmp_ge C d_M_drop_69 (n := 72) rfl (t := 86) (by decide) (fun c1 => ?_) (fun c1 => ?_)
              · exact absurd (zk_le (by omega) (by omega) c1) (by omega)
              · refine zr_aload_n C d_M_drop_72 (n := 73) rfl rfl ?_
                refine zr_get C f_M_23 d_M_drop_73 (n := 76) rfl hm rfl ?_
                refine zr_iload C d_M_drop_76 (n := 78) rfl rfl ?_
                refine zr_iconst C d_M_drop_78 (n := 79) rfl (v := -1) (by decide) ?_
                refine zr_iastN C d_M_drop_79 (n := 80) rfl s4 rfl (by omega) (by decide) ?_
                refine zr_iinc C d_M_drop_80 (n := 83) rfl rfl (w := 1) (by decide) (nI_1 (4 * (6 * v + t) + i)) (by decide) rfl ?_
                refine zr_goto C d_M_drop_83 (t := 62) (by decide) ?_
                exact ih (i + 1) _ (zm_u S1 4 (upd (S1 4) (4 * (6 * v + t) + i) (-1))) (zm_at_4 hM1) (zm_fr_s (by omega) fr1) (by omega) ((zm_u_n (by omega)).trans f0) (fun x => zm_if f4 x) ((zm_u_n (by omega)).trans f7) (fun q h1 h2 h3 h4 => (zm_u_n (by omega)).trans (fx q h1 h2 h3 h4))
          exact L1 4 0 _ (zm_u S 0 (upd (S 0) (6 * v + t) (nI 0))) (zm_at_0 hM) (zm_fr_s (by omega) zm_fr_r) rfl rfl (fun x => by rw [zm_u_n (by omega)]; exact zm_if0 x) (zm_u_n (by omega)) (fun q h1 h2 h3 h4 => zm_u_n (by omega))
        · replace c4 := zk_bn c4
          refine zr_iconst C d_M_drop_41 (n := 42) rfl (v := -1) (by decide) ?_
          have e9 : zc_dropC V (nI v) (nI t) = false := by simp [zc_dropC, zc_tt, c1, c2, c3, c4, qv, qt]
          rw [e9] at hK
          exact zr_iret C d_M_drop_42 rfl (hK h S hM zm_fr_r hJ) (Nat.zero_le _) (Nat.zero_le _)
theorem zc_bl_5 {x : Int32} (h : zc_bl x (nI 5) = false) : ¬ x = nI 4 ∧ zc_bl x (nI 4) = false := by
  refine ⟨fun q => by rw [q] at h; exact absurd h (by decide), ?_⟩
  cases q : zc_bl x (nI 4) with
  | false => rfl
  | true =>
    obtain ⟨j, hj, e, -⟩ := zc_bl_n q (by decide)
    rw [e] at h
    rcases (show j = 0 ∨ j = 1 ∨ j = 2 ∨ j = 3 by omega) with rfl | rfl | rfl | rfl <;> exact absurd h (by decide)
theorem zc_tt_0 {V : Nat → zo_O} {x y : Int32} (h : zc_bl x (nI 2) = false) : zc_tt V x y = false := by rw [zc_tt, h]; rfl
theorem zc_tt_1 {V : Nat → zo_O} {x y : Int32} (h : zc_bl y (nI 6) = false) : zc_tt V x y = false := by rw [zc_tt, h, Bool.and_false]; rfl
theorem zk_nI4 {a : Nat} (ha : a < 4) : ¬ nI a = nI 4 := fun q => absurd (zk_eq (by omega) (by omega) q) (by omega)
theorem zk_bl4 {a : Nat} (ha : a < 4) : zc_bl (nI a) (nI 4) = true := by
  rcases (show a = 0 ∨ a = 1 ∨ a = 2 ∨ a = 3 by omega) with rfl | rfl | rfl | rfl <;> decide
abbrev rm_M_cut : Room := { frames := 1, cells := 0, slots := 0, locals := 22 }
set_option maxHeartbeats 4000000 in
set_option maxRecDepth 100000 in
/-- cut -/
theorem sp_M_cut (l : Launch) {h : zk_H} {V : Nat → zo_O} {S : zo_O} {us : Nat} {uk ut un : Nat → Nat} {ua : Nat → Int32} (hM : zm_at h S us) (hJ : zm_J V S us uk ut un ua) {x0 x1 x2 x3 : Int32} {K : Option Value → zk_H → Prop} (hK : ∀ (h' : zk_H) (S' : zo_O), zm_at h' S' us → zm_fr h h' → zm_J (zc_W (zc_cutF V x0 x1 x2 x3) (zc_W (zc_cutM V x0 x1 x2 x3) V (zc_up V x0.toNatClampNeg (zc_rm (V x0.toNatClampNeg) (x1.toNatClampNeg * 12 + x2.toNatClampNeg * 4 + x3.toNatClampNeg)))) (zc_up V x0.toNatClampNeg (zc_rf (V x0.toNatClampNeg) (x1.toNatClampNeg * 4 + x2.toNatClampNeg)))) S' us uk ut un ua → K (some (.int (zc_R (zc_cutF V x0 x1 x2 x3 || zc_cutM V x0 x1 x2 x3)))) h') : zk_S l y_M_cut b_M_cut 7 (some .int) rm_M_cut [.ref (38 + 1), .int x0, .int x1, .int x2, .int x3] h K := by
  obtain ⟨hm, s0, s1, s2, s3, s4, s5, s6, s7, s8, s9, s10, s11⟩ := id hM
  obtain ⟨hR, hok, hex, hu, hus, hS9⟩ := id hJ
  refine zk_S_of R_M "cut" (by decide) rfl rfl [some (.ref (38 + 1)), some (.int x0), some (.int x1), some (.int x2), some (.int x3), none, none] 2 rfl (Nat.le_of_ble_eq_true rfl) (fun p e s m ar below meth c D dA b base C => ?_)
  refine zr_iload_n C d_M_cut_0 (n := 1) rfl rfl ?_
  refine zr_iconst C d_M_cut_1 (n := 2) rfl (v := nI 0) (by decide) ?_
  refine zr_iconst C d_M_cut_2 (n := 3) rfl (v := nI 1) (by decide) ?_
  refine zr_callS3 C k_M_47 d_M_cut_3 (nx := 6) rfl ⟨by decide, by decide⟩ (Nat.le_of_ble_eq_true rfl) ⟨by decide, by decide⟩ (sp_M_in l ?_)
  refine zr_if_eq C d_M_cut_6 (n := 9) rfl (t := 47) (by decide) (fun c1 => ?_) (fun c1 => ?_)
  · replace c1 := zk_bz c1
    rw [zc_in_1] at c1
    refine zr_iconst C d_M_cut_47 (n := 48) rfl (v := -1) (by decide) ?_
    have e8 : zc_cutF V x0 x1 x2 x3 = false := by simp [zc_cutF, zc_tt_0 (V := V) c1]
    have e9 : zc_cutM V x0 x1 x2 x3 = false := by simp [zc_cutM, zc_tt_0 (V := V) c1]
    rw [e8, e9] at hK
    exact zr_iret C d_M_cut_48 rfl (hK h S hM zm_fr_r hJ) (Nat.zero_le _) (Nat.zero_le _)
  · replace c1 := zk_bn c1
    rw [zc_in_1] at c1
    obtain ⟨v, hv, rfl, qv⟩ := zc_bl_n c1 (by first | decide | omega)
    refine zr_iload_n C d_M_cut_9 (n := 10) rfl rfl ?_
    refine zr_iconst C d_M_cut_10 (n := 11) rfl (v := nI 0) (by decide) ?_
    refine zr_iconst C d_M_cut_11 (n := 12) rfl (v := nI 5) (by decide) ?_
    refine zr_callS3 C k_M_47 d_M_cut_12 (nx := 15) rfl ⟨by decide, by decide⟩ (Nat.le_of_ble_eq_true rfl) ⟨by decide, by decide⟩ (sp_M_in l ?_)
    refine zr_if_eq C d_M_cut_15 (n := 18) rfl (t := 47) (by decide) (fun c2 => ?_) (fun c2 => ?_)
    · replace c2 := zk_bz c2
      rw [zc_in_5] at c2
      refine zr_iconst C d_M_cut_47 (n := 48) rfl (v := -1) (by decide) ?_
      have e8 : zc_cutF V (nI v) x1 x2 x3 = false := by simp [zc_cutF, zc_tt_1 (V := V) c2]
      have e9 : zc_cutM V (nI v) x1 x2 x3 = false := by simp [zc_cutM, zc_tt_1 (V := V) c2]
      rw [e8, e9] at hK
      exact zr_iret C d_M_cut_48 rfl (hK h S hM zm_fr_r hJ) (Nat.zero_le _) (Nat.zero_le _)
    · replace c2 := zk_bn c2
      rw [zc_in_5] at c2
      obtain ⟨t, ht, rfl, qt⟩ := zc_bl_n c2 (by first | decide | omega)
      refine zr_iload C d_M_cut_18 (n := 20) rfl rfl ?_
      refine zr_iconst C d_M_cut_20 (n := 21) rfl (v := nI 0) (by decide) ?_
      refine zr_iconst C d_M_cut_21 (n := 22) rfl (v := nI 4) (by decide) ?_
      refine zr_callS3 C k_M_47 d_M_cut_22 (nx := 25) rfl ⟨by decide, by decide⟩ (Nat.le_of_ble_eq_true rfl) ⟨by decide, by decide⟩ (sp_M_in l ?_)
      refine zr_if_eq C d_M_cut_25 (n := 28) rfl (t := 47) (by decide) (fun c3 => ?_) (fun c3 => ?_)
      · replace c3 := zk_bz c3
        rw [zc_in_4] at c3
        refine zr_iconst C d_M_cut_47 (n := 48) rfl (v := -1) (by decide) ?_
        have e8 : zc_cutF V (nI v) (nI t) x2 x3 = false := by simp [zc_cutF, (zc_bl_5 c3).1]
        have e9 : zc_cutM V (nI v) (nI t) x2 x3 = false := by simp [zc_cutM, (zc_bl_5 c3).2]
        rw [e8, e9] at hK
        exact zr_iret C d_M_cut_48 rfl (hK h S hM zm_fr_r hJ) (Nat.zero_le _) (Nat.zero_le _)
      · replace c3 := zk_bn c3
        rw [zc_in_4] at c3
        obtain ⟨pa, hpa, rfl, qpa⟩ := zc_bl_n c3 (by first | decide | omega)
        have b0 := c1
        have b1 := c2
        by_cases q4 : pa = 4
        · subst q4
          refine zr_iload_n C d_M_cut_28 (n := 29) rfl rfl ?_
          refine zr_iconst C d_M_cut_29 (n := 30) rfl (v := nI 0) (by decide) ?_
          refine zr_iload C d_M_cut_30 (n := 32) rfl rfl ?_
          refine zr_iconst C d_M_cut_32 (n := 33) rfl (v := nI 4) (by decide) ?_
          refine zr_icmp_ne C d_M_cut_33 (n := 36) rfl (t := 40) (by decide) (fun c1 => ?_) (fun c1 => ?_)
          · exact absurd rfl c1
          · refine zr_iconst C d_M_cut_36 (n := 37) rfl (v := nI 3) (by decide) ?_
            refine zr_goto C d_M_cut_37 (t := 41) (by decide) ?_
            refine zr_callS3 C k_M_47 d_M_cut_41 (nx := 44) rfl ⟨by decide, by decide⟩ (Nat.le_of_ble_eq_true rfl) ⟨by decide, by decide⟩ (sp_M_in l ?_)
            refine zr_if_ne C d_M_cut_44 (n := 47) rfl (t := 49) (by decide) (fun c2 => ?_) (fun c2 => ?_)
            · replace c2 := zk_bn c2
              rw [zc_in_3] at c2
              obtain ⟨nm, hnm, rfl, qnm⟩ := zc_bl_n c2 (by first | decide | omega)
              refine zr_bipush C d_M_cut_49 (n := 51) rfl (v := nI 6) (by decide) ?_
              refine zr_iload_n C d_M_cut_51 (n := 52) rfl rfl ?_
              refine zr_imul C d_M_cut_52 (n := 53) rfl ?_
              refine zr_toe (by simp only [pk_mul, nI_add]; rfl) ?_
              refine zr_iload_n C d_M_cut_53 (n := 54) rfl rfl ?_
              refine zr_iadd C d_M_cut_54 (n := 55) rfl ?_
              refine zr_toe (by simp only [pk_mul, nI_add]; rfl) ?_
              refine zr_istore C d_M_cut_55 (n := 57) rfl (by decide) rfl ?_
              refine zr_iload C d_M_cut_57 (n := 59) rfl rfl ?_
              refine zr_iconst C d_M_cut_59 (n := 60) rfl (v := nI 4) (by decide) ?_
              refine zr_icmp_ne C d_M_cut_60 (n := 63) rfl (t := 85) (by decide) (fun c3 => ?_) (fun c3 => ?_)
              · exact absurd rfl c3
              · refine zr_aload_n C d_M_cut_63 (n := 64) rfl rfl ?_
                refine zr_get C f_M_23 d_M_cut_64 (n := 67) rfl hm rfl ?_
                refine zr_iconst C d_M_cut_67 (n := 68) rfl (v := nI 4) (by decide) ?_
                refine zr_iload C d_M_cut_68 (n := 70) rfl rfl ?_
                refine zr_imul C d_M_cut_70 (n := 71) rfl ?_
                refine zr_toe (by simp only [pk_mul, nI_add]; rfl) ?_
                refine zr_iload_n C d_M_cut_71 (n := 72) rfl rfl ?_
                refine zr_iadd C d_M_cut_72 (n := 73) rfl ?_
                refine zr_toe (by simp only [pk_mul, nI_add]; rfl) ?_
                refine zr_toe (y := nI (24 * v + (t * 4 + nm))) (congrArg nI (by omega)) ?_
                refine zr_ialdN C d_M_cut_73 (n := 74) rfl s4 rfl (by omega) (by decide) ?_
                refine zr_if_lt C d_M_cut_74 (n := 77) rfl (t := 81) (by decide) (fun c4 => ?_) (fun c4 => ?_)
                · replace c4 := (zm_kind hR hok hv (j := t * 4 + nm) (by omega)).1.mp c4
                  refine zr_iconst C d_M_cut_81 (n := 82) rfl (v := nI 0) (by decide) ?_
                  refine zr_goto C d_M_cut_82 (t := 112) (by decide) ?_
                  refine zr_istore C d_M_cut_112 (n := 114) rfl (by decide) rfl ?_
                  refine zr_iload C d_M_cut_114 (n := 116) rfl rfl ?_
                  refine zr_if_ne C d_M_cut_116 (n := 119) rfl (t := 121) (by decide) (fun c5 => ?_) (fun c5 => ?_)
                  · exact absurd rfl c5
                  · refine zr_iconst C d_M_cut_119 (n := 120) rfl (v := -1) (by decide) ?_
                    have e8 : zc_cutF V (nI v) (nI t) (nI nm) (nI 4) = false := by simp [zc_cutF, zo_fth, qv, qt, qnm, c4]
                    have e9 : zc_cutM V (nI v) (nI t) (nI nm) (nI 4) = false := by simp [zc_cutM]
                    rw [e8, e9] at hK
                    exact zr_iret C d_M_cut_120 rfl (hK h S hM zm_fr_r hJ) (Nat.zero_le _) (Nat.zero_le _)
                · replace c4 : ¬ V v 3 (t * 4 + nm) = -1 := fun q => c4 ((zm_kind hR hok hv (j := t * 4 + nm) (by omega)).1.mpr q)
                  refine zr_iconst C d_M_cut_77 (n := 78) rfl (v := nI 1) (by decide) ?_
                  refine zr_goto C d_M_cut_78 (t := 112) (by decide) ?_
                  refine zr_istore C d_M_cut_112 (n := 114) rfl (by decide) rfl ?_
                  refine zr_iload C d_M_cut_114 (n := 116) rfl rfl ?_
                  refine zr_if_ne C d_M_cut_116 (n := 119) rfl (t := 121) (by decide) (fun c6 => ?_) (fun c6 => ?_)
                  · refine zr_iload C d_M_cut_121 (n := 123) rfl rfl ?_
                    refine zr_iconst C d_M_cut_123 (n := 124) rfl (v := nI 4) (by decide) ?_
                    refine zr_icmp_ne C d_M_cut_124 (n := 127) rfl (t := 142) (by decide) (fun c7 => ?_) (fun c7 => ?_)
                    · exact absurd rfl c7
                    · refine zr_aload_n C d_M_cut_127 (n := 128) rfl rfl ?_
                      refine zr_get C f_M_23 d_M_cut_128 (n := 131) rfl hm rfl ?_
                      refine zr_iconst C d_M_cut_131 (n := 132) rfl (v := nI 4) (by decide) ?_
                      refine zr_iload C d_M_cut_132 (n := 134) rfl rfl ?_
                      refine zr_imul C d_M_cut_134 (n := 135) rfl ?_
                      refine zr_toe (by simp only [pk_mul, nI_add]; rfl) ?_
                      refine zr_iload_n C d_M_cut_135 (n := 136) rfl rfl ?_
                      refine zr_iadd C d_M_cut_136 (n := 137) rfl ?_
                      refine zr_toe (by simp only [pk_mul, nI_add]; rfl) ?_
                      refine zr_toe (y := nI (24 * v + (t * 4 + nm))) (congrArg nI (by omega)) ?_
                      refine zr_iconst C d_M_cut_137 (n := 138) rfl (v := -1) (by decide) ?_
                      refine zr_iastN C d_M_cut_138 (n := 139) rfl s4 rfl (by omega) (by decide) ?_
                      refine zr_goto C d_M_cut_139 (t := 160) (by decide) ?_
                      refine zr_iconst C d_M_cut_160 (n := 161) rfl (v := nI 0) (by decide) ?_
                      have hth : zo_th (V v) t = true := decide_eq_true (fun q => c4 (((hex v hv).2 t ht q).1 nm hnm))
                      have e8 : zc_cutF V (nI v) (nI t) (nI nm) (nI 4) = true := by simp [zc_cutF, zc_tt, zo_fth, qv, qt, qnm, hth, c2, c4, b0, b1]
                      rw [e8, qv, qt, qnm] at hK
                      exact zr_iret C d_M_cut_161 rfl (hK _ _ (zm_at_4 hM) (zm_fr_s (by omega) zm_fr_r) (zm_J_cutF hJ hv ht hnm rfl (fun i h1 h2 => zm_u_n (by omega)))) (Nat.zero_le _) (Nat.zero_le _)
                  · exact absurd c6 (by decide)
            · replace c2 := zk_bz c2
              rw [zc_in_3] at c2
              refine zr_iconst C d_M_cut_47 (n := 48) rfl (v := -1) (by decide) ?_
              have e8 : zc_cutF V (nI v) (nI t) x2 (nI 4) = false := by simp [zc_cutF, c2]
              have e9 : zc_cutM V (nI v) (nI t) x2 (nI 4) = false := by simp [zc_cutM]
              rw [e8, e9] at hK
              exact zr_iret C d_M_cut_48 rfl (hK h S hM zm_fr_r hJ) (Nat.zero_le _) (Nat.zero_le _)
        · replace hpa : pa < 4 := by omega
          refine zr_iload_n C d_M_cut_28 (n := 29) rfl rfl ?_
          refine zr_iconst C d_M_cut_29 (n := 30) rfl (v := nI 0) (by decide) ?_
          refine zr_iload C d_M_cut_30 (n := 32) rfl rfl ?_
          refine zr_iconst C d_M_cut_32 (n := 33) rfl (v := nI 4) (by decide) ?_
          refine zr_icmp_ne C d_M_cut_33 (n := 36) rfl (t := 40) (by decide) (fun c1 => ?_) (fun c1 => ?_)
          · refine zr_iconst C d_M_cut_40 (n := 41) rfl (v := nI 2) (by decide) ?_
            refine zr_callS3 C k_M_47 d_M_cut_41 (nx := 44) rfl ⟨by decide, by decide⟩ (Nat.le_of_ble_eq_true rfl) ⟨by decide, by decide⟩ (sp_M_in l ?_)
            refine zr_if_ne C d_M_cut_44 (n := 47) rfl (t := 49) (by decide) (fun c2 => ?_) (fun c2 => ?_)
            · replace c2 := zk_bn c2
              rw [zc_in_2] at c2
              obtain ⟨nm, hnm, rfl, qnm⟩ := zc_bl_n c2 (by first | decide | omega)
              refine zr_bipush C d_M_cut_49 (n := 51) rfl (v := nI 6) (by decide) ?_
              refine zr_iload_n C d_M_cut_51 (n := 52) rfl rfl ?_
              refine zr_imul C d_M_cut_52 (n := 53) rfl ?_
              refine zr_toe (by simp only [pk_mul, nI_add]; rfl) ?_
              refine zr_iload_n C d_M_cut_53 (n := 54) rfl rfl ?_
              refine zr_iadd C d_M_cut_54 (n := 55) rfl ?_
              refine zr_toe (by simp only [pk_mul, nI_add]; rfl) ?_
              refine zr_istore C d_M_cut_55 (n := 57) rfl (by decide) rfl ?_
              refine zr_iload C d_M_cut_57 (n := 59) rfl rfl ?_
              refine zr_iconst C d_M_cut_59 (n := 60) rfl (v := nI 4) (by decide) ?_
              refine zr_icmp_ne C d_M_cut_60 (n := 63) rfl (t := 85) (by decide) (fun c3 => ?_) (fun c3 => ?_)
              · refine zr_aload_n C d_M_cut_85 (n := 86) rfl rfl ?_
                refine zr_get C f_M_32 d_M_cut_86 (n := 89) rfl hm rfl ?_
                refine zr_bipush C d_M_cut_89 (n := 91) rfl (v := nI 12) (by decide) ?_
                refine zr_iload C d_M_cut_91 (n := 93) rfl rfl ?_
                refine zr_imul C d_M_cut_93 (n := 94) rfl ?_
                refine zr_toe (by simp only [pk_mul, nI_add]; rfl) ?_
                refine zr_iconst C d_M_cut_94 (n := 95) rfl (v := nI 4) (by decide) ?_
                refine zr_iload_n C d_M_cut_95 (n := 96) rfl rfl ?_
                refine zr_imul C d_M_cut_96 (n := 97) rfl ?_
                refine zr_toe (by simp only [pk_mul, nI_add]; rfl) ?_
                refine zr_iadd C d_M_cut_97 (n := 98) rfl ?_
                refine zr_toe (by simp only [pk_mul, nI_add]; rfl) ?_
                refine zr_iload C d_M_cut_98 (n := 100) rfl rfl ?_
                refine zr_iconst C d_M_cut_100 (n := 101) rfl (v := nI 4) (by decide) ?_
                refine zr_irem C d_M_cut_101 (n := 102) rfl (by decide) ?_
                refine zr_toe (y := nI (pa % 4)) (pk_rem (by omega) (by decide) (by decide)) ?_
                refine zr_iadd C d_M_cut_102 (n := 103) rfl ?_
                refine zr_toe (by simp only [pk_mul, nI_add]; rfl) ?_
                refine zr_toe (y := nI (72 * v + (t * 12 + (nm * 4 + pa)))) (congrArg nI (by omega)) ?_
                refine zr_ialdN C d_M_cut_103 (n := 104) rfl s7 rfl (by omega) (by decide) ?_
                refine zr_if_lt C d_M_cut_104 (n := 107) rfl (t := 111) (by decide) (fun c4 => ?_) (fun c4 => ?_)
                · replace c4 := (zm_ans hR hok hv (j := t * 12 + (nm * 4 + pa)) (by omega)).1.mp c4
                  rw [show t * 12 + (nm * 4 + pa) = t * 12 + nm * 4 + pa by omega] at c4
                  refine zr_iconst C d_M_cut_111 (n := 112) rfl (v := nI 0) (by decide) ?_
                  refine zr_istore C d_M_cut_112 (n := 114) rfl (by decide) rfl ?_
                  refine zr_iload C d_M_cut_114 (n := 116) rfl rfl ?_
                  refine zr_if_ne C d_M_cut_116 (n := 119) rfl (t := 121) (by decide) (fun c5 => ?_) (fun c5 => ?_)
                  · exact absurd rfl c5
                  · refine zr_iconst C d_M_cut_119 (n := 120) rfl (v := -1) (by decide) ?_
                    have e8 : zc_cutF V (nI v) (nI t) (nI nm) (nI pa) = false := by simp [zc_cutF, zk_nI4 hpa]
                    have e9 : zc_cutM V (nI v) (nI t) (nI nm) (nI pa) = false := by simp [zc_cutM, zo_mth, qv, qt, qnm, qpa, c4]
                    rw [e8, e9] at hK
                    exact zr_iret C d_M_cut_120 rfl (hK h S hM zm_fr_r hJ) (Nat.zero_le _) (Nat.zero_le _)
                · replace c4 : ¬ V v 6 (t * 12 + (nm * 4 + pa)) = -1 := fun q => c4 ((zm_ans hR hok hv (j := t * 12 + (nm * 4 + pa)) (by omega)).1.mpr q)
                  refine zr_iconst C d_M_cut_107 (n := 108) rfl (v := nI 1) (by decide) ?_
                  refine zr_goto C d_M_cut_108 (t := 112) (by decide) ?_
                  refine zr_istore C d_M_cut_112 (n := 114) rfl (by decide) rfl ?_
                  refine zr_iload C d_M_cut_114 (n := 116) rfl rfl ?_
                  refine zr_if_ne C d_M_cut_116 (n := 119) rfl (t := 121) (by decide) (fun c6 => ?_) (fun c6 => ?_)
                  · refine zr_iload C d_M_cut_121 (n := 123) rfl rfl ?_
                    refine zr_iconst C d_M_cut_123 (n := 124) rfl (v := nI 4) (by decide) ?_
                    refine zr_icmp_ne C d_M_cut_124 (n := 127) rfl (t := 142) (by decide) (fun c7 => ?_) (fun c7 => ?_)
                    · refine zr_aload_n C d_M_cut_142 (n := 143) rfl rfl ?_
                      refine zr_get C f_M_32 d_M_cut_143 (n := 146) rfl hm rfl ?_
                      refine zr_bipush C d_M_cut_146 (n := 148) rfl (v := nI 12) (by decide) ?_
                      refine zr_iload C d_M_cut_148 (n := 150) rfl rfl ?_
                      refine zr_imul C d_M_cut_150 (n := 151) rfl ?_
                      refine zr_toe (by simp only [pk_mul, nI_add]; rfl) ?_
                      refine zr_iconst C d_M_cut_151 (n := 152) rfl (v := nI 4) (by decide) ?_
                      refine zr_iload_n C d_M_cut_152 (n := 153) rfl rfl ?_
                      refine zr_imul C d_M_cut_153 (n := 154) rfl ?_
                      refine zr_toe (by simp only [pk_mul, nI_add]; rfl) ?_
                      refine zr_iadd C d_M_cut_154 (n := 155) rfl ?_
                      refine zr_toe (by simp only [pk_mul, nI_add]; rfl) ?_
                      refine zr_iload C d_M_cut_155 (n := 157) rfl rfl ?_
                      refine zr_iadd C d_M_cut_157 (n := 158) rfl ?_
                      refine zr_toe (by simp only [pk_mul, nI_add]; rfl) ?_
                      refine zr_toe (y := nI (72 * v + (t * 12 + (nm * 4 + pa)))) (congrArg nI (by omega)) ?_
                      refine zr_iconst C d_M_cut_158 (n := 159) rfl (v := -1) (by decide) ?_
                      refine zr_iastN C d_M_cut_159 (n := 160) rfl s7 rfl (by omega) (by decide) ?_
                      refine zr_iconst C d_M_cut_160 (n := 161) rfl (v := nI 0) (by decide) ?_
                      have hth : zo_th (V v) t = true := decide_eq_true (fun q => c4 (((hex v hv).2 t ht q).2 (nm * 4 + pa) (by omega)))
                      have e8 : zc_cutF V (nI v) (nI t) (nI nm) (nI pa) = false := by simp [zc_cutF, zk_nI4 hpa]
                      rw [show t * 12 + (nm * 4 + pa) = t * 12 + nm * 4 + pa by omega] at c4
                      have e9 : zc_cutM V (nI v) (nI t) (nI nm) (nI pa) = true := by simp [zc_cutM, zc_tt, zo_mth, qv, qt, qnm, qpa, hth, zk_nI4 hpa, zk_bl4 hpa, c2, c4, b0, b1]
                      rw [e8, e9, qv, qt, qnm, qpa, show t * 12 + nm * 4 + pa = t * 12 + (nm * 4 + pa) by omega] at hK
                      exact zr_iret C d_M_cut_161 rfl (hK _ _ (zm_at_7 hM) (zm_fr_s (by omega) zm_fr_r) (zm_J_cutM hJ hv ht (by omega) rfl (fun i h1 h2 => zm_u_n (by omega)))) (Nat.zero_le _) (Nat.zero_le _)
                    · exact absurd c7 (zk_nI4 (by omega))
                  · exact absurd c6 (by decide)
              · exact absurd c3 (zk_nI4 (by omega))
            · replace c2 := zk_bz c2
              rw [zc_in_2] at c2
              refine zr_iconst C d_M_cut_47 (n := 48) rfl (v := -1) (by decide) ?_
              have e8 : zc_cutF V (nI v) (nI t) x2 (nI pa) = false := by simp [zc_cutF, zk_nI4 hpa]
              have e9 : zc_cutM V (nI v) (nI t) x2 (nI pa) = false := by simp [zc_cutM, c2]
              rw [e8, e9] at hK
              exact zr_iret C d_M_cut_48 rfl (hK h S hM zm_fr_r hJ) (Nat.zero_le _) (Nat.zero_le _)
          · exact absurd c1 (zk_nI4 (by omega))
