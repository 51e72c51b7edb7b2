def zb_sf (B E : Nat → Int32) : Bool := decide (B 2 = E 2 ∧ B 3 = E 3 ∧ (if B 2 = 0 then B 5 = E 5 else B 4 = E 4))
def zb_sa (k : Nat) (B E : Nat → Int32) : Bool := match k with
  | 0 => zb_sf B E
  | 1 => zb_sf B E
  | 2 => decide (B 6 = E 6 ∧ B 7 = E 7 ∧ B 5 = E 5 ∧ B 1 = E 1)
  | 3 => decide (B 6 = E 6 ∧ B 7 = E 7 ∧ B 5 = E 5 ∧ B 1 = E 1)
  | 4 => true
  | 5 => decide (B 1 = E 1)
  | _ => decide (B 7 = E 7)
def zb_sv (O : zo_O) (t : Nat) (B : Nat → Int32) (r : Option Nat) : Bool := if zo_th O t = true then (match r with
  | none => false
  | some j => zb_nz (O 3 j) (nI 16) && decide (O 4 j = B 3 ∧ O 5 j = B 4)) else false
def zb_ff (O : zo_O) (k : Nat) (B : Nat → Int32) (r : Option Nat) : Int32 := match r with
  | none => -7
  | some j => if zb_nz (O 3 j) (nI 8) = true ∨ (k = 1 ∧ zb_nz (O 3 j) (nI 4) = true) then -8 else if zk_b (zb_nz (O 3 j) (nI 1)) = B 5 then nI 0 else -9
def zb_fc (O : zo_O) (t : Nat) (B : Nat → Int32) (r : Option Nat) : Int32 := if zk_b (zo_hf O t (nI 1)) = B 1 then (match r with
  | none => -7
  | some j => if zb_nz (O 6 j) (nI 8) = true then -8 else if zk_b (zb_nz (O 6 j) (nI 1)) = B 5 then (if nI (j / 12) = B 8 then nI 0 else nI 1) else -9) else -9
def zb_sb (O : zo_O) (t : Nat) (B : Nat → Int32) : Bool := zo_hf O t (nI 4) || decide (¬ zk_b (zo_hf O t (nI 1)) = B 1)
def zb_fo (O : zo_O) (t : Nat) (B : Nat → Int32) (r : Option Nat) : Int32 := if zb_sb O t B = true then -9 else match r with
  | none => nI 3
  | some j => if zb_nz (O 6 j) (nI 8) = true then nI 3 else if zb_nz (O 6 j) (nI 5) = true then -9 else if O 7 j = B 7 then nI 0 else nI 3
def zb_fw (O : zo_O) (k t nm ag pa : Nat) (B : Nat → Int32) : Int32 := if B 2 = 0 then (if zo_th O t = true then (if zo_hf O t (nI 8) = true then -8 else match k with
  | 0 => zb_ff O 0 B (zb_pl (zo_ff O nm (B 3) 6 t))
  | 1 => zb_ff O 1 B (zb_pl (zo_ff O nm (B 3) 6 t))
  | 2 => zb_fc O t B (zb_pl (zo_fm O t nm pa (B 7)))
  | 3 => zb_fc O t B (zb_pl (zo_fm O t nm pa (B 7)))
  | 4 => if zo_hf O t (nI 3) = true then -9 else nI 0
  | 5 => if zb_sb O t B = true then -9 else nI 0
  | _ => zb_fo O t B (zb_pl (zo_fm O t nm ag (-1)))) else -6) else if zb_sv O t B (zb_pl (zo_ff O nm (-1) 6 t)) = true then nI 0 else nI 2
abbrev rm_B_isSameField : Room := { frames := 0, cells := 0, slots := 0, locals := 0 }
set_option maxHeartbeats 4000000 in
set_option maxRecDepth 100000 in
/-- isSameField -/
theorem sp_B_isSameField (l : Launch) {h : zk_H} {i u : Nat} {B E : Nat → Int32} (hB : h[i]? = some (zb_c B)) (hE : h[u]? = some (zb_c E)) {K : Option Value → zk_H → Prop} (hK : K (some (.int (zk_b (zb_sf B E)))) h) : zk_S l y_B_isSameField b_B_isSameField 2 (some .boolean) rm_B_isSameField [.ref (i + 1), .ref (u + 1)] h K := by
  refine zk_S_of R_B "isSameField" (by decide) rfl rfl [some (.ref (i + 1)), some (.ref (u + 1))] 0 rfl (Nat.le_of_ble_eq_true rfl) (fun p e s m ar below meth c D dA b base C => ?_)
  refine zr_aload_n C d_B_isSameField_0 (n := 1) rfl rfl ?_
  refine zr_get C f_B_9 d_B_isSameField_1 (n := 4) rfl hB rfl ?_
  refine zr_aload_n C d_B_isSameField_4 (n := 5) rfl rfl ?_
  refine zr_get C f_B_9 d_B_isSameField_5 (n := 8) rfl hE rfl ?_
  refine zr_icmp_ne C d_B_isSameField_8 (n := 11) rfl (t := 22) (by decide) (fun c1 => ?_) (fun c1 => ?_)
  · refine zr_iconst C d_B_isSameField_22 (n := 23) rfl (v := nI 0) (by decide) ?_
    exact zr_zret C d_B_isSameField_23 (by first | (simp [zb_sf, zk_b, c1]; done) | simp_all [zb_sf, zk_b]) (by decide) hK (Nat.zero_le _) (Nat.zero_le _)
  · refine zr_aload_n C d_B_isSameField_11 (n := 12) rfl rfl ?_
    refine zr_get C f_B_72 d_B_isSameField_12 (n := 15) rfl hB rfl ?_
    refine zr_aload_n C d_B_isSameField_15 (n := 16) rfl rfl ?_
    refine zr_get C f_B_72 d_B_isSameField_16 (n := 19) rfl hE rfl ?_
    refine zr_icmp_eq C d_B_isSameField_19 (n := 22) rfl (t := 24) (by decide) (fun c2 => ?_) (fun c2 => ?_)
    · refine zr_aload_n C d_B_isSameField_24 (n := 25) rfl rfl ?_
      refine zr_get C f_B_9 d_B_isSameField_25 (n := 28) rfl hB rfl ?_
      refine zr_if_eq C d_B_isSameField_28 (n := 31) rfl (t := 50) (by decide) (fun c3 => ?_) (fun c3 => ?_)
      · refine zr_aload_n C d_B_isSameField_50 (n := 51) rfl rfl ?_
        refine zr_get C f_B_80 d_B_isSameField_51 (n := 54) rfl hB rfl ?_
        refine zr_aload_n C d_B_isSameField_54 (n := 55) rfl rfl ?_
        refine zr_get C f_B_80 d_B_isSameField_55 (n := 58) rfl hE rfl ?_
        refine zr_icmp_ne C d_B_isSameField_58 (n := 61) rfl (t := 65) (by decide) (fun c4 => ?_) (fun c4 => ?_)
        · refine zr_iconst C d_B_isSameField_65 (n := 66) rfl (v := nI 0) (by decide) ?_
          exact zr_zret C d_B_isSameField_66 (by first | (simp [zb_sf, zk_b, c1, c2, c3, c4]; done) | simp_all [zb_sf, zk_b]) (by decide) hK (Nat.zero_le _) (Nat.zero_le _)
        · refine zr_iconst C d_B_isSameField_61 (n := 62) rfl (v := nI 1) (by decide) ?_
          refine zr_goto C d_B_isSameField_62 (t := 66) (by decide) ?_
          exact zr_zret C d_B_isSameField_66 (by first | (simp [zb_sf, zk_b, c1, c2, c3, c4]; done) | simp_all [zb_sf, zk_b]) (by decide) hK (Nat.zero_le _) (Nat.zero_le _)
      · refine zr_aload_n C d_B_isSameField_31 (n := 32) rfl rfl ?_
        refine zr_get C f_B_77 d_B_isSameField_32 (n := 35) rfl hB rfl ?_
        refine zr_aload_n C d_B_isSameField_35 (n := 36) rfl rfl ?_
        refine zr_get C f_B_77 d_B_isSameField_36 (n := 39) rfl hE rfl ?_
        refine zr_icmp_ne C d_B_isSameField_39 (n := 42) rfl (t := 46) (by decide) (fun c5 => ?_) (fun c5 => ?_)
        · refine zr_iconst C d_B_isSameField_46 (n := 47) rfl (v := nI 0) (by decide) ?_
          refine zr_goto C d_B_isSameField_47 (t := 66) (by decide) ?_
          exact zr_zret C d_B_isSameField_66 (by first | (simp [zb_sf, zk_b, c1, c2, c3, c5]; done) | simp_all [zb_sf, zk_b]) (by decide) hK (Nat.zero_le _) (Nat.zero_le _)
        · refine zr_iconst C d_B_isSameField_42 (n := 43) rfl (v := nI 1) (by decide) ?_
          refine zr_goto C d_B_isSameField_43 (t := 66) (by decide) ?_
          exact zr_zret C d_B_isSameField_66 (by first | (simp [zb_sf, zk_b, c1, c2, c3, c5]; done) | simp_all [zb_sf, zk_b]) (by decide) hK (Nat.zero_le _) (Nat.zero_le _)
    · refine zr_iconst C d_B_isSameField_22 (n := 23) rfl (v := nI 0) (by decide) ?_
      exact zr_zret C d_B_isSameField_23 (by first | (simp [zb_sf, zk_b, c1, c2]; done) | simp_all [zb_sf, zk_b]) (by decide) hK (Nat.zero_le _) (Nat.zero_le _)
abbrev rm_B_isSameAs : Room := { frames := 1, cells := 0, slots := 0, locals := 21 }
set_option maxHeartbeats 4000000 in
set_option maxRecDepth 100000 in
/-- isSameAs -/
theorem sp_B_isSameAs (l : Launch) {h : zk_H} {i u : Nat} {B E : Nat → Int32} (hB : h[i]? = some (zb_c B)) (hE : h[u]? = some (zb_c E)) {k : Nat} (hk : k < 7) {K : Option Value → zk_H → Prop} (hK : K (some (.int (zk_b (zb_sa k B E)))) h) : zk_S l y_B_isSameAs b_B_isSameAs 3 (some .boolean) rm_B_isSameAs [.ref (i + 1), .ref (u + 1), .int (nI k)] h K := by
  refine zk_S_of R_B "isSameAs" (by decide) rfl rfl [some (.ref (i + 1)), some (.ref (u + 1)), some (.int (nI k))] 0 rfl (Nat.le_of_ble_eq_true rfl) (fun p e s m ar below meth c D dA b base C => ?_)
  refine zr_iload_n C d_B_isSameAs_0 (n := 1) rfl rfl ?_
  have hsw : k = 0 ∨ k = 1 ∨ k = 2 ∨ k = 3 ∨ k = 4 ∨ k = 5 ∨ k = 6 := by omega
  rcases hsw with rfl | rfl | rfl | rfl | rfl | rfl | rfl
  · refine zr_tableIn C d_B_isSameAs_1 (by decide) (by decide) (off := 43) (by decide) (t := 44) (by decide) ?_
    refine zr_aload_n C d_B_isSameAs_44 (n := 45) rfl rfl ?_
    refine zr_aload_n C d_B_isSameAs_45 (n := 46) rfl rfl ?_
    refine zr_callV1 C k_B_109 d_B_isSameAs_46 (nx := 49) rfl hB rfl ⟨by decide, by decide⟩ (Nat.le_of_ble_eq_true rfl) ⟨by decide, by decide⟩ (sp_B_isSameField l hB hE ?_)
    exact zr_zret C d_B_isSameAs_49 rfl (zk_nb _) hK (Nat.zero_le _) (Nat.zero_le _)
  · refine zr_tableIn C d_B_isSameAs_1 (by decide) (by decide) (off := 43) (by decide) (t := 44) (by decide) ?_
    refine zr_aload_n C d_B_isSameAs_44 (n := 45) rfl rfl ?_
    refine zr_aload_n C d_B_isSameAs_45 (n := 46) rfl rfl ?_
    refine zr_callV1 C k_B_109 d_B_isSameAs_46 (nx := 49) rfl hB rfl ⟨by decide, by decide⟩ (Nat.le_of_ble_eq_true rfl) ⟨by decide, by decide⟩ (sp_B_isSameField l hB hE ?_)
    exact zr_zret C d_B_isSameAs_49 rfl (zk_nb _) hK (Nat.zero_le _) (Nat.zero_le _)
  · refine zr_tableIn C d_B_isSameAs_1 (by decide) (by decide) (off := 49) (by decide) (t := 50) (by decide) ?_
    refine zr_aload_n C d_B_isSameAs_50 (n := 51) rfl rfl ?_
    refine zr_get C f_B_97 d_B_isSameAs_51 (n := 54) rfl hB rfl ?_
    refine zr_aload_n C d_B_isSameAs_54 (n := 55) rfl rfl ?_
    refine zr_get C f_B_97 d_B_isSameAs_55 (n := 58) rfl hE rfl ?_
    refine zr_icmp_ne C d_B_isSameAs_58 (n := 61) rfl (t := 98) (by decide) (fun c1 => ?_) (fun c1 => ?_)
    · refine zr_iconst C d_B_isSameAs_98 (n := 99) rfl (v := nI 0) (by decide) ?_
      exact zr_zret C d_B_isSameAs_99 (by simp [zb_sa, zk_b, c1]) (by decide) hK (Nat.zero_le _) (Nat.zero_le _)
    · refine zr_aload_n C d_B_isSameAs_61 (n := 62) rfl rfl ?_
      refine zr_get C f_B_103 d_B_isSameAs_62 (n := 65) rfl hB rfl ?_
      refine zr_aload_n C d_B_isSameAs_65 (n := 66) rfl rfl ?_
      refine zr_get C f_B_103 d_B_isSameAs_66 (n := 69) rfl hE rfl ?_
      refine zr_icmp_ne C d_B_isSameAs_69 (n := 72) rfl (t := 98) (by decide) (fun c2 => ?_) (fun c2 => ?_)
      · refine zr_iconst C d_B_isSameAs_98 (n := 99) rfl (v := nI 0) (by decide) ?_
        exact zr_zret C d_B_isSameAs_99 (by simp [zb_sa, zk_b, c1, c2]) (by decide) hK (Nat.zero_le _) (Nat.zero_le _)
      · refine zr_aload_n C d_B_isSameAs_72 (n := 73) rfl rfl ?_
        refine zr_get C f_B_80 d_B_isSameAs_73 (n := 76) rfl hB rfl ?_
        refine zr_aload_n C d_B_isSameAs_76 (n := 77) rfl rfl ?_
        refine zr_get C f_B_80 d_B_isSameAs_77 (n := 80) rfl hE rfl ?_
        refine zr_icmp_ne C d_B_isSameAs_80 (n := 83) rfl (t := 98) (by decide) (fun c3 => ?_) (fun c3 => ?_)
        · refine zr_iconst C d_B_isSameAs_98 (n := 99) rfl (v := nI 0) (by decide) ?_
          exact zr_zret C d_B_isSameAs_99 (by simp [zb_sa, zk_b, c1, c2, c3]) (by decide) hK (Nat.zero_le _) (Nat.zero_le _)
        · refine zr_aload_n C d_B_isSameAs_83 (n := 84) rfl rfl ?_
          refine zr_get C f_B_27 d_B_isSameAs_84 (n := 87) rfl hB rfl ?_
          refine zr_aload_n C d_B_isSameAs_87 (n := 88) rfl rfl ?_
          refine zr_get C f_B_27 d_B_isSameAs_88 (n := 91) rfl hE rfl ?_
          refine zr_icmp_ne C d_B_isSameAs_91 (n := 94) rfl (t := 98) (by decide) (fun c4 => ?_) (fun c4 => ?_)
          · refine zr_iconst C d_B_isSameAs_98 (n := 99) rfl (v := nI 0) (by decide) ?_
            exact zr_zret C d_B_isSameAs_99 (by simp [zb_sa, zk_b, c1, c2, c3, c4]) (by decide) hK (Nat.zero_le _) (Nat.zero_le _)
          · refine zr_iconst C d_B_isSameAs_94 (n := 95) rfl (v := nI 1) (by decide) ?_
            refine zr_goto C d_B_isSameAs_95 (t := 99) (by decide) ?_
            exact zr_zret C d_B_isSameAs_99 (by simp [zb_sa, zk_b, c1, c2, c3, c4]) (by decide) hK (Nat.zero_le _) (Nat.zero_le _)
  · refine zr_tableIn C d_B_isSameAs_1 (by decide) (by decide) (off := 49) (by decide) (t := 50) (by decide) ?_
    refine zr_aload_n C d_B_isSameAs_50 (n := 51) rfl rfl ?_
    refine zr_get C f_B_97 d_B_isSameAs_51 (n := 54) rfl hB rfl ?_
    refine zr_aload_n C d_B_isSameAs_54 (n := 55) rfl rfl ?_
    refine zr_get C f_B_97 d_B_isSameAs_55 (n := 58) rfl hE rfl ?_
    refine zr_icmp_ne C d_B_isSameAs_58 (n := 61) rfl (t := 98) (by decide) (fun c5 => ?_) (fun c5 => ?_)
    · refine zr_iconst C d_B_isSameAs_98 (n := 99) rfl (v := nI 0) (by decide) ?_
      exact zr_zret C d_B_isSameAs_99 (by simp [zb_sa, zk_b, c5]) (by decide) hK (Nat.zero_le _) (Nat.zero_le _)
    · refine zr_aload_n C d_B_isSameAs_61 (n := 62) rfl rfl ?_
      refine zr_get C f_B_103 d_B_isSameAs_62 (n := 65) rfl hB rfl ?_
      refine zr_aload_n C d_B_isSameAs_65 (n := 66) rfl rfl ?_
      refine zr_get C f_B_103 d_B_isSameAs_66 (n := 69) rfl hE rfl ?_
      refine zr_icmp_ne C d_B_isSameAs_69 (n := 72) rfl (t := 98) (by decide) (fun c6 => ?_) (fun c6 => ?_)
      · refine zr_iconst C d_B_isSameAs_98 (n := 99) rfl (v := nI 0) (by decide) ?_
        exact zr_zret C d_B_isSameAs_99 (by simp [zb_sa, zk_b, c5, c6]) (by decide) hK (Nat.zero_le _) (Nat.zero_le _)
      · refine zr_aload_n C d_B_isSameAs_72 (n := 73) rfl rfl ?_
        refine zr_get C f_B_80 d_B_isSameAs_73 (n := 76) rfl hB rfl ?_
        refine zr_aload_n C d_B_isSameAs_76 (n := 77) rfl rfl ?_
        refine zr_get C f_B_80 d_B_isSameAs_77 (n := 80) rfl hE rfl ?_
        refine zr_icmp_ne C d_B_isSameAs_80 (n := 83) rfl (t := 98) (by decide) (fun c7 => ?_) (fun c7 => ?_)
        · refine zr_iconst C d_B_isSameAs_98 (n := 99) rfl (v := nI 0) (by decide) ?_
          exact zr_zret C d_B_isSameAs_99 (by simp [zb_sa, zk_b, c5, c6, c7]) (by decide) hK (Nat.zero_le _) (Nat.zero_le _)
        · refine zr_aload_n C d_B_isSameAs_83 (n := 84) rfl rfl ?_
          refine zr_get C f_B_27 d_B_isSameAs_84 (n := 87) rfl hB rfl ?_
          refine zr_aload_n C d_B_isSameAs_87 (n := 88) rfl rfl ?_
          refine zr_get C f_B_27 d_B_isSameAs_88 (n := 91) rfl hE rfl ?_
          refine zr_icmp_ne C d_B_isSameAs_91 (n := 94) rfl (t := 98) (by decide) (fun c8 => ?_) (fun c8 => ?_)
          · refine zr_iconst C d_B_isSameAs_98 (n := 99) rfl (v := nI 0) (by decide) ?_
            exact zr_zret C d_B_isSameAs_99 (by simp [zb_sa, zk_b, c5, c6, c7, c8]) (by decide) hK (Nat.zero_le _) (Nat.zero_le _)
          · refine zr_iconst C d_B_isSameAs_94 (n := 95) rfl (v := nI 1) (by decide) ?_
            refine zr_goto C d_B_isSameAs_95 (t := 99) (by decide) ?_
            exact zr_zret C d_B_isSameAs_99 (by simp [zb_sa, zk_b, c5, c6, c7, c8]) (by decide) hK (Nat.zero_le _) (Nat.zero_le _)
  · refine zr_tableIn C d_B_isSameAs_1 (by decide) (by decide) (off := 133) (by decide) (t := 134) (by decide) ?_
    refine zr_iconst C d_B_isSameAs_134 (n := 135) rfl (v := nI 1) (by decide) ?_
    exact zr_zret C d_B_isSameAs_135 (by simp [zb_sa, zk_b]) (by decide) hK (Nat.zero_le _) (Nat.zero_le _)
  · refine zr_tableIn C d_B_isSameAs_1 (by decide) (by decide) (off := 99) (by decide) (t := 100) (by decide) ?_
    refine zr_aload_n C d_B_isSameAs_100 (n := 101) rfl rfl ?_
    refine zr_get C f_B_27 d_B_isSameAs_101 (n := 104) rfl hB rfl ?_
    refine zr_aload_n C d_B_isSameAs_104 (n := 105) rfl rfl ?_
    refine zr_get C f_B_27 d_B_isSameAs_105 (n := 108) rfl hE rfl ?_
    refine zr_icmp_ne C d_B_isSameAs_108 (n := 111) rfl (t := 115) (by decide) (fun c9 => ?_) (fun c9 => ?_)
    · refine zr_iconst C d_B_isSameAs_115 (n := 116) rfl (v := nI 0) (by decide) ?_
      exact zr_zret C d_B_isSameAs_116 (by simp [zb_sa, zk_b, c9]) (by decide) hK (Nat.zero_le _) (Nat.zero_le _)
    · refine zr_iconst C d_B_isSameAs_111 (n := 112) rfl (v := nI 1) (by decide) ?_
      refine zr_goto C d_B_isSameAs_112 (t := 116) (by decide) ?_
      exact zr_zret C d_B_isSameAs_116 (by simp [zb_sa, zk_b, c9]) (by decide) hK (Nat.zero_le _) (Nat.zero_le _)
  · refine zr_tableIn C d_B_isSameAs_1 (by decide) (by decide) (off := 116) (by decide) (t := 117) (by decide) ?_
    refine zr_aload_n C d_B_isSameAs_117 (n := 118) rfl rfl ?_
    refine zr_get C f_B_103 d_B_isSameAs_118 (n := 121) rfl hB rfl ?_
    refine zr_aload_n C d_B_isSameAs_121 (n := 122) rfl rfl ?_
    refine zr_get C f_B_103 d_B_isSameAs_122 (n := 125) rfl hE rfl ?_
    refine zr_icmp_ne C d_B_isSameAs_125 (n := 128) rfl (t := 132) (by decide) (fun c10 => ?_) (fun c10 => ?_)
    · refine zr_iconst C d_B_isSameAs_132 (n := 133) rfl (v := nI 0) (by decide) ?_
      exact zr_zret C d_B_isSameAs_133 (by simp [zb_sa, zk_b, c10]) (by decide) hK (Nat.zero_le _) (Nat.zero_le _)
    · refine zr_iconst C d_B_isSameAs_128 (n := 129) rfl (v := nI 1) (by decide) ?_
      refine zr_goto C d_B_isSameAs_129 (t := 133) (by decide) ?_
      exact zr_zret C d_B_isSameAs_133 (by simp [zb_sa, zk_b, c10]) (by decide) hK (Nat.zero_le _) (Nat.zero_le _)
abbrev rm_B_isStillValue : Room := { frames := 9, cells := 0, slots := 0, locals := 242 }
set_option maxHeartbeats 4000000 in
set_option maxRecDepth 100000 in
/-- isStillValue -/
theorem sp_B_isStillValue (l : Launch) {h : zk_H} {i u o : Nat} {B : Nat → Int32} {k t nm : Nat} {a : Int32} {O : zo_O} (hB : h[i]? = some (zb_c B)) (hU : h[u]? = some (zu_c k t nm a)) (hO : zo_at h o O) (hw : zo_wf O) (ht : t < 6) (hnm : nm < 4) {K : Option Value → zk_H → Prop} (hK : K (some (.int (zk_b (zb_sv O t B (zb_pl (zo_ff O nm (-1) 6 t)))))) h) : zk_S l y_B_isStillValue b_B_isStillValue 4 (some .boolean) rm_B_isStillValue [.ref (i + 1), .ref (u + 1), .ref (o + 1)] h K := by
  obtain ⟨ho, a0, a1, a2, a3, a4, a5, a6, a7⟩ := id hO
  refine zk_S_of R_B "isStillValue" (by decide) rfl rfl [some (.ref (i + 1)), some (.ref (u + 1)), some (.ref (o + 1)), none] 1 rfl (Nat.le_of_ble_eq_true rfl) (fun p e s m ar below meth c D dA b base C => ?_)
  rcases zo_ff_pl hw hnm (kd := -1) 6 t ht with e | ⟨j, hj, e⟩
  · refine zr_aload_n C d_B_isStillValue_0 (n := 1) rfl rfl ?_
    refine zr_aload_n C d_B_isStillValue_1 (n := 2) rfl rfl ?_
    refine zr_getN C f_B_15 d_B_isStillValue_2 (n := 5) rfl hU rfl ?_
    refine zr_callV1 C k_B_30 d_B_isStillValue_5 (nx := 8) rfl ho rfl ⟨by decide, by decide⟩ (Nat.le_of_ble_eq_true rfl) ⟨by decide, by decide⟩ (sp_O_isThere l hO ht ?_)
    refine zr_if_ne C d_B_isStillValue_8 (n := 11) rfl (t := 13) (by decide) (fun c1 => ?_) (fun c1 => ?_)
    · replace c1 := zk_bn c1
      refine zr_aload_n C d_B_isStillValue_13 (n := 14) rfl rfl ?_
      refine zr_aload_n C d_B_isStillValue_14 (n := 15) rfl rfl ?_
      refine zr_getN C f_B_15 d_B_isStillValue_15 (n := 18) rfl hU rfl ?_
      refine zr_aload_n C d_B_isStillValue_18 (n := 19) rfl rfl ?_
      refine zr_getN C f_B_58 d_B_isStillValue_19 (n := 22) rfl hU rfl ?_
      refine zr_iconst C d_B_isStillValue_22 (n := 23) rfl (v := -1) (by decide) ?_
      refine zr_callV3 C k_B_61 d_B_isStillValue_23 (nx := 26) rfl ho rfl ⟨by decide, by decide⟩ (Nat.le_of_ble_eq_true rfl) ⟨by decide, by decide⟩ (sp_O_findField l hO hw ht hnm ?_)
      refine zr_toe (y := -1) e ?_
      refine zr_istore_n C d_B_isStillValue_26 (n := 27) rfl (by decide) rfl ?_
      refine zr_iload_n C d_B_isStillValue_27 (n := 28) rfl rfl ?_
      refine zr_iconst C d_B_isStillValue_28 (n := 29) rfl (v := -1) (by decide) ?_
      refine zr_icmp_eq C d_B_isStillValue_29 (n := 32) rfl (t := 44) (by decide) (fun c2 => ?_) (fun c2 => ?_)
      · refine zr_iconst C d_B_isStillValue_44 (n := 45) rfl (v := nI 0) (by decide) ?_
        exact zr_zret C d_B_isStillValue_45 (by simp [zb_sv, zk_b, e, zb_pl_n, c1, c2]) (by decide) hK (Nat.zero_le _) (Nat.zero_le _)
      · exact absurd rfl c2
    · replace c1 := zk_bz c1
      refine zr_iconst C d_B_isStillValue_11 (n := 12) rfl (v := nI 0) (by decide) ?_
      exact zr_zret C d_B_isStillValue_12 (by simp [zb_sv, zk_b, e, zb_pl_n, c1]) (by decide) hK (Nat.zero_le _) (Nat.zero_le _)
  · refine zr_aload_n C d_B_isStillValue_0 (n := 1) rfl rfl ?_
    refine zr_aload_n C d_B_isStillValue_1 (n := 2) rfl rfl ?_
    refine zr_getN C f_B_15 d_B_isStillValue_2 (n := 5) rfl hU rfl ?_
    refine zr_callV1 C k_B_30 d_B_isStillValue_5 (nx := 8) rfl ho rfl ⟨by decide, by decide⟩ (Nat.le_of_ble_eq_true rfl) ⟨by decide, by decide⟩ (sp_O_isThere l hO ht ?_)
    refine zr_if_ne C d_B_isStillValue_8 (n := 11) rfl (t := 13) (by decide) (fun c1 => ?_) (fun c1 => ?_)
    · replace c1 := zk_bn c1
      refine zr_aload_n C d_B_isStillValue_13 (n := 14) rfl rfl ?_
      refine zr_aload_n C d_B_isStillValue_14 (n := 15) rfl rfl ?_
      refine zr_getN C f_B_15 d_B_isStillValue_15 (n := 18) rfl hU rfl ?_
      refine zr_aload_n C d_B_isStillValue_18 (n := 19) rfl rfl ?_
      refine zr_getN C f_B_58 d_B_isStillValue_19 (n := 22) rfl hU rfl ?_
      refine zr_iconst C d_B_isStillValue_22 (n := 23) rfl (v := -1) (by decide) ?_
      refine zr_callV3 C k_B_61 d_B_isStillValue_23 (nx := 26) rfl ho rfl ⟨by decide, by decide⟩ (Nat.le_of_ble_eq_true rfl) ⟨by decide, by decide⟩ (sp_O_findField l hO hw ht hnm ?_)
      refine zr_toe (y := nI j) e ?_
      refine zr_istore_n C d_B_isStillValue_26 (n := 27) rfl (by decide) rfl ?_
      refine zr_iload_n C d_B_isStillValue_27 (n := 28) rfl rfl ?_
      refine zr_iconst C d_B_isStillValue_28 (n := 29) rfl (v := -1) (by decide) ?_
      refine zr_icmp_eq C d_B_isStillValue_29 (n := 32) rfl (t := 44) (by decide) (fun c2 => ?_) (fun c2 => ?_)
      · exact absurd c2 (zk_nm1 (by omega))
      · refine zr_aload_n C d_B_isStillValue_32 (n := 33) rfl rfl ?_
        refine zr_getN C f_B_65 d_B_isStillValue_33 (n := 36) rfl ho rfl ?_
        refine zr_iload_n C d_B_isStillValue_36 (n := 37) rfl rfl ?_
        refine zr_ialdN C d_B_isStillValue_37 (n := 38) rfl a3 rfl (by omega) (by decide) ?_
        refine zr_bipush C d_B_isStillValue_38 (n := 40) rfl (v := nI 16) (by decide) ?_
        refine zr_iand C d_B_isStillValue_40 (n := 41) rfl ?_
        refine zr_if_ne C d_B_isStillValue_41 (n := 44) rfl (t := 46) (by decide) (fun c3 => ?_) (fun c3 => ?_)
        · replace c3 := zb_nzt c3
          refine zr_aload_n C d_B_isStillValue_46 (n := 47) rfl rfl ?_
          refine zr_getN C f_B_69 d_B_isStillValue_47 (n := 50) rfl ho rfl ?_
          refine zr_iload_n C d_B_isStillValue_50 (n := 51) rfl rfl ?_
          refine zr_ialdN C d_B_isStillValue_51 (n := 52) rfl a4 rfl (by omega) (by decide) ?_
          refine zr_aload_n C d_B_isStillValue_52 (n := 53) rfl rfl ?_
          refine zr_get C f_B_72 d_B_isStillValue_53 (n := 56) rfl hB rfl ?_
          refine zr_icmp_ne C d_B_isStillValue_56 (n := 59) rfl (t := 76) (by decide) (fun c4 => ?_) (fun c4 => ?_)
          · refine zr_iconst C d_B_isStillValue_76 (n := 77) rfl (v := nI 0) (by decide) ?_
            exact zr_zret C d_B_isStillValue_77 (by simp [zb_sv, zk_b, e, zb_pl_s (show j < 2147483648 by omega), c1, c2, c3, c4]) (by decide) hK (Nat.zero_le _) (Nat.zero_le _)
          · refine zr_aload_n C d_B_isStillValue_59 (n := 60) rfl rfl ?_
            refine zr_getN C f_B_74 d_B_isStillValue_60 (n := 63) rfl ho rfl ?_
            refine zr_iload_n C d_B_isStillValue_63 (n := 64) rfl rfl ?_
            refine zr_ialdN C d_B_isStillValue_64 (n := 65) rfl a5 rfl (by omega) (by decide) ?_
            refine zr_aload_n C d_B_isStillValue_65 (n := 66) rfl rfl ?_
            refine zr_get C f_B_77 d_B_isStillValue_66 (n := 69) rfl hB rfl ?_
            refine zr_icmp_ne C d_B_isStillValue_69 (n := 72) rfl (t := 76) (by decide) (fun c5 => ?_) (fun c5 => ?_)
            · refine zr_iconst C d_B_isStillValue_76 (n := 77) rfl (v := nI 0) (by decide) ?_
              exact zr_zret C d_B_isStillValue_77 (by simp [zb_sv, zk_b, e, zb_pl_s (show j < 2147483648 by omega), c1, c2, c3, c4, c5]) (by decide) hK (Nat.zero_le _) (Nat.zero_le _)
            · refine zr_iconst C d_B_isStillValue_72 (n := 73) rfl (v := nI 1) (by decide) ?_
              refine zr_goto C d_B_isStillValue_73 (t := 77) (by decide) ?_
              exact zr_zret C d_B_isStillValue_77 (by simp [zb_sv, zk_b, e, zb_pl_s (show j < 2147483648 by omega), c1, c2, c3, c4, c5]) (by decide) hK (Nat.zero_le _) (Nat.zero_le _)
        · replace c3 := zb_nzf c3
          refine zr_iconst C d_B_isStillValue_44 (n := 45) rfl (v := nI 0) (by decide) ?_
          exact zr_zret C d_B_isStillValue_45 (by simp [zb_sv, zk_b, e, zb_pl_s (show j < 2147483648 by omega), c1, c2, c3]) (by decide) hK (Nat.zero_le _) (Nat.zero_le _)
    · replace c1 := zk_bz c1
      refine zr_iconst C d_B_isStillValue_11 (n := 12) rfl (v := nI 0) (by decide) ?_
      exact zr_zret C d_B_isStillValue_12 (by simp [zb_sv, zk_b, e, zb_pl_s (show j < 2147483648 by omega), c1]) (by decide) hK (Nat.zero_le _) (Nat.zero_le _)
abbrev rm_B_fateOfField : Room := { frames := 9, cells := 0, slots := 0, locals := 242 }
set_option maxHeartbeats 4000000 in
set_option maxRecDepth 100000 in
/-- fateOfField -/
theorem sp_B_fateOfField (l : Launch) {h : zk_H} {i u o : Nat} {B : Nat → Int32} {k t nm : Nat} {a : Int32} {O : zo_O} (hB : h[i]? = some (zb_c B)) (hU : h[u]? = some (zu_c k t nm a)) (hO : zo_at h o O) (hw : zo_wf O) (ht : t < 6) (hk : k < 7) (hnm : nm < 4) {K : Option Value → zk_H → Prop} (hK : K (some (.int (zb_ff O k B (zb_pl (zo_ff O nm (B 3) 6 t))))) h) : zk_S l y_B_fateOfField b_B_fateOfField 5 (some .int) rm_B_fateOfField [.ref (i + 1), .ref (u + 1), .ref (o + 1)] h K := by
  obtain ⟨ho, a0, a1, a2, a3, a4, a5, a6, a7⟩ := id hO
  refine zk_S_of R_B "fateOfField" (by decide) rfl rfl [some (.ref (i + 1)), some (.ref (u + 1)), some (.ref (o + 1)), none, none] 2 rfl (Nat.le_of_ble_eq_true rfl) (fun p e s m ar below meth c D dA b base C => ?_)
  rcases zo_ff_pl hw hnm (kd := B 3) 6 t ht with e | ⟨j, hj, e⟩
  · refine zr_aload_n C d_B_fateOfField_0 (n := 1) rfl rfl ?_
    refine zr_aload_n C d_B_fateOfField_1 (n := 2) rfl rfl ?_
    refine zr_getN C f_B_15 d_B_fateOfField_2 (n := 5) rfl hU rfl ?_
    refine zr_aload_n C d_B_fateOfField_5 (n := 6) rfl rfl ?_
    refine zr_getN C f_B_58 d_B_fateOfField_6 (n := 9) rfl hU rfl ?_
    refine zr_aload_n C d_B_fateOfField_9 (n := 10) rfl rfl ?_
    refine zr_get C f_B_72 d_B_fateOfField_10 (n := 13) rfl hB rfl ?_
    refine zr_callV3 C k_B_61 d_B_fateOfField_13 (nx := 16) rfl ho rfl ⟨by decide, by decide⟩ (Nat.le_of_ble_eq_true rfl) ⟨by decide, by decide⟩ (sp_O_findField l hO hw ht hnm ?_)
    refine zr_toe (y := -1) e ?_
    refine zr_istore_n C d_B_fateOfField_16 (n := 17) rfl (by decide) rfl ?_
    refine zr_iload_n C d_B_fateOfField_17 (n := 18) rfl rfl ?_
    refine zr_iconst C d_B_fateOfField_18 (n := 19) rfl (v := -1) (by decide) ?_
    refine zr_icmp_ne C d_B_fateOfField_19 (n := 22) rfl (t := 25) (by decide) (fun c1 => ?_) (fun c1 => ?_)
    · exact absurd rfl c1
    · refine zr_bipush C d_B_fateOfField_22 (n := 24) rfl (v := -7) (by decide) ?_
      exact zr_iret C d_B_fateOfField_24 (by simp [zb_ff, e, zb_pl_n, c1]) hK (Nat.zero_le _) (Nat.zero_le _)
  · refine zr_aload_n C d_B_fateOfField_0 (n := 1) rfl rfl ?_
    refine zr_aload_n C d_B_fateOfField_1 (n := 2) rfl rfl ?_
    refine zr_getN C f_B_15 d_B_fateOfField_2 (n := 5) rfl hU rfl ?_
    refine zr_aload_n C d_B_fateOfField_5 (n := 6) rfl rfl ?_
    refine zr_getN C f_B_58 d_B_fateOfField_6 (n := 9) rfl hU rfl ?_
    refine zr_aload_n C d_B_fateOfField_9 (n := 10) rfl rfl ?_
    refine zr_get C f_B_72 d_B_fateOfField_10 (n := 13) rfl hB rfl ?_
    refine zr_callV3 C k_B_61 d_B_fateOfField_13 (nx := 16) rfl ho rfl ⟨by decide, by decide⟩ (Nat.le_of_ble_eq_true rfl) ⟨by decide, by decide⟩ (sp_O_findField l hO hw ht hnm ?_)
    refine zr_toe (y := nI j) e ?_
    refine zr_istore_n C d_B_fateOfField_16 (n := 17) rfl (by decide) rfl ?_
    refine zr_iload_n C d_B_fateOfField_17 (n := 18) rfl rfl ?_
    refine zr_iconst C d_B_fateOfField_18 (n := 19) rfl (v := -1) (by decide) ?_
    refine zr_icmp_ne C d_B_fateOfField_19 (n := 22) rfl (t := 25) (by decide) (fun c1 => ?_) (fun c1 => ?_)
    · refine zr_aload_n C d_B_fateOfField_25 (n := 26) rfl rfl ?_
      refine zr_getN C f_B_65 d_B_fateOfField_26 (n := 29) rfl ho rfl ?_
      refine zr_iload_n C d_B_fateOfField_29 (n := 30) rfl rfl ?_
      refine zr_ialdN C d_B_fateOfField_30 (n := 31) rfl a3 rfl (by omega) (by decide) ?_
      refine zr_istore C d_B_fateOfField_31 (n := 33) rfl (by decide) rfl ?_
      refine zr_iload C d_B_fateOfField_33 (n := 35) rfl rfl ?_
      refine zr_bipush C d_B_fateOfField_35 (n := 37) rfl (v := nI 8) (by decide) ?_
      refine zr_iand C d_B_fateOfField_37 (n := 38) rfl ?_
      refine zr_if_ne C d_B_fateOfField_38 (n := 41) rfl (t := 56) (by decide) (fun c2 => ?_) (fun c2 => ?_)
      · replace c2 := zb_nzt c2
        refine zr_bipush C d_B_fateOfField_56 (n := 58) rfl (v := -8) (by decide) ?_
        exact zr_iret C d_B_fateOfField_58 (by rw [e, zb_pl_s (show j < 2147483648 by omega)]; unfold zb_ff; dsimp only; rw [if_pos (by simp [c2])]) hK (Nat.zero_le _) (Nat.zero_le _)
      · replace c2 := zb_nzf c2
        refine zr_aload_n C d_B_fateOfField_41 (n := 42) rfl rfl ?_
        refine zr_getN C f_B_39 d_B_fateOfField_42 (n := 45) rfl hU rfl ?_
        refine zr_iconst C d_B_fateOfField_45 (n := 46) rfl (v := nI 1) (by decide) ?_
        refine zr_icmp_ne C d_B_fateOfField_46 (n := 49) rfl (t := 59) (by decide) (fun c3 => ?_) (fun c3 => ?_)
        · replace c3 := zk_ne (by omega) (by omega) c3
          refine zr_iload C d_B_fateOfField_59 (n := 61) rfl rfl ?_
          refine zr_iconst C d_B_fateOfField_61 (n := 62) rfl (v := nI 1) (by decide) ?_
          refine zr_iand C d_B_fateOfField_62 (n := 63) rfl ?_
          refine zr_if_eq C d_B_fateOfField_63 (n := 66) rfl (t := 70) (by decide) (fun c4 => ?_) (fun c4 => ?_)
          · replace c4 := zb_nzf c4
            refine zr_iconst C d_B_fateOfField_70 (n := 71) rfl (v := nI 0) (by decide) ?_
            refine zr_toe (y := zk_b (zb_nz (O 3 j) (nI 1))) (by rw [c4]; rfl) ?_
            refine zr_aload_n C d_B_fateOfField_71 (n := 72) rfl rfl ?_
            refine zr_get C f_B_80 d_B_fateOfField_72 (n := 75) rfl hB rfl ?_
            refine zr_icmp_ne C d_B_fateOfField_75 (n := 78) rfl (t := 82) (by decide) (fun c5 => ?_) (fun c5 => ?_)
            · refine zr_bipush C d_B_fateOfField_82 (n := 84) rfl (v := -9) (by decide) ?_
              exact zr_iret C d_B_fateOfField_84 (by rw [e, zb_pl_s (show j < 2147483648 by omega)]; unfold zb_ff; dsimp only; rw [if_neg (by simp [c2, c3]), if_neg c5]) hK (Nat.zero_le _) (Nat.zero_le _)
            · refine zr_iconst C d_B_fateOfField_78 (n := 79) rfl (v := nI 0) (by decide) ?_
              refine zr_goto C d_B_fateOfField_79 (t := 84) (by decide) ?_
              exact zr_iret C d_B_fateOfField_84 (by rw [e, zb_pl_s (show j < 2147483648 by omega)]; unfold zb_ff; dsimp only; rw [if_neg (by simp [c2, c3]), if_pos c5]) hK (Nat.zero_le _) (Nat.zero_le _)
          · replace c4 := zb_nzt c4
            refine zr_iconst C d_B_fateOfField_66 (n := 67) rfl (v := nI 1) (by decide) ?_
            refine zr_goto C d_B_fateOfField_67 (t := 71) (by decide) ?_
            refine zr_toe (y := zk_b (zb_nz (O 3 j) (nI 1))) (by rw [c4]; rfl) ?_
            refine zr_aload_n C d_B_fateOfField_71 (n := 72) rfl rfl ?_
            refine zr_get C f_B_80 d_B_fateOfField_72 (n := 75) rfl hB rfl ?_
            refine zr_icmp_ne C d_B_fateOfField_75 (n := 78) rfl (t := 82) (by decide) (fun c6 => ?_) (fun c6 => ?_)
            · refine zr_bipush C d_B_fateOfField_82 (n := 84) rfl (v := -9) (by decide) ?_
              exact zr_iret C d_B_fateOfField_84 (by rw [e, zb_pl_s (show j < 2147483648 by omega)]; unfold zb_ff; dsimp only; rw [if_neg (by simp [c2, c3]), if_neg c6]) hK (Nat.zero_le _) (Nat.zero_le _)
            · refine zr_iconst C d_B_fateOfField_78 (n := 79) rfl (v := nI 0) (by decide) ?_
              refine zr_goto C d_B_fateOfField_79 (t := 84) (by decide) ?_
              exact zr_iret C d_B_fateOfField_84 (by rw [e, zb_pl_s (show j < 2147483648 by omega)]; unfold zb_ff; dsimp only; rw [if_neg (by simp [c2, c3]), if_pos c6]) hK (Nat.zero_le _) (Nat.zero_le _)
        · replace c3 := zk_eq (by omega) (by omega) c3
          refine zr_iload C d_B_fateOfField_49 (n := 51) rfl rfl ?_
          refine zr_iconst C d_B_fateOfField_51 (n := 52) rfl (v := nI 4) (by decide) ?_
          refine zr_iand C d_B_fateOfField_52 (n := 53) rfl ?_
          refine zr_if_eq C d_B_fateOfField_53 (n := 56) rfl (t := 59) (by decide) (fun c7 => ?_) (fun c7 => ?_)
          · replace c7 := zb_nzf c7
            refine zr_iload C d_B_fateOfField_59 (n := 61) rfl rfl ?_
            refine zr_iconst C d_B_fateOfField_61 (n := 62) rfl (v := nI 1) (by decide) ?_
            refine zr_iand C d_B_fateOfField_62 (n := 63) rfl ?_
            refine zr_if_eq C d_B_fateOfField_63 (n := 66) rfl (t := 70) (by decide) (fun c8 => ?_) (fun c8 => ?_)
            · replace c8 := zb_nzf c8
              refine zr_iconst C d_B_fateOfField_70 (n := 71) rfl (v := nI 0) (by decide) ?_
              refine zr_toe (y := zk_b (zb_nz (O 3 j) (nI 1))) (by rw [c8]; rfl) ?_
              refine zr_aload_n C d_B_fateOfField_71 (n := 72) rfl rfl ?_
              refine zr_get C f_B_80 d_B_fateOfField_72 (n := 75) rfl hB rfl ?_
              refine zr_icmp_ne C d_B_fateOfField_75 (n := 78) rfl (t := 82) (by decide) (fun c9 => ?_) (fun c9 => ?_)
              · refine zr_bipush C d_B_fateOfField_82 (n := 84) rfl (v := -9) (by decide) ?_
                exact zr_iret C d_B_fateOfField_84 (by rw [e, zb_pl_s (show j < 2147483648 by omega)]; unfold zb_ff; dsimp only; rw [if_neg (by simp [c2, c3, c7]), if_neg c9]) hK (Nat.zero_le _) (Nat.zero_le _)
              · refine zr_iconst C d_B_fateOfField_78 (n := 79) rfl (v := nI 0) (by decide) ?_
                refine zr_goto C d_B_fateOfField_79 (t := 84) (by decide) ?_
                exact zr_iret C d_B_fateOfField_84 (by rw [e, zb_pl_s (show j < 2147483648 by omega)]; unfold zb_ff; dsimp only; rw [if_neg (by simp [c2, c3, c7]), if_pos c9]) hK (Nat.zero_le _) (Nat.zero_le _)
            · replace c8 := zb_nzt c8
              refine zr_iconst C d_B_fateOfField_66 (n := 67) rfl (v := nI 1) (by decide) ?_
              refine zr_goto C d_B_fateOfField_67 (t := 71) (by decide) ?_
              refine zr_toe (y := zk_b (zb_nz (O 3 j) (nI 1))) (by rw [c8]; rfl) ?_
              refine zr_aload_n C d_B_fateOfField_71 (n := 72) rfl rfl ?_
              refine zr_get C f_B_80 d_B_fateOfField_72 (n := 75) rfl hB rfl ?_
              refine zr_icmp_ne C d_B_fateOfField_75 (n := 78) rfl (t := 82) (by decide) (fun c10 => ?_) (fun c10 => ?_)
              · refine zr_bipush C d_B_fateOfField_82 (n := 84) rfl (v := -9) (by decide) ?_
                exact zr_iret C d_B_fateOfField_84 (by rw [e, zb_pl_s (show j < 2147483648 by omega)]; unfold zb_ff; dsimp only; rw [if_neg (by simp [c2, c3, c7]), if_neg c10]) hK (Nat.zero_le _) (Nat.zero_le _)
              · refine zr_iconst C d_B_fateOfField_78 (n := 79) rfl (v := nI 0) (by decide) ?_
                refine zr_goto C d_B_fateOfField_79 (t := 84) (by decide) ?_
                exact zr_iret C d_B_fateOfField_84 (by rw [e, zb_pl_s (show j < 2147483648 by omega)]; unfold zb_ff; dsimp only; rw [if_neg (by simp [c2, c3, c7]), if_pos c10]) hK (Nat.zero_le _) (Nat.zero_le _)
          · replace c7 := zb_nzt c7
            refine zr_bipush C d_B_fateOfField_56 (n := 58) rfl (v := -8) (by decide) ?_
            exact zr_iret C d_B_fateOfField_58 (by rw [e, zb_pl_s (show j < 2147483648 by omega)]; unfold zb_ff; dsimp only; rw [if_pos (by simp [c2, c3, c7])]) hK (Nat.zero_le _) (Nat.zero_le _)
    · exact absurd c1 (zk_nm1 (by omega))
abbrev rm_B_fateOfCall : Room := { frames := 3, cells := 0, slots := 0, locals := 72 }
set_option maxHeartbeats 4000000 in
set_option maxRecDepth 100000 in
/-- fateOfCall -/
theorem sp_B_fateOfCall (l : Launch) {h : zk_H} {i u o : Nat} {B : Nat → Int32} {k t nm : Nat} {a : Int32} {O : zo_O} (hB : h[i]? = some (zb_c B)) (hU : h[u]? = some (zu_c k t nm a)) (hO : zo_at h o O) (hw : zo_wf O) (ht : t < 6) (hnm : nm < 3) {pa : Nat} (hpa : pa < 4) (hp : B 6 = nI pa) {K : Option Value → zk_H → Prop} (hK : K (some (.int (zb_fc O t B (zb_pl (zo_fm O t nm pa (B 7)))))) h) : zk_S l y_B_fateOfCall b_B_fateOfCall 5 (some .int) rm_B_fateOfCall [.ref (i + 1), .ref (u + 1), .ref (o + 1)] h K := by
  obtain ⟨ho, a0, a1, a2, a3, a4, a5, a6, a7⟩ := id hO
  refine zk_S_of R_B "fateOfCall" (by decide) rfl rfl [some (.ref (i + 1)), some (.ref (u + 1)), some (.ref (o + 1)), none, none] 2 rfl (Nat.le_of_ble_eq_true rfl) (fun p e s m ar below meth c D dA b base C => ?_)
  rcases zo_fm_pl hw ht hnm hpa (an := B 7) with e | ⟨j, hj, e, hjp⟩
  · refine zr_aload_n C d_B_fateOfCall_0 (n := 1) rfl rfl ?_
    refine zr_aload_n C d_B_fateOfCall_1 (n := 2) rfl rfl ?_
    refine zr_getN C f_B_15 d_B_fateOfCall_2 (n := 5) rfl hU rfl ?_
    refine zr_callV1 C k_B_21 d_B_fateOfCall_5 (nx := 8) rfl ho rfl ⟨by decide, by decide⟩ (Nat.le_of_ble_eq_true rfl) ⟨by decide, by decide⟩ (sp_O_isInterface l hO ht ?_)
    refine zr_aload_n C d_B_fateOfCall_8 (n := 9) rfl rfl ?_
    refine zr_get C f_B_27 d_B_fateOfCall_9 (n := 12) rfl hB rfl ?_
    refine zr_icmp_eq C d_B_fateOfCall_12 (n := 15) rfl (t := 18) (by decide) (fun c1 => ?_) (fun c1 => ?_)
    · refine zr_aload_n C d_B_fateOfCall_18 (n := 19) rfl rfl ?_
      refine zr_aload_n C d_B_fateOfCall_19 (n := 20) rfl rfl ?_
      refine zr_getN C f_B_15 d_B_fateOfCall_20 (n := 23) rfl hU rfl ?_
      refine zr_aload_n C d_B_fateOfCall_23 (n := 24) rfl rfl ?_
      refine zr_getN C f_B_58 d_B_fateOfCall_24 (n := 27) rfl hU rfl ?_
      refine zr_aload_n C d_B_fateOfCall_27 (n := 28) rfl rfl ?_
      refine zr_get C f_B_97 d_B_fateOfCall_28 (n := 31) rfl hB rfl ?_
      refine zr_toe (y := nI pa) hp ?_
      refine zr_aload_n C d_B_fateOfCall_31 (n := 32) rfl rfl ?_
      refine zr_get C f_B_103 d_B_fateOfCall_32 (n := 35) rfl hB rfl ?_
      refine zr_callV4 C k_B_86 d_B_fateOfCall_35 (nx := 38) rfl ho rfl ⟨by decide, by decide⟩ (Nat.le_of_ble_eq_true rfl) ⟨by decide, by decide⟩ (sp_O_findMethod l hO hw ht hnm hpa ?_)
      refine zr_toe (y := -1) e ?_
      refine zr_istore_n C d_B_fateOfCall_38 (n := 39) rfl (by decide) rfl ?_
      refine zr_iload_n C d_B_fateOfCall_39 (n := 40) rfl rfl ?_
      refine zr_iconst C d_B_fateOfCall_40 (n := 41) rfl (v := -1) (by decide) ?_
      refine zr_icmp_ne C d_B_fateOfCall_41 (n := 44) rfl (t := 47) (by decide) (fun c2 => ?_) (fun c2 => ?_)
      · exact absurd rfl c2
      · refine zr_bipush C d_B_fateOfCall_44 (n := 46) rfl (v := -7) (by decide) ?_
        exact zr_iret C d_B_fateOfCall_46 (by simp [zb_fc, e, zb_pl_n, c1, c2]) hK (Nat.zero_le _) (Nat.zero_le _)
    · refine zr_bipush C d_B_fateOfCall_15 (n := 17) rfl (v := -9) (by decide) ?_
      exact zr_iret C d_B_fateOfCall_17 (by simp [zb_fc, e, zb_pl_n, c1]) hK (Nat.zero_le _) (Nat.zero_le _)
  · refine zr_aload_n C d_B_fateOfCall_0 (n := 1) rfl rfl ?_
    refine zr_aload_n C d_B_fateOfCall_1 (n := 2) rfl rfl ?_
    refine zr_getN C f_B_15 d_B_fateOfCall_2 (n := 5) rfl hU rfl ?_
    refine zr_callV1 C k_B_21 d_B_fateOfCall_5 (nx := 8) rfl ho rfl ⟨by decide, by decide⟩ (Nat.le_of_ble_eq_true rfl) ⟨by decide, by decide⟩ (sp_O_isInterface l hO ht ?_)
    refine zr_aload_n C d_B_fateOfCall_8 (n := 9) rfl rfl ?_
    refine zr_get C f_B_27 d_B_fateOfCall_9 (n := 12) rfl hB rfl ?_
    refine zr_icmp_eq C d_B_fateOfCall_12 (n := 15) rfl (t := 18) (by decide) (fun c1 => ?_) (fun c1 => ?_)
    · refine zr_aload_n C d_B_fateOfCall_18 (n := 19) rfl rfl ?_
      refine zr_aload_n C d_B_fateOfCall_19 (n := 20) rfl rfl ?_
      refine zr_getN C f_B_15 d_B_fateOfCall_20 (n := 23) rfl hU rfl ?_
      refine zr_aload_n C d_B_fateOfCall_23 (n := 24) rfl rfl ?_
      refine zr_getN C f_B_58 d_B_fateOfCall_24 (n := 27) rfl hU rfl ?_
      refine zr_aload_n C d_B_fateOfCall_27 (n := 28) rfl rfl ?_
      refine zr_get C f_B_97 d_B_fateOfCall_28 (n := 31) rfl hB rfl ?_
      refine zr_toe (y := nI pa) hp ?_
      refine zr_aload_n C d_B_fateOfCall_31 (n := 32) rfl rfl ?_
      refine zr_get C f_B_103 d_B_fateOfCall_32 (n := 35) rfl hB rfl ?_
      refine zr_callV4 C k_B_86 d_B_fateOfCall_35 (nx := 38) rfl ho rfl ⟨by decide, by decide⟩ (Nat.le_of_ble_eq_true rfl) ⟨by decide, by decide⟩ (sp_O_findMethod l hO hw ht hnm hpa ?_)
      refine zr_toe (y := nI j) e ?_
      refine zr_istore_n C d_B_fateOfCall_38 (n := 39) rfl (by decide) rfl ?_
      refine zr_iload_n C d_B_fateOfCall_39 (n := 40) rfl rfl ?_
      refine zr_iconst C d_B_fateOfCall_40 (n := 41) rfl (v := -1) (by decide) ?_
      refine zr_icmp_ne C d_B_fateOfCall_41 (n := 44) rfl (t := 47) (by decide) (fun c2 => ?_) (fun c2 => ?_)
      · refine zr_aload_n C d_B_fateOfCall_47 (n := 48) rfl rfl ?_
        refine zr_getN C f_B_90 d_B_fateOfCall_48 (n := 51) rfl ho rfl ?_
        refine zr_iload_n C d_B_fateOfCall_51 (n := 52) rfl rfl ?_
        refine zr_ialdN C d_B_fateOfCall_52 (n := 53) rfl a6 rfl (by omega) (by decide) ?_
        refine zr_istore C d_B_fateOfCall_53 (n := 55) rfl (by decide) rfl ?_
        refine zr_iload C d_B_fateOfCall_55 (n := 57) rfl rfl ?_
        refine zr_bipush C d_B_fateOfCall_57 (n := 59) rfl (v := nI 8) (by decide) ?_
        refine zr_iand C d_B_fateOfCall_59 (n := 60) rfl ?_
        refine zr_if_eq C d_B_fateOfCall_60 (n := 63) rfl (t := 66) (by decide) (fun c3 => ?_) (fun c3 => ?_)
        · replace c3 := zb_nzf c3
          refine zr_iload C d_B_fateOfCall_66 (n := 68) rfl rfl ?_
          refine zr_iconst C d_B_fateOfCall_68 (n := 69) rfl (v := nI 1) (by decide) ?_
          refine zr_iand C d_B_fateOfCall_69 (n := 70) rfl ?_
          refine zr_if_eq C d_B_fateOfCall_70 (n := 73) rfl (t := 77) (by decide) (fun c4 => ?_) (fun c4 => ?_)
          · replace c4 := zb_nzf c4
            refine zr_iconst C d_B_fateOfCall_77 (n := 78) rfl (v := nI 0) (by decide) ?_
            refine zr_toe (y := zk_b (zb_nz (O 6 j) (nI 1))) (by rw [c4]; rfl) ?_
            refine zr_aload_n C d_B_fateOfCall_78 (n := 79) rfl rfl ?_
            refine zr_get C f_B_80 d_B_fateOfCall_79 (n := 82) rfl hB rfl ?_
            refine zr_icmp_eq C d_B_fateOfCall_82 (n := 85) rfl (t := 88) (by decide) (fun c5 => ?_) (fun c5 => ?_)
            · refine zr_iload_n C d_B_fateOfCall_88 (n := 89) rfl rfl ?_
              refine zr_bipush C d_B_fateOfCall_89 (n := 91) rfl (v := nI 12) (by decide) ?_
              refine zr_idiv C d_B_fateOfCall_91 (n := 92) rfl (by decide) ?_
              refine zr_toe (y := nI (j / 12)) (pk_div (by omega) (by decide) (by decide)) ?_
              refine zr_aload_n C d_B_fateOfCall_92 (n := 93) rfl rfl ?_
              refine zr_get C f_B_106 d_B_fateOfCall_93 (n := 96) rfl hB rfl ?_
              refine zr_icmp_ne C d_B_fateOfCall_96 (n := 99) rfl (t := 103) (by decide) (fun c6 => ?_) (fun c6 => ?_)
              · refine zr_iconst C d_B_fateOfCall_103 (n := 104) rfl (v := nI 1) (by decide) ?_
                exact zr_iret C d_B_fateOfCall_104 (by unfold zb_fc; rw [e, zb_pl_s (show j < 2147483648 by omega)]; rw [if_pos c1]; dsimp only; rw [if_neg (by rw [c3]; decide)]; rw [if_pos c5, if_neg c6]) hK (Nat.zero_le _) (Nat.zero_le _)
              · refine zr_iconst C d_B_fateOfCall_99 (n := 100) rfl (v := nI 0) (by decide) ?_
                refine zr_goto C d_B_fateOfCall_100 (t := 104) (by decide) ?_
                exact zr_iret C d_B_fateOfCall_104 (by unfold zb_fc; rw [e, zb_pl_s (show j < 2147483648 by omega)]; rw [if_pos c1]; dsimp only; rw [if_neg (by rw [c3]; decide)]; rw [if_pos c5, if_pos c6]) hK (Nat.zero_le _) (Nat.zero_le _)
            · refine zr_bipush C d_B_fateOfCall_85 (n := 87) rfl (v := -9) (by decide) ?_
              exact zr_iret C d_B_fateOfCall_87 (by unfold zb_fc; rw [e, zb_pl_s (show j < 2147483648 by omega)]; rw [if_pos c1]; dsimp only; rw [if_neg (by rw [c3]; decide)]; rw [if_neg c5]) hK (Nat.zero_le _) (Nat.zero_le _)
          · replace c4 := zb_nzt c4
            refine zr_iconst C d_B_fateOfCall_73 (n := 74) rfl (v := nI 1) (by decide) ?_
            refine zr_goto C d_B_fateOfCall_74 (t := 78) (by decide) ?_
            refine zr_toe (y := zk_b (zb_nz (O 6 j) (nI 1))) (by rw [c4]; rfl) ?_
            refine zr_aload_n C d_B_fateOfCall_78 (n := 79) rfl rfl ?_
            refine zr_get C f_B_80 d_B_fateOfCall_79 (n := 82) rfl hB rfl ?_
            refine zr_icmp_eq C d_B_fateOfCall_82 (n := 85) rfl (t := 88) (by decide) (fun c7 => ?_) (fun c7 => ?_)
            · refine zr_iload_n C d_B_fateOfCall_88 (n := 89) rfl rfl ?_
              refine zr_bipush C d_B_fateOfCall_89 (n := 91) rfl (v := nI 12) (by decide) ?_
              refine zr_idiv C d_B_fateOfCall_91 (n := 92) rfl (by decide) ?_
              refine zr_toe (y := nI (j / 12)) (pk_div (by omega) (by decide) (by decide)) ?_
              refine zr_aload_n C d_B_fateOfCall_92 (n := 93) rfl rfl ?_
              refine zr_get C f_B_106 d_B_fateOfCall_93 (n := 96) rfl hB rfl ?_
              refine zr_icmp_ne C d_B_fateOfCall_96 (n := 99) rfl (t := 103) (by decide) (fun c8 => ?_) (fun c8 => ?_)
              · refine zr_iconst C d_B_fateOfCall_103 (n := 104) rfl (v := nI 1) (by decide) ?_
                exact zr_iret C d_B_fateOfCall_104 (by unfold zb_fc; rw [e, zb_pl_s (show j < 2147483648 by omega)]; rw [if_pos c1]; dsimp only; rw [if_neg (by rw [c3]; decide)]; rw [if_pos c7, if_neg c8]) hK (Nat.zero_le _) (Nat.zero_le _)
              · refine zr_iconst C d_B_fateOfCall_99 (n := 100) rfl (v := nI 0) (by decide) ?_
                refine zr_goto C d_B_fateOfCall_100 (t := 104) (by decide) ?_
                exact zr_iret C d_B_fateOfCall_104 (by unfold zb_fc; rw [e, zb_pl_s (show j < 2147483648 by omega)]; rw [if_pos c1]; dsimp only; rw [if_neg (by rw [c3]; decide)]; rw [if_pos c7, if_pos c8]) hK (Nat.zero_le _) (Nat.zero_le _)
            · refine zr_bipush C d_B_fateOfCall_85 (n := 87) rfl (v := -9) (by decide) ?_
              exact zr_iret C d_B_fateOfCall_87 (by unfold zb_fc; rw [e, zb_pl_s (show j < 2147483648 by omega)]; rw [if_pos c1]; dsimp only; rw [if_neg (by rw [c3]; decide)]; rw [if_neg c7]) hK (Nat.zero_le _) (Nat.zero_le _)
        · replace c3 := zb_nzt c3
          refine zr_bipush C d_B_fateOfCall_63 (n := 65) rfl (v := -8) (by decide) ?_
          exact zr_iret C d_B_fateOfCall_65 (by unfold zb_fc; rw [e, zb_pl_s (show j < 2147483648 by omega)]; rw [if_pos c1]; dsimp only; rw [if_pos c3]) hK (Nat.zero_le _) (Nat.zero_le _)
      · exact absurd c2 (zk_nm1 (by omega))
    · refine zr_bipush C d_B_fateOfCall_15 (n := 17) rfl (v := -9) (by decide) ?_
      exact zr_iret C d_B_fateOfCall_17 (by unfold zb_fc; rw [e, zb_pl_s (show j < 2147483648 by omega)]; rw [if_neg c1]) hK (Nat.zero_le _) (Nat.zero_le _)
abbrev rm_B_isSubtypeBarred : Room := { frames := 2, cells := 0, slots := 0, locals := 43 }
set_option maxHeartbeats 4000000 in
set_option maxRecDepth 100000 in
/-- isSubtypeBarred -/
theorem sp_B_isSubtypeBarred (l : Launch) {h : zk_H} {i u o : Nat} {B : Nat → Int32} {k t nm : Nat} {a : Int32} {O : zo_O} (hB : h[i]? = some (zb_c B)) (hU : h[u]? = some (zu_c k t nm a)) (hO : zo_at h o O) (ht : t < 6) {K : Option Value → zk_H → Prop} (hK : K (some (.int (zk_b (zb_sb O t B)))) h) : zk_S l y_B_isSubtypeBarred b_B_isSubtypeBarred 3 (some .boolean) rm_B_isSubtypeBarred [.ref (i + 1), .ref (u + 1), .ref (o + 1)] h K := by
  obtain ⟨ho, a0, a1, a2, a3, a4, a5, a6, a7⟩ := id hO
  refine zk_S_of R_B "isSubtypeBarred" (by decide) rfl rfl [some (.ref (i + 1)), some (.ref (u + 1)), some (.ref (o + 1))] 0 rfl (Nat.le_of_ble_eq_true rfl) (fun p e s m ar below meth c D dA b base C => ?_)
  refine zr_aload_n C d_B_isSubtypeBarred_0 (n := 1) rfl rfl ?_
  refine zr_aload_n C d_B_isSubtypeBarred_1 (n := 2) rfl rfl ?_
  refine zr_getN C f_B_15 d_B_isSubtypeBarred_2 (n := 5) rfl hU rfl ?_
  refine zr_callV1 C k_B_52 d_B_isSubtypeBarred_5 (nx := 8) rfl ho rfl ⟨by decide, by decide⟩ (Nat.le_of_ble_eq_true rfl) ⟨by decide, by decide⟩ (sp_O_isFinal l hO ht ?_)
  refine zr_if_ne C d_B_isSubtypeBarred_8 (n := 11) rfl (t := 26) (by decide) (fun c1 => ?_) (fun c1 => ?_)
  · replace c1 := zk_bn c1
    refine zr_iconst C d_B_isSubtypeBarred_26 (n := 27) rfl (v := nI 1) (by decide) ?_
    refine zr_goto C d_B_isSubtypeBarred_27 (t := 31) (by decide) ?_
    exact zr_zret C d_B_isSubtypeBarred_31 (by rw [zb_sb]; simp [c1]; try rfl) (by decide) hK (Nat.zero_le _) (Nat.zero_le _)
  · replace c1 := zk_bz c1
    refine zr_aload_n C d_B_isSubtypeBarred_11 (n := 12) rfl rfl ?_
    refine zr_aload_n C d_B_isSubtypeBarred_12 (n := 13) rfl rfl ?_
    refine zr_getN C f_B_15 d_B_isSubtypeBarred_13 (n := 16) rfl hU rfl ?_
    refine zr_callV1 C k_B_21 d_B_isSubtypeBarred_16 (nx := 19) rfl ho rfl ⟨by decide, by decide⟩ (Nat.le_of_ble_eq_true rfl) ⟨by decide, by decide⟩ (sp_O_isInterface l hO ht ?_)
    refine zr_aload_n C d_B_isSubtypeBarred_19 (n := 20) rfl rfl ?_
    refine zr_get C f_B_27 d_B_isSubtypeBarred_20 (n := 23) rfl hB rfl ?_
    refine zr_icmp_eq C d_B_isSubtypeBarred_23 (n := 26) rfl (t := 30) (by decide) (fun c2 => ?_) (fun c2 => ?_)
    · refine zr_iconst C d_B_isSubtypeBarred_30 (n := 31) rfl (v := nI 0) (by decide) ?_
      exact zr_zret C d_B_isSubtypeBarred_31 (by rw [zb_sb]; simp [c1, c2]; try rfl) (by decide) hK (Nat.zero_le _) (Nat.zero_le _)
    · refine zr_iconst C d_B_isSubtypeBarred_26 (n := 27) rfl (v := nI 1) (by decide) ?_
      refine zr_goto C d_B_isSubtypeBarred_27 (t := 31) (by decide) ?_
      exact zr_zret C d_B_isSubtypeBarred_31 (by rw [zb_sb]; simp [c1, c2]; try rfl) (by decide) hK (Nat.zero_le _) (Nat.zero_le _)
abbrev rm_B_fateOfOverride : Room := { frames := 3, cells := 0, slots := 0, locals := 72 }
set_option maxHeartbeats 4000000 in
set_option maxRecDepth 100000 in
/-- fateOfOverride -/
theorem sp_B_fateOfOverride (l : Launch) {h : zk_H} {i u o : Nat} {B : Nat → Int32} {k t nm : Nat} {ag : Nat} {O : zo_O} (hB : h[i]? = some (zb_c B)) (hU : h[u]? = some (zu_c k t nm (nI ag))) (hO : zo_at h o O) (hw : zo_wf O) (ht : t < 6) (hnm : nm < 3) (hag : ag < 4) {K : Option Value → zk_H → Prop} (hK : K (some (.int (zb_fo O t B (zb_pl (zo_fm O t nm ag (-1)))))) h) : zk_S l y_B_fateOfOverride b_B_fateOfOverride 4 (some .int) rm_B_fateOfOverride [.ref (i + 1), .ref (u + 1), .ref (o + 1)] h K := by
  obtain ⟨ho, a0, a1, a2, a3, a4, a5, a6, a7⟩ := id hO
  refine zk_S_of R_B "fateOfOverride" (by decide) rfl rfl [some (.ref (i + 1)), some (.ref (u + 1)), some (.ref (o + 1)), none] 1 rfl (Nat.le_of_ble_eq_true rfl) (fun p e s m ar below meth c D dA b base C => ?_)
  rcases zo_fm_pl hw ht hnm hag (an := -1) with e | ⟨j, hj, e, hjp⟩
  · refine zr_aload_n C d_B_fateOfOverride_0 (n := 1) rfl rfl ?_
    refine zr_aload_n C d_B_fateOfOverride_1 (n := 2) rfl rfl ?_
    refine zr_aload_n C d_B_fateOfOverride_2 (n := 3) rfl rfl ?_
    refine zr_callV2 C k_B_123 d_B_fateOfOverride_3 (nx := 6) rfl hB rfl ⟨by decide, by decide⟩ (Nat.le_of_ble_eq_true rfl) ⟨by decide, by decide⟩ (sp_B_isSubtypeBarred l hB hU hO ht ?_)
    refine zr_if_eq C d_B_fateOfOverride_6 (n := 9) rfl (t := 12) (by decide) (fun c1 => ?_) (fun c1 => ?_)
    · replace c1 := zk_bz c1
      refine zr_aload_n C d_B_fateOfOverride_12 (n := 13) rfl rfl ?_
      refine zr_aload_n C d_B_fateOfOverride_13 (n := 14) rfl rfl ?_
      refine zr_getN C f_B_15 d_B_fateOfOverride_14 (n := 17) rfl hU rfl ?_
      refine zr_aload_n C d_B_fateOfOverride_17 (n := 18) rfl rfl ?_
      refine zr_getN C f_B_58 d_B_fateOfOverride_18 (n := 21) rfl hU rfl ?_
      refine zr_aload_n C d_B_fateOfOverride_21 (n := 22) rfl rfl ?_
      refine zr_getN C f_B_83 d_B_fateOfOverride_22 (n := 25) rfl hU rfl ?_
      refine zr_iconst C d_B_fateOfOverride_25 (n := 26) rfl (v := -1) (by decide) ?_
      refine zr_callV4 C k_B_86 d_B_fateOfOverride_26 (nx := 29) rfl ho rfl ⟨by decide, by decide⟩ (Nat.le_of_ble_eq_true rfl) ⟨by decide, by decide⟩ (sp_O_findMethod l hO hw ht hnm hag ?_)
      refine zr_toe (y := -1) e ?_
      refine zr_istore_n C d_B_fateOfOverride_29 (n := 30) rfl (by decide) rfl ?_
      refine zr_iload_n C d_B_fateOfOverride_30 (n := 31) rfl rfl ?_
      refine zr_iconst C d_B_fateOfOverride_31 (n := 32) rfl (v := -1) (by decide) ?_
      refine zr_icmp_eq C d_B_fateOfOverride_32 (n := 35) rfl (t := 47) (by decide) (fun c2 => ?_) (fun c2 => ?_)
      · refine zr_iconst C d_B_fateOfOverride_47 (n := 48) rfl (v := nI 3) (by decide) ?_
        exact zr_iret C d_B_fateOfOverride_48 (by simp [zb_fo, e, zb_pl_n, c1, c2]) hK (Nat.zero_le _) (Nat.zero_le _)
      · exact absurd rfl c2
    · replace c1 := zk_bn c1
      refine zr_bipush C d_B_fateOfOverride_9 (n := 11) rfl (v := -9) (by decide) ?_
      exact zr_iret C d_B_fateOfOverride_11 (by simp [zb_fo, e, zb_pl_n, c1]) hK (Nat.zero_le _) (Nat.zero_le _)
  · refine zr_aload_n C d_B_fateOfOverride_0 (n := 1) rfl rfl ?_
    refine zr_aload_n C d_B_fateOfOverride_1 (n := 2) rfl rfl ?_
    refine zr_aload_n C d_B_fateOfOverride_2 (n := 3) rfl rfl ?_
    refine zr_callV2 C k_B_123 d_B_fateOfOverride_3 (nx := 6) rfl hB rfl ⟨by decide, by decide⟩ (Nat.le_of_ble_eq_true rfl) ⟨by decide, by decide⟩ (sp_B_isSubtypeBarred l hB hU hO ht ?_)
    refine zr_if_eq C d_B_fateOfOverride_6 (n := 9) rfl (t := 12) (by decide) (fun c1 => ?_) (fun c1 => ?_)
    · replace c1 := zk_bz c1
      refine zr_aload_n C d_B_fateOfOverride_12 (n := 13) rfl rfl ?_
      refine zr_aload_n C d_B_fateOfOverride_13 (n := 14) rfl rfl ?_
      refine zr_getN C f_B_15 d_B_fateOfOverride_14 (n := 17) rfl hU rfl ?_
      refine zr_aload_n C d_B_fateOfOverride_17 (n := 18) rfl rfl ?_
      refine zr_getN C f_B_58 d_B_fateOfOverride_18 (n := 21) rfl hU rfl ?_
      refine zr_aload_n C d_B_fateOfOverride_21 (n := 22) rfl rfl ?_
      refine zr_getN C f_B_83 d_B_fateOfOverride_22 (n := 25) rfl hU rfl ?_
      refine zr_iconst C d_B_fateOfOverride_25 (n := 26) rfl (v := -1) (by decide) ?_
      refine zr_callV4 C k_B_86 d_B_fateOfOverride_26 (nx := 29) rfl ho rfl ⟨by decide, by decide⟩ (Nat.le_of_ble_eq_true rfl) ⟨by decide, by decide⟩ (sp_O_findMethod l hO hw ht hnm hag ?_)
      refine zr_toe (y := nI j) e ?_
      refine zr_istore_n C d_B_fateOfOverride_29 (n := 30) rfl (by decide) rfl ?_
      refine zr_iload_n C d_B_fateOfOverride_30 (n := 31) rfl rfl ?_
      refine zr_iconst C d_B_fateOfOverride_31 (n := 32) rfl (v := -1) (by decide) ?_
      refine zr_icmp_eq C d_B_fateOfOverride_32 (n := 35) rfl (t := 47) (by decide) (fun c2 => ?_) (fun c2 => ?_)
      · exact absurd c2 (zk_nm1 (by omega))
      · refine zr_aload_n C d_B_fateOfOverride_35 (n := 36) rfl rfl ?_
        refine zr_getN C f_B_90 d_B_fateOfOverride_36 (n := 39) rfl ho rfl ?_
        refine zr_iload_n C d_B_fateOfOverride_39 (n := 40) rfl rfl ?_
        refine zr_ialdN C d_B_fateOfOverride_40 (n := 41) rfl a6 rfl (by omega) (by decide) ?_
        refine zr_bipush C d_B_fateOfOverride_41 (n := 43) rfl (v := nI 8) (by decide) ?_
        refine zr_iand C d_B_fateOfOverride_43 (n := 44) rfl ?_
        refine zr_if_eq C d_B_fateOfOverride_44 (n := 47) rfl (t := 49) (by decide) (fun c3 => ?_) (fun c3 => ?_)
        · replace c3 := zb_nzf c3
          refine zr_aload_n C d_B_fateOfOverride_49 (n := 50) rfl rfl ?_
          refine zr_getN C f_B_90 d_B_fateOfOverride_50 (n := 53) rfl ho rfl ?_
          refine zr_iload_n C d_B_fateOfOverride_53 (n := 54) rfl rfl ?_
          refine zr_ialdN C d_B_fateOfOverride_54 (n := 55) rfl a6 rfl (by omega) (by decide) ?_
          refine zr_iconst C d_B_fateOfOverride_55 (n := 56) rfl (v := nI 5) (by decide) ?_
          refine zr_iand C d_B_fateOfOverride_56 (n := 57) rfl ?_
          refine zr_if_eq C d_B_fateOfOverride_57 (n := 60) rfl (t := 63) (by decide) (fun c4 => ?_) (fun c4 => ?_)
          · replace c4 := zb_nzf c4
            refine zr_aload_n C d_B_fateOfOverride_63 (n := 64) rfl rfl ?_
            refine zr_getN C f_B_100 d_B_fateOfOverride_64 (n := 67) rfl ho rfl ?_
            refine zr_iload_n C d_B_fateOfOverride_67 (n := 68) rfl rfl ?_
            refine zr_ialdN C d_B_fateOfOverride_68 (n := 69) rfl a7 rfl (by omega) (by decide) ?_
            refine zr_aload_n C d_B_fateOfOverride_69 (n := 70) rfl rfl ?_
            refine zr_get C f_B_103 d_B_fateOfOverride_70 (n := 73) rfl hB rfl ?_
            refine zr_icmp_ne C d_B_fateOfOverride_73 (n := 76) rfl (t := 80) (by decide) (fun c5 => ?_) (fun c5 => ?_)
            · refine zr_iconst C d_B_fateOfOverride_80 (n := 81) rfl (v := nI 3) (by decide) ?_
              exact zr_iret C d_B_fateOfOverride_81 (by simp [zb_fo, e, zb_pl_s (show j < 2147483648 by omega), c1, c2, c3, c4, c5]) hK (Nat.zero_le _) (Nat.zero_le _)
            · refine zr_iconst C d_B_fateOfOverride_76 (n := 77) rfl (v := nI 0) (by decide) ?_
              refine zr_goto C d_B_fateOfOverride_77 (t := 81) (by decide) ?_
              exact zr_iret C d_B_fateOfOverride_81 (by simp [zb_fo, e, zb_pl_s (show j < 2147483648 by omega), c1, c2, c3, c4, c5]) hK (Nat.zero_le _) (Nat.zero_le _)
          · replace c4 := zb_nzt c4
            refine zr_bipush C d_B_fateOfOverride_60 (n := 62) rfl (v := -9) (by decide) ?_
            exact zr_iret C d_B_fateOfOverride_62 (by simp [zb_fo, e, zb_pl_s (show j < 2147483648 by omega), c1, c2, c3, c4]) hK (Nat.zero_le _) (Nat.zero_le _)
        · replace c3 := zb_nzt c3
          refine zr_iconst C d_B_fateOfOverride_47 (n := 48) rfl (v := nI 3) (by decide) ?_
          exact zr_iret C d_B_fateOfOverride_48 (by simp [zb_fo, e, zb_pl_s (show j < 2147483648 by omega), c1, c2, c3]) hK (Nat.zero_le _) (Nat.zero_le _)
    · replace c1 := zk_bn c1
      refine zr_bipush C d_B_fateOfOverride_9 (n := 11) rfl (v := -9) (by decide) ?_
      exact zr_iret C d_B_fateOfOverride_11 (by simp [zb_fo, e, zb_pl_s (show j < 2147483648 by omega), c1]) hK (Nat.zero_le _) (Nat.zero_le _)
abbrev rm_B_fateWith : Room := { frames := 10, cells := 0, slots := 0, locals := 266 }
set_option maxHeartbeats 4000000 in
set_option maxRecDepth 100000 in
/-- fateWith -/
theorem sp_B_fateWith (l : Launch) {h : zk_H} {i u o : Nat} {B : Nat → Int32} {k t nm : Nat} {ag : Nat} {a : Int32} {O : zo_O} (hB : h[i]? = some (zb_c B)) (hU : h[u]? = some (zu_c k t nm a)) (hO : zo_at h o O) (hw : zo_wf O) (ht : t < 6) (hk : k < 7) (hnm : nm < 4) (hm : k = 2 ∨ k = 3 ∨ k = 6 → nm < 3 ∧ a = nI ag ∧ ag < 4) {pa : Nat} (hpa : k = 2 ∨ k = 3 → pa < 4 ∧ B 6 = nI pa) {K : Option Value → zk_H → Prop} (hK : K (some (.int (zb_fw O k t nm ag pa B))) h) : zk_S l y_B_fateWith b_B_fateWith 3 (some .int) rm_B_fateWith [.ref (i + 1), .ref (u + 1), .ref (o + 1)] h K := by
  obtain ⟨ho, a0, a1, a2, a3, a4, a5, a6, a7⟩ := id hO
  refine zk_S_of R_B "fateWith" (by decide) rfl rfl [some (.ref (i + 1)), some (.ref (u + 1)), some (.ref (o + 1))] 0 rfl (Nat.le_of_ble_eq_true rfl) (fun p e s m ar below meth c D dA b base C => ?_)
  refine zr_aload_n C d_B_fateWith_0 (n := 1) rfl rfl ?_
  refine zr_get C f_B_9 d_B_fateWith_1 (n := 4) rfl hB rfl ?_
  refine zr_if_eq C d_B_fateWith_4 (n := 7) rfl (t := 22) (by decide) (fun c1 => ?_) (fun c1 => ?_)
  · refine zr_aload_n C d_B_fateWith_22 (n := 23) rfl rfl ?_
    refine zr_aload_n C d_B_fateWith_23 (n := 24) rfl rfl ?_
    refine zr_getN C f_B_15 d_B_fateWith_24 (n := 27) rfl hU rfl ?_
    refine zr_callV1 C k_B_30 d_B_fateWith_27 (nx := 30) rfl ho rfl ⟨by decide, by decide⟩ (Nat.le_of_ble_eq_true rfl) ⟨by decide, by decide⟩ (sp_O_isThere l hO ht ?_)
    refine zr_if_ne C d_B_fateWith_30 (n := 33) rfl (t := 36) (by decide) (fun c2 => ?_) (fun c2 => ?_)
    · replace c2 := zk_bn c2
      refine zr_aload_n C d_B_fateWith_36 (n := 37) rfl rfl ?_
      refine zr_aload_n C d_B_fateWith_37 (n := 38) rfl rfl ?_
      refine zr_getN C f_B_15 d_B_fateWith_38 (n := 41) rfl hU rfl ?_
      refine zr_callV1 C k_B_33 d_B_fateWith_41 (nx := 44) rfl ho rfl ⟨by decide, by decide⟩ (Nat.le_of_ble_eq_true rfl) ⟨by decide, by decide⟩ (sp_O_isHidden l hO ht ?_)
      refine zr_if_eq C d_B_fateWith_44 (n := 47) rfl (t := 50) (by decide) (fun c3 => ?_) (fun c3 => ?_)
      · replace c3 := zk_bz c3
        refine zr_aload_n C d_B_fateWith_50 (n := 51) rfl rfl ?_
        refine zr_getN C f_B_39 d_B_fateWith_51 (n := 54) rfl hU rfl ?_
        have hsw : k = 0 ∨ k = 1 ∨ k = 2 ∨ k = 3 ∨ k = 4 ∨ k = 5 ∨ k = 6 := by omega
        rcases hsw with rfl | rfl | rfl | rfl | rfl | rfl | rfl
        · refine zr_tableIn C d_B_fateWith_54 (by decide) (by decide) (off := 38) (by decide) (t := 92) (by decide) ?_
          refine zr_aload_n C d_B_fateWith_92 (n := 93) rfl rfl ?_
          refine zr_aload_n C d_B_fateWith_93 (n := 94) rfl rfl ?_
          refine zr_aload_n C d_B_fateWith_94 (n := 95) rfl rfl ?_
          refine zr_callV2 C k_B_117 d_B_fateWith_95 (nx := 98) rfl hB rfl ⟨by decide, by decide⟩ (Nat.le_of_ble_eq_true rfl) ⟨by decide, by decide⟩ (sp_B_fateOfField l hB hU hO hw ht (by decide) hnm ?_)
          exact zr_iret C d_B_fateWith_98 (by simp [zb_fw, c1, c2, c3]) hK (Nat.zero_le _) (Nat.zero_le _)
        · refine zr_tableIn C d_B_fateWith_54 (by decide) (by decide) (off := 38) (by decide) (t := 92) (by decide) ?_
          refine zr_aload_n C d_B_fateWith_92 (n := 93) rfl rfl ?_
          refine zr_aload_n C d_B_fateWith_93 (n := 94) rfl rfl ?_
          refine zr_aload_n C d_B_fateWith_94 (n := 95) rfl rfl ?_
          refine zr_callV2 C k_B_117 d_B_fateWith_95 (nx := 98) rfl hB rfl ⟨by decide, by decide⟩ (Nat.le_of_ble_eq_true rfl) ⟨by decide, by decide⟩ (sp_B_fateOfField l hB hU hO hw ht (by decide) hnm ?_)
          exact zr_iret C d_B_fateWith_98 (by simp [zb_fw, c1, c2, c3]) hK (Nat.zero_le _) (Nat.zero_le _)
        · refine zr_tableIn C d_B_fateWith_54 (by decide) (by decide) (off := 45) (by decide) (t := 99) (by decide) ?_
          have hm := hm (by decide)
          rw [hm.2.1] at hU
          have hpa := hpa (by decide)
          refine zr_aload_n C d_B_fateWith_99 (n := 100) rfl rfl ?_
          refine zr_aload_n C d_B_fateWith_100 (n := 101) rfl rfl ?_
          refine zr_aload_n C d_B_fateWith_101 (n := 102) rfl rfl ?_
          refine zr_callV2 C k_B_120 d_B_fateWith_102 (nx := 105) rfl hB rfl ⟨by decide, by decide⟩ (Nat.le_of_ble_eq_true rfl) ⟨by decide, by decide⟩ (sp_B_fateOfCall l hB hU hO hw ht hm.1 hpa.1 hpa.2 ?_)
          exact zr_iret C d_B_fateWith_105 (by simp [zb_fw, c1, c2, c3]) hK (Nat.zero_le _) (Nat.zero_le _)
        · refine zr_tableIn C d_B_fateWith_54 (by decide) (by decide) (off := 45) (by decide) (t := 99) (by decide) ?_
          have hm := hm (by decide)
          rw [hm.2.1] at hU
          have hpa := hpa (by decide)
          refine zr_aload_n C d_B_fateWith_99 (n := 100) rfl rfl ?_
          refine zr_aload_n C d_B_fateWith_100 (n := 101) rfl rfl ?_
          refine zr_aload_n C d_B_fateWith_101 (n := 102) rfl rfl ?_
          refine zr_callV2 C k_B_120 d_B_fateWith_102 (nx := 105) rfl hB rfl ⟨by decide, by decide⟩ (Nat.le_of_ble_eq_true rfl) ⟨by decide, by decide⟩ (sp_B_fateOfCall l hB hU hO hw ht hm.1 hpa.1 hpa.2 ?_)
          exact zr_iret C d_B_fateWith_105 (by simp [zb_fw, c1, c2, c3]) hK (Nat.zero_le _) (Nat.zero_le _)
        · refine zr_tableIn C d_B_fateWith_54 (by decide) (by decide) (off := 52) (by decide) (t := 106) (by decide) ?_
          refine zr_aload_n C d_B_fateWith_106 (n := 107) rfl rfl ?_
          refine zr_aload_n C d_B_fateWith_107 (n := 108) rfl rfl ?_
          refine zr_getN C f_B_15 d_B_fateWith_108 (n := 111) rfl hU rfl ?_
          refine zr_callV1 C k_B_49 d_B_fateWith_111 (nx := 114) rfl ho rfl ⟨by decide, by decide⟩ (Nat.le_of_ble_eq_true rfl) ⟨by decide, by decide⟩ (sp_O_isAbstract l hO ht ?_)
          refine zr_if_eq C d_B_fateWith_114 (n := 117) rfl (t := 122) (by decide) (fun c4 => ?_) (fun c4 => ?_)
          · replace c4 := zk_bz c4
            refine zr_iconst C d_B_fateWith_122 (n := 123) rfl (v := nI 0) (by decide) ?_
            exact zr_iret C d_B_fateWith_123 (by simp [zb_fw, c1, c2, c3, c4]) hK (Nat.zero_le _) (Nat.zero_le _)
          · replace c4 := zk_bn c4
            refine zr_bipush C d_B_fateWith_117 (n := 119) rfl (v := -9) (by decide) ?_
            refine zr_goto C d_B_fateWith_119 (t := 123) (by decide) ?_
            exact zr_iret C d_B_fateWith_123 (by simp [zb_fw, c1, c2, c3, c4]) hK (Nat.zero_le _) (Nat.zero_le _)
        · refine zr_tableIn C d_B_fateWith_54 (by decide) (by decide) (off := 70) (by decide) (t := 124) (by decide) ?_
          refine zr_aload_n C d_B_fateWith_124 (n := 125) rfl rfl ?_
          refine zr_aload_n C d_B_fateWith_125 (n := 126) rfl rfl ?_
          refine zr_aload_n C d_B_fateWith_126 (n := 127) rfl rfl ?_
          refine zr_callV2 C k_B_123 d_B_fateWith_127 (nx := 130) rfl hB rfl ⟨by decide, by decide⟩ (Nat.le_of_ble_eq_true rfl) ⟨by decide, by decide⟩ (sp_B_isSubtypeBarred l hB hU hO ht ?_)
          refine zr_if_eq C d_B_fateWith_130 (n := 133) rfl (t := 138) (by decide) (fun c5 => ?_) (fun c5 => ?_)
          · replace c5 := zk_bz c5
            refine zr_iconst C d_B_fateWith_138 (n := 139) rfl (v := nI 0) (by decide) ?_
            exact zr_iret C d_B_fateWith_139 (by simp [zb_fw, c1, c2, c3, c5]) hK (Nat.zero_le _) (Nat.zero_le _)
          · replace c5 := zk_bn c5
            refine zr_bipush C d_B_fateWith_133 (n := 135) rfl (v := -9) (by decide) ?_
            refine zr_goto C d_B_fateWith_135 (t := 139) (by decide) ?_
            exact zr_iret C d_B_fateWith_139 (by simp [zb_fw, c1, c2, c3, c5]) hK (Nat.zero_le _) (Nat.zero_le _)
        · refine zr_tableOut C d_B_fateWith_54 (by decide) (t := 140) (by decide) ?_
          have hm := hm (by decide)
          rw [hm.2.1] at hU
          refine zr_aload_n C d_B_fateWith_140 (n := 141) rfl rfl ?_
          refine zr_aload_n C d_B_fateWith_141 (n := 142) rfl rfl ?_
          refine zr_aload_n C d_B_fateWith_142 (n := 143) rfl rfl ?_
          refine zr_callV2 C k_B_126 d_B_fateWith_143 (nx := 146) rfl hB rfl ⟨by decide, by decide⟩ (Nat.le_of_ble_eq_true rfl) ⟨by decide, by decide⟩ (sp_B_fateOfOverride l hB hU hO hw ht hm.1 hm.2.2 ?_)
          exact zr_iret C d_B_fateWith_146 (by simp [zb_fw, c1, c2, c3]) hK (Nat.zero_le _) (Nat.zero_le _)
      · replace c3 := zk_bn c3
        refine zr_bipush C d_B_fateWith_47 (n := 49) rfl (v := -8) (by decide) ?_
        exact zr_iret C d_B_fateWith_49 (by simp [zb_fw, c1, c2, c3]) hK (Nat.zero_le _) (Nat.zero_le _)
    · replace c2 := zk_bz c2
      refine zr_bipush C d_B_fateWith_33 (n := 35) rfl (v := -6) (by decide) ?_
      exact zr_iret C d_B_fateWith_35 (by simp [zb_fw, c1, c2]) hK (Nat.zero_le _) (Nat.zero_le _)
  · refine zr_aload_n C d_B_fateWith_7 (n := 8) rfl rfl ?_
    refine zr_aload_n C d_B_fateWith_8 (n := 9) rfl rfl ?_
    refine zr_aload_n C d_B_fateWith_9 (n := 10) rfl rfl ?_
    refine zr_callV2 C k_B_113 d_B_fateWith_10 (nx := 13) rfl hB rfl ⟨by decide, by decide⟩ (Nat.le_of_ble_eq_true rfl) ⟨by decide, by decide⟩ (sp_B_isStillValue l hB hU hO hw ht hnm ?_)
    refine zr_if_eq C d_B_fateWith_13 (n := 16) rfl (t := 20) (by decide) (fun c6 => ?_) (fun c6 => ?_)
    · replace c6 := zk_bz c6
      refine zr_iconst C d_B_fateWith_20 (n := 21) rfl (v := nI 2) (by decide) ?_
      exact zr_iret C d_B_fateWith_21 (by simp [zb_fw, c1, c6]) hK (Nat.zero_le _) (Nat.zero_le _)
    · replace c6 := zk_bn c6
      refine zr_iconst C d_B_fateWith_16 (n := 17) rfl (v := nI 0) (by decide) ?_
      refine zr_goto C d_B_fateWith_17 (t := 21) (by decide) ?_
      exact zr_iret C d_B_fateWith_21 (by simp [zb_fw, c1, c6]) hK (Nat.zero_le _) (Nat.zero_le _)
abbrev rm_U_tell : Room := { frames := 0, cells := 0, slots := 0, locals := 0 }
set_option maxHeartbeats 4000000 in
set_option maxRecDepth 100000 in
/-- tell -/
theorem sp_U_tell (l : Launch) {h : zk_H} {u : Nat} {v0 v1 v2 v3 x0 x1 x2 x3 : Int32} (hU : h[u]? = some (.inr (2, [.int v0, .int v1, .int v2, .int v3]))) {K : Option Value → zk_H → Prop} (hK : K none (h.set u (.inr (2, [.int x0, .int x1, .int x2, .int x3])))) : zk_S l y_U_tell b_U_tell 5 none rm_U_tell [.ref (u + 1), .int x0, .int x1, .int x2, .int x3] h K := by
  refine zk_S_of R_U "tell" (by decide) rfl rfl [some (.ref (u + 1)), some (.int x0), some (.int x1), some (.int x2), some (.int x3)] 0 rfl (Nat.le_of_ble_eq_true rfl) (fun p e s m ar below meth c D dA b base C => ?_)
  refine zr_aload_n C d_U_tell_0 (n := 1) rfl rfl ?_
  refine zr_iload_n C d_U_tell_1 (n := 2) rfl rfl ?_
  refine zr_put C f_U_7 Y_U rfl rfl d_U_tell_2 (n := 5) rfl hU (Nat.le_of_ble_eq_true rfl) (fun _ _ => rfl) (fun _ _ => rfl) ?_
  refine zr_aload_n C d_U_tell_5 (n := 6) rfl rfl ?_
  refine zr_iload_n C d_U_tell_6 (n := 7) rfl rfl ?_
  refine zr_put C f_U_13 Y_U rfl rfl d_U_tell_7 (n := 10) rfl (zk_g0 hU) (Nat.le_of_ble_eq_true rfl) (fun _ _ => rfl) (fun _ _ => rfl) ?_
  rw [zk_sset]
  refine zr_aload_n C d_U_tell_10 (n := 11) rfl rfl ?_
  refine zr_iload_n C d_U_tell_11 (n := 12) rfl rfl ?_
  refine zr_put C f_U_16 Y_U rfl rfl d_U_tell_12 (n := 15) rfl (zk_g0 hU) (Nat.le_of_ble_eq_true rfl) (fun _ _ => rfl) (fun _ _ => rfl) ?_
  rw [zk_sset]
  refine zr_aload_n C d_U_tell_15 (n := 16) rfl rfl ?_
  refine zr_iload C d_U_tell_16 (n := 18) rfl rfl ?_
  refine zr_put C f_U_19 Y_U rfl rfl d_U_tell_18 (n := 21) rfl (zk_g0 hU) (Nat.le_of_ble_eq_true rfl) (fun _ _ => rfl) (fun _ _ => rfl) ?_
  rw [zk_sset]
  exact zr_vret C d_U_tell_21 hK (Nat.zero_le _) (Nat.zero_le _)
abbrev rm_U_init : Room := { frames := 1, cells := 0, slots := 0, locals := 20 }
set_option maxHeartbeats 4000000 in
set_option maxRecDepth 100000 in
/-- ApiCompare$Use() -/
theorem sp_U_init (l : Launch) {h : zk_H} {u : Nat} {K : Option Value → zk_H → Prop} (hK : K none h) : zk_S l y_U_init b_U_init 1 none rm_U_init [.ref (u + 1)] h K := by
  refine zk_S_of R_U "<init>" (by decide) rfl rfl [some (.ref (u + 1))] 0 rfl (Nat.le_of_ble_eq_true rfl) (fun p e s m ar below meth c D dA b base C => ?_)
  refine zr_aload_n C d_U_init_0 (n := 1) rfl rfl ?_
  refine zr_objInit C o_U_1 d_U_init_1 (n := 4) rfl (by decide) (by decide) ?_
  exact zr_vret C d_U_init_4 hK (Nat.zero_le _) (Nat.zero_le _)
abbrev rm_B_init : Room := { frames := 1, cells := 0, slots := 0, locals := 20 }
set_option maxHeartbeats 4000000 in
set_option maxRecDepth 100000 in
/-- ApiCompare$Binding() -/
theorem sp_B_init (l : Launch) {h : zk_H} {u : Nat} {K : Option Value → zk_H → Prop} (hK : K none h) : zk_S l y_B_init b_B_init 1 none rm_B_init [.ref (u + 1)] h K := by
  refine zk_S_of R_B "<init>" (by decide) rfl rfl [some (.ref (u + 1))] 0 rfl (Nat.le_of_ble_eq_true rfl) (fun p e s m ar below meth c D dA b base C => ?_)
  refine zr_aload_n C d_B_init_0 (n := 1) rfl rfl ?_
  refine zr_objInit C o_B_3 d_B_init_1 (n := 4) rfl (by decide) (by decide) ?_
  exact zr_vret C d_B_init_4 hK (Nat.zero_le _) (Nat.zero_le _)
