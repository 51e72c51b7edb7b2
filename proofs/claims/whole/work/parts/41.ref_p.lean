abbrev rm_M_init : Room := { frames := 1, cells := 12, slots := 758, locals := 20 }
set_option maxHeartbeats 4000000 in
set_option maxRecDepth 100000 in
/-- ApiCompareModel() -/
theorem sp_M_init (l : Launch) {h : zk_H} (hn : h.length = 39) (hob : h[38]? = some (.inr (4, [.null, .null, .null, .null, .null, .null, .null, .null, .null, .int (0), .null, .null, .null]))) {K : Option Value → zk_H → Prop} (hK : ∀ (h' : zk_H) (S : zo_O), h'.length = 51 → (∀ j, j < 38 → h'[j]? = h[j]?) → zm_at h' S 0 → (∀ j, j < 12 → S 0 j = 0) → (∀ j, j < 48 → S 4 j = -1) → (∀ j, j < 144 → S 7 j = -1) → K none h') : zk_S l y_M_init b_M_init 2 none rm_M_init [.ref (38 + 1)] h K := by
  refine zk_S_of R_M "<init>" (by decide) rfl rfl [some (.ref (38 + 1)), none] 1 rfl (Nat.le_of_ble_eq_true rfl) (fun p e s m ar below meth c D dA b base C => ?_)
  rw [← nI_0] at hob
  have L2 : ∀ (q i : Nat) (h1 : zk_H) (S1 : zo_O), q + i = 144 → h1.length = 51 → (∀ j, j < 38 → h1[j]? = h[j]?) → zm_at h1 S1 0 → (∀ j, j < 12 → S1 0 j = 0) → (∀ j, j < 48 → S1 4 j = -1) → (∀ j, j < i → S1 7 j = -1) → zk_V p l e rm_M_init s m ar below meth c 2 D dA b base (MQ below (zk_Q K D dA b base) ar s rm_M_init.cells rm_M_init.slots (fun q : Nat => base ≤ q)) 12 758 126 [some (.ref (38 + 1)), some (.int (nI i))] [] h1 := by
    intro q
    induction q with
    | zero =>
      intro i h1 S1 hq hl hp hM1 i0 i4 i7
      obtain ⟨hm, s0, s1, s2, s3, s4, s5, s6, s7, s8, s9, s10, s11⟩ := id hM1
      refine zr_iload_n C d_M_init_126 (n := 127) rfl rfl ?_
      refine zr_sipush C d_M_init_127 (n := 130) rfl (v := nI 144) (by decide) ?_
      refine zr_icmp_ge C d_M_init_130 (n := 133) rfl (t := 146) (by decide) (fun c1 => ?_) (fun c1 => ?_)
      · exact zr_vret C d_M_init_146 (hK h1 S1 hl hp hM1 i0 i4 (fun j hj => i7 j (by omega))) (by decide) (by decide)
      · exact absurd (zk_nle (by omega) (by omega) c1) (by omega)
    | succ q ih =>
      intro i h1 S1 hq hl hp hM1 i0 i4 i7
      obtain ⟨hm, s0, s1, s2, s3, s4, s5, s6, s7, s8, s9, s10, s11⟩ := id hM1
      refine zr_iload_n C d_M_init_126 (n := 127) rfl rfl ?_
      refine zr_sipush C d_M_init_127 (n := 130) rfl (v := nI 144) (by decide) ?_
      refine zr_icmp_ge C d_M_init_130 (n := 133) rfl (t := 146) (by decide) (fun c1 => ?_) (fun c1 => ?_)
      · exact absurd (zk_le (by omega) (by omega) c1) (by omega)
      · refine zr_aload_n C d_M_init_133 (n := 134) rfl rfl ?_
        refine zr_get C f_M_32 d_M_init_134 (n := 137) rfl hm rfl ?_
        refine zr_iload_n C d_M_init_137 (n := 138) rfl rfl ?_
        refine zr_iconst C d_M_init_138 (n := 139) rfl (v := -1) (by decide) ?_
        refine zr_iastN C d_M_init_139 (n := 140) rfl s7 rfl (by omega) (by decide) ?_
        refine zr_iinc C d_M_init_140 (n := 143) rfl rfl (w := 1) (by decide) (nI_1 i) (by decide) rfl ?_
        refine zr_goto C d_M_init_143 (t := 126) (by decide) ?_
        exact ih (i + 1) _ (zm_u S1 7 (upd (S1 7) i (-1))) (by omega) (by simp only [List.length_set]; exact hl) (fun j hj => (zk_gs (by omega)).trans (hp j hj)) (zm_at_7 hM1) i0 i4 (fun j hj => zk_lts (f := S1 7) i7 hj)
  have L1 : ∀ (q i : Nat) (h1 : zk_H) (S1 : zo_O), q + i = 48 → h1.length = 51 → (∀ j, j < 38 → h1[j]? = h[j]?) → zm_at h1 S1 0 → (∀ j, j < 12 → S1 0 j = 0) → (∀ j, j < i → S1 4 j = -1) → zk_V p l e rm_M_init s m ar below meth c 2 D dA b base (MQ below (zk_Q K D dA b base) ar s rm_M_init.cells rm_M_init.slots (fun q : Nat => base ≤ q)) 12 758 105 [some (.ref (38 + 1)), some (.int (nI i))] [] h1 := by
    intro q
    induction q with
    | zero =>
      intro i h1 S1 hq hl hp hM1 i0 i4
      obtain ⟨hm, s0, s1, s2, s3, s4, s5, s6, s7, s8, s9, s10, s11⟩ := id hM1
      refine zr_iload_n C d_M_init_105 (n := 106) rfl rfl ?_
      refine zr_bipush C d_M_init_106 (n := 108) rfl (v := nI 48) (by decide) ?_
      refine zr_icmp_ge C d_M_init_108 (n := 111) rfl (t := 124) (by decide) (fun c1 => ?_) (fun c1 => ?_)
      · refine zr_iconst C d_M_init_124 (n := 125) rfl (v := nI 0) (by decide) ?_
        refine zr_istore_n C d_M_init_125 (n := 126) rfl (by decide) rfl ?_
        exact L2 144 0 h1 S1 rfl hl hp hM1 i0 (fun j hj => i4 j (by omega)) (fun j hj => absurd hj (by omega))
      · exact absurd (zk_nle (by omega) (by omega) c1) (by omega)
    | succ q ih =>
      intro i h1 S1 hq hl hp hM1 i0 i4
      obtain ⟨hm, s0, s1, s2, s3, s4, s5, s6, s7, s8, s9, s10, s11⟩ := id hM1
      refine zr_iload_n C d_M_init_105 (n := 106) rfl rfl ?_
      refine zr_bipush C d_M_init_106 (n := 108) rfl (v := nI 48) (by decide) ?_
      refine zr_icmp_ge C d_M_init_108 (n := 111) rfl (t := 124) (by decide) (fun c1 => ?_) (fun c1 => ?_)
      · exact absurd (zk_le (by omega) (by omega) c1) (by omega)
      · refine zr_aload_n C d_M_init_111 (n := 112) rfl rfl ?_
        refine zr_get C f_M_23 d_M_init_112 (n := 115) rfl hm rfl ?_
        refine zr_iload_n C d_M_init_115 (n := 116) rfl rfl ?_
        refine zr_iconst C d_M_init_116 (n := 117) rfl (v := -1) (by decide) ?_
        refine zr_iastN C d_M_init_117 (n := 118) rfl s4 rfl (by omega) (by decide) ?_
        refine zr_iinc C d_M_init_118 (n := 121) rfl rfl (w := 1) (by decide) (nI_1 i) (by decide) rfl ?_
        refine zr_goto C d_M_init_121 (t := 105) (by decide) ?_
        exact ih (i + 1) _ (zm_u S1 4 (upd (S1 4) i (-1))) (by omega) (by simp only [List.length_set]; exact hl) (fun j hj => (zk_gs (by omega)).trans (hp j hj)) (zm_at_4 hM1) i0 (fun j hj => zk_lts (f := S1 4) i4 hj)
  have J12 : ∀ (h1 : zk_H), h1.length = 51 → (∀ j, j < 38 → h1[j]? = h[j]?) → h1[38]? = some (.inr (4, [.ref 40, .ref 41, .ref 42, .ref 43, .ref 44, .ref 45, .ref 46, .ref 47, .ref 48, .int (nI 0), .ref 49, .ref 50, .ref 51])) → h1[39]? = some (.inl (2, 12, .inl (fun _ => 0))) → h1[40]? = some (.inl (0, 12, .inl (fun _ => 0))) → h1[41]? = some (.inl (0, 12, .inl (fun _ => 0))) → h1[42]? = some (.inl (0, 12, .inl (fun _ => 0))) → h1[43]? = some (.inl (0, 48, .inl (fun _ => 0))) → h1[44]? = some (.inl (0, 48, .inl (fun _ => 0))) → h1[45]? = some (.inl (0, 48, .inl (fun _ => 0))) → h1[46]? = some (.inl (0, 144, .inl (fun _ => 0))) → h1[47]? = some (.inl (0, 144, .inl (fun _ => 0))) → h1[48]? = some (.inl (0, 64, .inl (fun _ => 0))) → h1[49]? = some (.inl (0, 14, .inl (fun _ => 0))) → h1[50]? = some (.inl (0, 200, .inl (fun _ => 0))) → zk_V p l e rm_M_init s m ar below meth c 2 D dA b base (MQ below (zk_Q K D dA b base) ar s rm_M_init.cells rm_M_init.slots (fun q : Nat => base ≤ q)) 12 758 103 [some (.ref (38 + 1)), none] [] h1 := by
    intro h1 hl hp ho a0 a1 a2 a3 a4 a5 a6 a7 a8 a9 a10 a11
    refine zr_iconst C d_M_init_103 (n := 104) rfl (v := nI 0) (by decide) ?_
    refine zr_istore_n C d_M_init_104 (n := 105) rfl (by decide) rfl ?_
    exact L1 48 0 h1 (fun _ _ => 0) rfl hl hp ⟨ho, a0, a1, a2, a3, a4, a5, a6, a7, a8, a9, a10, a11⟩ (fun _ _ => rfl) (fun i hi => absurd hi (by omega))
  have J11 : ∀ (h1 : zk_H), h1.length = 50 → (∀ j, j < 38 → h1[j]? = h[j]?) → h1[38]? = some (.inr (4, [.ref 40, .ref 41, .ref 42, .ref 43, .ref 44, .ref 45, .ref 46, .ref 47, .ref 48, .int (nI 0), .ref 49, .ref 50, .null])) → h1[39]? = some (.inl (2, 12, .inl (fun _ => 0))) → h1[40]? = some (.inl (0, 12, .inl (fun _ => 0))) → h1[41]? = some (.inl (0, 12, .inl (fun _ => 0))) → h1[42]? = some (.inl (0, 12, .inl (fun _ => 0))) → h1[43]? = some (.inl (0, 48, .inl (fun _ => 0))) → h1[44]? = some (.inl (0, 48, .inl (fun _ => 0))) → h1[45]? = some (.inl (0, 48, .inl (fun _ => 0))) → h1[46]? = some (.inl (0, 144, .inl (fun _ => 0))) → h1[47]? = some (.inl (0, 144, .inl (fun _ => 0))) → h1[48]? = some (.inl (0, 64, .inl (fun _ => 0))) → h1[49]? = some (.inl (0, 14, .inl (fun _ => 0))) → zk_V p l e rm_M_init s m ar below meth c 2 D dA b base (MQ below (zk_Q K D dA b base) ar s rm_M_init.cells rm_M_init.slots (fun q : Nat => base ≤ q)) 11 558 94 [some (.ref (38 + 1)), none] [] h1 := by
    intro h1 hl hp ho a0 a1 a2 a3 a4 a5 a6 a7 a8 a9 a10
    refine zr_aload_n C d_M_init_94 (n := 95) rfl rfl ?_
    refine zr_sipush C d_M_init_95 (n := 98) rfl (v := nI 200) (by decide) ?_
    refine zr_newi C zk_ci d_M_init_98 (n := 100) rfl (len := 200) (by decide) (by decide) (by decide) 50 hl (by decide) (by decide) ?_
    refine zr_putF C f_M_44 Y_M rfl rfl rfl rfl d_M_init_100 (n := 103) rfl (zk_ap ho) (Nat.le_of_ble_eq_true rfl) (fun _ _ => rfl) (fun _ _ => rfl) ?_
    exact J12 _ (by simp [hl]) (fun j hj => ((zk_gs (by omega)).trans (zk_al hl (by omega))).trans (hp j hj)) (zk_g0 (zk_ap ho)) (zk_g1 (by omega) (zk_ap a0)) (zk_g1 (by omega) (zk_ap a1)) (zk_g1 (by omega) (zk_ap a2)) (zk_g1 (by omega) (zk_ap a3)) (zk_g1 (by omega) (zk_ap a4)) (zk_g1 (by omega) (zk_ap a5)) (zk_g1 (by omega) (zk_ap a6)) (zk_g1 (by omega) (zk_ap a7)) (zk_g1 (by omega) (zk_ap a8)) (zk_g1 (by omega) (zk_ap a9)) (zk_g1 (by omega) (zk_ap a10)) (zk_g1 (by omega) (zk_aq hl))
  have J10 : ∀ (h1 : zk_H), h1.length = 49 → (∀ j, j < 38 → h1[j]? = h[j]?) → h1[38]? = some (.inr (4, [.ref 40, .ref 41, .ref 42, .ref 43, .ref 44, .ref 45, .ref 46, .ref 47, .ref 48, .int (nI 0), .ref 49, .null, .null])) → h1[39]? = some (.inl (2, 12, .inl (fun _ => 0))) → h1[40]? = some (.inl (0, 12, .inl (fun _ => 0))) → h1[41]? = some (.inl (0, 12, .inl (fun _ => 0))) → h1[42]? = some (.inl (0, 12, .inl (fun _ => 0))) → h1[43]? = some (.inl (0, 48, .inl (fun _ => 0))) → h1[44]? = some (.inl (0, 48, .inl (fun _ => 0))) → h1[45]? = some (.inl (0, 48, .inl (fun _ => 0))) → h1[46]? = some (.inl (0, 144, .inl (fun _ => 0))) → h1[47]? = some (.inl (0, 144, .inl (fun _ => 0))) → h1[48]? = some (.inl (0, 64, .inl (fun _ => 0))) → zk_V p l e rm_M_init s m ar below meth c 2 D dA b base (MQ below (zk_Q K D dA b base) ar s rm_M_init.cells rm_M_init.slots (fun q : Nat => base ≤ q)) 10 544 86 [some (.ref (38 + 1)), none] [] h1 := by
    intro h1 hl hp ho a0 a1 a2 a3 a4 a5 a6 a7 a8 a9
    refine zr_aload_n C d_M_init_86 (n := 87) rfl rfl ?_
    refine zr_bipush C d_M_init_87 (n := 89) rfl (v := nI 14) (by decide) ?_
    refine zr_newi C zk_ci d_M_init_89 (n := 91) rfl (len := 14) (by decide) (by decide) (by decide) 49 hl (by decide) (by decide) ?_
    refine zr_putF C f_M_41 Y_M rfl rfl rfl rfl d_M_init_91 (n := 94) rfl (zk_ap ho) (Nat.le_of_ble_eq_true rfl) (fun _ _ => rfl) (fun _ _ => rfl) ?_
    exact J11 _ (by simp [hl]) (fun j hj => ((zk_gs (by omega)).trans (zk_al hl (by omega))).trans (hp j hj)) (zk_g0 (zk_ap ho)) (zk_g1 (by omega) (zk_ap a0)) (zk_g1 (by omega) (zk_ap a1)) (zk_g1 (by omega) (zk_ap a2)) (zk_g1 (by omega) (zk_ap a3)) (zk_g1 (by omega) (zk_ap a4)) (zk_g1 (by omega) (zk_ap a5)) (zk_g1 (by omega) (zk_ap a6)) (zk_g1 (by omega) (zk_ap a7)) (zk_g1 (by omega) (zk_ap a8)) (zk_g1 (by omega) (zk_ap a9)) (zk_g1 (by omega) (zk_aq hl))
  have J9 : ∀ (h1 : zk_H), h1.length = 48 → (∀ j, j < 38 → h1[j]? = h[j]?) → h1[38]? = some (.inr (4, [.ref 40, .ref 41, .ref 42, .ref 43, .ref 44, .ref 45, .ref 46, .ref 47, .ref 48, .int (nI 0), .null, .null, .null])) → h1[39]? = some (.inl (2, 12, .inl (fun _ => 0))) → h1[40]? = some (.inl (0, 12, .inl (fun _ => 0))) → h1[41]? = some (.inl (0, 12, .inl (fun _ => 0))) → h1[42]? = some (.inl (0, 12, .inl (fun _ => 0))) → h1[43]? = some (.inl (0, 48, .inl (fun _ => 0))) → h1[44]? = some (.inl (0, 48, .inl (fun _ => 0))) → h1[45]? = some (.inl (0, 48, .inl (fun _ => 0))) → h1[46]? = some (.inl (0, 144, .inl (fun _ => 0))) → h1[47]? = some (.inl (0, 144, .inl (fun _ => 0))) → zk_V p l e rm_M_init s m ar below meth c 2 D dA b base (MQ below (zk_Q K D dA b base) ar s rm_M_init.cells rm_M_init.slots (fun q : Nat => base ≤ q)) 9 480 78 [some (.ref (38 + 1)), none] [] h1 := by
    intro h1 hl hp ho a0 a1 a2 a3 a4 a5 a6 a7 a8
    refine zr_aload_n C d_M_init_78 (n := 79) rfl rfl ?_
    refine zr_bipush C d_M_init_79 (n := 81) rfl (v := nI 64) (by decide) ?_
    refine zr_newi C zk_ci d_M_init_81 (n := 83) rfl (len := 64) (by decide) (by decide) (by decide) 48 hl (by decide) (by decide) ?_
    refine zr_putF C f_M_38 Y_M rfl rfl rfl rfl d_M_init_83 (n := 86) rfl (zk_ap ho) (Nat.le_of_ble_eq_true rfl) (fun _ _ => rfl) (fun _ _ => rfl) ?_
    exact J10 _ (by simp [hl]) (fun j hj => ((zk_gs (by omega)).trans (zk_al hl (by omega))).trans (hp j hj)) (zk_g0 (zk_ap ho)) (zk_g1 (by omega) (zk_ap a0)) (zk_g1 (by omega) (zk_ap a1)) (zk_g1 (by omega) (zk_ap a2)) (zk_g1 (by omega) (zk_ap a3)) (zk_g1 (by omega) (zk_ap a4)) (zk_g1 (by omega) (zk_ap a5)) (zk_g1 (by omega) (zk_ap a6)) (zk_g1 (by omega) (zk_ap a7)) (zk_g1 (by omega) (zk_ap a8)) (zk_g1 (by omega) (zk_aq hl))
  have J8 : ∀ (h1 : zk_H), h1.length = 47 → (∀ j, j < 38 → h1[j]? = h[j]?) → h1[38]? = some (.inr (4, [.ref 40, .ref 41, .ref 42, .ref 43, .ref 44, .ref 45, .ref 46, .ref 47, .null, .int (nI 0), .null, .null, .null])) → h1[39]? = some (.inl (2, 12, .inl (fun _ => 0))) → h1[40]? = some (.inl (0, 12, .inl (fun _ => 0))) → h1[41]? = some (.inl (0, 12, .inl (fun _ => 0))) → h1[42]? = some (.inl (0, 12, .inl (fun _ => 0))) → h1[43]? = some (.inl (0, 48, .inl (fun _ => 0))) → h1[44]? = some (.inl (0, 48, .inl (fun _ => 0))) → h1[45]? = some (.inl (0, 48, .inl (fun _ => 0))) → h1[46]? = some (.inl (0, 144, .inl (fun _ => 0))) → zk_V p l e rm_M_init s m ar below meth c 2 D dA b base (MQ below (zk_Q K D dA b base) ar s rm_M_init.cells rm_M_init.slots (fun q : Nat => base ≤ q)) 8 336 69 [some (.ref (38 + 1)), none] [] h1 := by
    intro h1 hl hp ho a0 a1 a2 a3 a4 a5 a6 a7
    refine zr_aload_n C d_M_init_69 (n := 70) rfl rfl ?_
    refine zr_sipush C d_M_init_70 (n := 73) rfl (v := nI 144) (by decide) ?_
    refine zr_newi C zk_ci d_M_init_73 (n := 75) rfl (len := 144) (by decide) (by decide) (by decide) 47 hl (by decide) (by decide) ?_
    refine zr_putF C f_M_35 Y_M rfl rfl rfl rfl d_M_init_75 (n := 78) rfl (zk_ap ho) (Nat.le_of_ble_eq_true rfl) (fun _ _ => rfl) (fun _ _ => rfl) ?_
    exact J9 _ (by simp [hl]) (fun j hj => ((zk_gs (by omega)).trans (zk_al hl (by omega))).trans (hp j hj)) (zk_g0 (zk_ap ho)) (zk_g1 (by omega) (zk_ap a0)) (zk_g1 (by omega) (zk_ap a1)) (zk_g1 (by omega) (zk_ap a2)) (zk_g1 (by omega) (zk_ap a3)) (zk_g1 (by omega) (zk_ap a4)) (zk_g1 (by omega) (zk_ap a5)) (zk_g1 (by omega) (zk_ap a6)) (zk_g1 (by omega) (zk_ap a7)) (zk_g1 (by omega) (zk_aq hl))
  have J7 : ∀ (h1 : zk_H), h1.length = 46 → (∀ j, j < 38 → h1[j]? = h[j]?) → h1[38]? = some (.inr (4, [.ref 40, .ref 41, .ref 42, .ref 43, .ref 44, .ref 45, .ref 46, .null, .null, .int (nI 0), .null, .null, .null])) → h1[39]? = some (.inl (2, 12, .inl (fun _ => 0))) → h1[40]? = some (.inl (0, 12, .inl (fun _ => 0))) → h1[41]? = some (.inl (0, 12, .inl (fun _ => 0))) → h1[42]? = some (.inl (0, 12, .inl (fun _ => 0))) → h1[43]? = some (.inl (0, 48, .inl (fun _ => 0))) → h1[44]? = some (.inl (0, 48, .inl (fun _ => 0))) → h1[45]? = some (.inl (0, 48, .inl (fun _ => 0))) → zk_V p l e rm_M_init s m ar below meth c 2 D dA b base (MQ below (zk_Q K D dA b base) ar s rm_M_init.cells rm_M_init.slots (fun q : Nat => base ≤ q)) 7 192 60 [some (.ref (38 + 1)), none] [] h1 := by
    intro h1 hl hp ho a0 a1 a2 a3 a4 a5 a6
    refine zr_aload_n C d_M_init_60 (n := 61) rfl rfl ?_
    refine zr_sipush C d_M_init_61 (n := 64) rfl (v := nI 144) (by decide) ?_
    refine zr_newi C zk_ci d_M_init_64 (n := 66) rfl (len := 144) (by decide) (by decide) (by decide) 46 hl (by decide) (by decide) ?_
    refine zr_putF C f_M_32 Y_M rfl rfl rfl rfl d_M_init_66 (n := 69) rfl (zk_ap ho) (Nat.le_of_ble_eq_true rfl) (fun _ _ => rfl) (fun _ _ => rfl) ?_
    exact J8 _ (by simp [hl]) (fun j hj => ((zk_gs (by omega)).trans (zk_al hl (by omega))).trans (hp j hj)) (zk_g0 (zk_ap ho)) (zk_g1 (by omega) (zk_ap a0)) (zk_g1 (by omega) (zk_ap a1)) (zk_g1 (by omega) (zk_ap a2)) (zk_g1 (by omega) (zk_ap a3)) (zk_g1 (by omega) (zk_ap a4)) (zk_g1 (by omega) (zk_ap a5)) (zk_g1 (by omega) (zk_ap a6)) (zk_g1 (by omega) (zk_aq hl))
  have J6 : ∀ (h1 : zk_H), h1.length = 45 → (∀ j, j < 38 → h1[j]? = h[j]?) → h1[38]? = some (.inr (4, [.ref 40, .ref 41, .ref 42, .ref 43, .ref 44, .ref 45, .null, .null, .null, .int (nI 0), .null, .null, .null])) → h1[39]? = some (.inl (2, 12, .inl (fun _ => 0))) → h1[40]? = some (.inl (0, 12, .inl (fun _ => 0))) → h1[41]? = some (.inl (0, 12, .inl (fun _ => 0))) → h1[42]? = some (.inl (0, 12, .inl (fun _ => 0))) → h1[43]? = some (.inl (0, 48, .inl (fun _ => 0))) → h1[44]? = some (.inl (0, 48, .inl (fun _ => 0))) → zk_V p l e rm_M_init s m ar below meth c 2 D dA b base (MQ below (zk_Q K D dA b base) ar s rm_M_init.cells rm_M_init.slots (fun q : Nat => base ≤ q)) 6 144 52 [some (.ref (38 + 1)), none] [] h1 := by
    intro h1 hl hp ho a0 a1 a2 a3 a4 a5
    refine zr_aload_n C d_M_init_52 (n := 53) rfl rfl ?_
    refine zr_bipush C d_M_init_53 (n := 55) rfl (v := nI 48) (by decide) ?_
    refine zr_newi C zk_ci d_M_init_55 (n := 57) rfl (len := 48) (by decide) (by decide) (by decide) 45 hl (by decide) (by decide) ?_
    refine zr_putF C f_M_29 Y_M rfl rfl rfl rfl d_M_init_57 (n := 60) rfl (zk_ap ho) (Nat.le_of_ble_eq_true rfl) (fun _ _ => rfl) (fun _ _ => rfl) ?_
    exact J7 _ (by simp [hl]) (fun j hj => ((zk_gs (by omega)).trans (zk_al hl (by omega))).trans (hp j hj)) (zk_g0 (zk_ap ho)) (zk_g1 (by omega) (zk_ap a0)) (zk_g1 (by omega) (zk_ap a1)) (zk_g1 (by omega) (zk_ap a2)) (zk_g1 (by omega) (zk_ap a3)) (zk_g1 (by omega) (zk_ap a4)) (zk_g1 (by omega) (zk_ap a5)) (zk_g1 (by omega) (zk_aq hl))
  have J5 : ∀ (h1 : zk_H), h1.length = 44 → (∀ j, j < 38 → h1[j]? = h[j]?) → h1[38]? = some (.inr (4, [.ref 40, .ref 41, .ref 42, .ref 43, .ref 44, .null, .null, .null, .null, .int (nI 0), .null, .null, .null])) → h1[39]? = some (.inl (2, 12, .inl (fun _ => 0))) → h1[40]? = some (.inl (0, 12, .inl (fun _ => 0))) → h1[41]? = some (.inl (0, 12, .inl (fun _ => 0))) → h1[42]? = some (.inl (0, 12, .inl (fun _ => 0))) → h1[43]? = some (.inl (0, 48, .inl (fun _ => 0))) → zk_V p l e rm_M_init s m ar below meth c 2 D dA b base (MQ below (zk_Q K D dA b base) ar s rm_M_init.cells rm_M_init.slots (fun q : Nat => base ≤ q)) 5 96 44 [some (.ref (38 + 1)), none] [] h1 := by
    intro h1 hl hp ho a0 a1 a2 a3 a4
    refine zr_aload_n C d_M_init_44 (n := 45) rfl rfl ?_
    refine zr_bipush C d_M_init_45 (n := 47) rfl (v := nI 48) (by decide) ?_
    refine zr_newi C zk_ci d_M_init_47 (n := 49) rfl (len := 48) (by decide) (by decide) (by decide) 44 hl (by decide) (by decide) ?_
    refine zr_putF C f_M_26 Y_M rfl rfl rfl rfl d_M_init_49 (n := 52) rfl (zk_ap ho) (Nat.le_of_ble_eq_true rfl) (fun _ _ => rfl) (fun _ _ => rfl) ?_
    exact J6 _ (by simp [hl]) (fun j hj => ((zk_gs (by omega)).trans (zk_al hl (by omega))).trans (hp j hj)) (zk_g0 (zk_ap ho)) (zk_g1 (by omega) (zk_ap a0)) (zk_g1 (by omega) (zk_ap a1)) (zk_g1 (by omega) (zk_ap a2)) (zk_g1 (by omega) (zk_ap a3)) (zk_g1 (by omega) (zk_ap a4)) (zk_g1 (by omega) (zk_aq hl))
  have J4 : ∀ (h1 : zk_H), h1.length = 43 → (∀ j, j < 38 → h1[j]? = h[j]?) → h1[38]? = some (.inr (4, [.ref 40, .ref 41, .ref 42, .ref 43, .null, .null, .null, .null, .null, .int (nI 0), .null, .null, .null])) → h1[39]? = some (.inl (2, 12, .inl (fun _ => 0))) → h1[40]? = some (.inl (0, 12, .inl (fun _ => 0))) → h1[41]? = some (.inl (0, 12, .inl (fun _ => 0))) → h1[42]? = some (.inl (0, 12, .inl (fun _ => 0))) → zk_V p l e rm_M_init s m ar below meth c 2 D dA b base (MQ below (zk_Q K D dA b base) ar s rm_M_init.cells rm_M_init.slots (fun q : Nat => base ≤ q)) 4 48 36 [some (.ref (38 + 1)), none] [] h1 := by
    intro h1 hl hp ho a0 a1 a2 a3
    refine zr_aload_n C d_M_init_36 (n := 37) rfl rfl ?_
    refine zr_bipush C d_M_init_37 (n := 39) rfl (v := nI 48) (by decide) ?_
    refine zr_newi C zk_ci d_M_init_39 (n := 41) rfl (len := 48) (by decide) (by decide) (by decide) 43 hl (by decide) (by decide) ?_
    refine zr_putF C f_M_23 Y_M rfl rfl rfl rfl d_M_init_41 (n := 44) rfl (zk_ap ho) (Nat.le_of_ble_eq_true rfl) (fun _ _ => rfl) (fun _ _ => rfl) ?_
    exact J5 _ (by simp [hl]) (fun j hj => ((zk_gs (by omega)).trans (zk_al hl (by omega))).trans (hp j hj)) (zk_g0 (zk_ap ho)) (zk_g1 (by omega) (zk_ap a0)) (zk_g1 (by omega) (zk_ap a1)) (zk_g1 (by omega) (zk_ap a2)) (zk_g1 (by omega) (zk_ap a3)) (zk_g1 (by omega) (zk_aq hl))
  have J3 : ∀ (h1 : zk_H), h1.length = 42 → (∀ j, j < 38 → h1[j]? = h[j]?) → h1[38]? = some (.inr (4, [.ref 40, .ref 41, .ref 42, .null, .null, .null, .null, .null, .null, .int (nI 0), .null, .null, .null])) → h1[39]? = some (.inl (2, 12, .inl (fun _ => 0))) → h1[40]? = some (.inl (0, 12, .inl (fun _ => 0))) → h1[41]? = some (.inl (0, 12, .inl (fun _ => 0))) → zk_V p l e rm_M_init s m ar below meth c 2 D dA b base (MQ below (zk_Q K D dA b base) ar s rm_M_init.cells rm_M_init.slots (fun q : Nat => base ≤ q)) 3 36 28 [some (.ref (38 + 1)), none] [] h1 := by
    intro h1 hl hp ho a0 a1 a2
    refine zr_aload_n C d_M_init_28 (n := 29) rfl rfl ?_
    refine zr_bipush C d_M_init_29 (n := 31) rfl (v := nI 12) (by decide) ?_
    refine zr_newi C zk_ci d_M_init_31 (n := 33) rfl (len := 12) (by decide) (by decide) (by decide) 42 hl (by decide) (by decide) ?_
    refine zr_putF C f_M_20 Y_M rfl rfl rfl rfl d_M_init_33 (n := 36) rfl (zk_ap ho) (Nat.le_of_ble_eq_true rfl) (fun _ _ => rfl) (fun _ _ => rfl) ?_
    exact J4 _ (by simp [hl]) (fun j hj => ((zk_gs (by omega)).trans (zk_al hl (by omega))).trans (hp j hj)) (zk_g0 (zk_ap ho)) (zk_g1 (by omega) (zk_ap a0)) (zk_g1 (by omega) (zk_ap a1)) (zk_g1 (by omega) (zk_ap a2)) (zk_g1 (by omega) (zk_aq hl))
  have J2 : ∀ (h1 : zk_H), h1.length = 41 → (∀ j, j < 38 → h1[j]? = h[j]?) → h1[38]? = some (.inr (4, [.ref 40, .ref 41, .null, .null, .null, .null, .null, .null, .null, .int (nI 0), .null, .null, .null])) → h1[39]? = some (.inl (2, 12, .inl (fun _ => 0))) → h1[40]? = some (.inl (0, 12, .inl (fun _ => 0))) → zk_V p l e rm_M_init s m ar below meth c 2 D dA b base (MQ below (zk_Q K D dA b base) ar s rm_M_init.cells rm_M_init.slots (fun q : Nat => base ≤ q)) 2 24 20 [some (.ref (38 + 1)), none] [] h1 := by
    intro h1 hl hp ho a0 a1
    refine zr_aload_n C d_M_init_20 (n := 21) rfl rfl ?_
    refine zr_bipush C d_M_init_21 (n := 23) rfl (v := nI 12) (by decide) ?_
    refine zr_newi C zk_ci d_M_init_23 (n := 25) rfl (len := 12) (by decide) (by decide) (by decide) 41 hl (by decide) (by decide) ?_
    refine zr_putF C f_M_17 Y_M rfl rfl rfl rfl d_M_init_25 (n := 28) rfl (zk_ap ho) (Nat.le_of_ble_eq_true rfl) (fun _ _ => rfl) (fun _ _ => rfl) ?_
    exact J3 _ (by simp [hl]) (fun j hj => ((zk_gs (by omega)).trans (zk_al hl (by omega))).trans (hp j hj)) (zk_g0 (zk_ap ho)) (zk_g1 (by omega) (zk_ap a0)) (zk_g1 (by omega) (zk_ap a1)) (zk_g1 (by omega) (zk_aq hl))
  have J1 : ∀ (h1 : zk_H), h1.length = 40 → (∀ j, j < 38 → h1[j]? = h[j]?) → h1[38]? = some (.inr (4, [.ref 40, .null, .null, .null, .null, .null, .null, .null, .null, .int (nI 0), .null, .null, .null])) → h1[39]? = some (.inl (2, 12, .inl (fun _ => 0))) → zk_V p l e rm_M_init s m ar below meth c 2 D dA b base (MQ below (zk_Q K D dA b base) ar s rm_M_init.cells rm_M_init.slots (fun q : Nat => base ≤ q)) 1 12 12 [some (.ref (38 + 1)), none] [] h1 := by
    intro h1 hl hp ho a0
    refine zr_aload_n C d_M_init_12 (n := 13) rfl rfl ?_
    refine zr_bipush C d_M_init_13 (n := 15) rfl (v := nI 12) (by decide) ?_
    refine zr_newi C zk_ci d_M_init_15 (n := 17) rfl (len := 12) (by decide) (by decide) (by decide) 40 hl (by decide) (by decide) ?_
    refine zr_putF C f_M_13 Y_M rfl rfl rfl rfl d_M_init_17 (n := 20) rfl (zk_ap ho) (Nat.le_of_ble_eq_true rfl) (fun _ _ => rfl) (fun _ _ => rfl) ?_
    exact J2 _ (by simp [hl]) (fun j hj => ((zk_gs (by omega)).trans (zk_al hl (by omega))).trans (hp j hj)) (zk_g0 (zk_ap ho)) (zk_g1 (by omega) (zk_ap a0)) (zk_g1 (by omega) (zk_aq hl))
  have J0 : ∀ (h1 : zk_H), h1.length = 39 → (∀ j, j < 38 → h1[j]? = h[j]?) → h1[38]? = some (.inr (4, [.null, .null, .null, .null, .null, .null, .null, .null, .null, .int (nI 0), .null, .null, .null])) → zk_V p l e rm_M_init s m ar below meth c 2 D dA b base (MQ below (zk_Q K D dA b base) ar s rm_M_init.cells rm_M_init.slots (fun q : Nat => base ≤ q)) 0 0 4 [some (.ref (38 + 1)), none] [] h1 := by
    intro h1 hl hp ho
    refine zr_aload_n C d_M_init_4 (n := 5) rfl rfl ?_
    refine zr_bipush C d_M_init_5 (n := 7) rfl (v := nI 12) (by decide) ?_
    refine zr_newz C zk_cz d_M_init_7 (n := 9) rfl (len := 12) (by decide) (by decide) (by decide) 39 hl (by decide) (by decide) ?_
    refine zr_putF C f_M_7 Y_M rfl rfl rfl rfl d_M_init_9 (n := 12) rfl (zk_ap ho) (Nat.le_of_ble_eq_true rfl) (fun _ _ => rfl) (fun _ _ => rfl) ?_
    exact J1 _ (by simp [hl]) (fun j hj => ((zk_gs (by omega)).trans (zk_al hl (by omega))).trans (hp j hj)) (zk_g0 (zk_ap ho)) (zk_g1 (by omega) (zk_aq hl))
  refine zr_aload_n C d_M_init_0 (n := 1) rfl rfl ?_
  refine zr_objInit C o_M_1 d_M_init_1 (n := 4) rfl (by decide) (by decide) ?_
  exact J0 h hn (fun _ _ => rfl) hob
