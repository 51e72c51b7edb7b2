theorem zm_cp {a : Nat} {f g : Nat → Int32} {i : Nat} (hi : i < a) (h : ∀ x, f x = if a ≤ x ∧ x < a + i then g (x - a) else g x) (x : Nat) : upd f (a + i) (f i) x = if a ≤ x ∧ x < a + (i + 1) then g (x - a) else g x := by
  by_cases q : x = a + i
  · rw [q, pk_us, if_pos (by omega), h i, if_neg (by omega), show a + i - a = i by omega]
  · rw [pk_un q, h x]
    by_cases r : a ≤ x ∧ x < a + i
    · rw [if_pos r, if_pos (by omega)]
    · rw [if_neg r, if_neg (by omega)]
theorem zm_cp0 {a : Nat} {g : Nat → Int32} (x : Nat) : g x = if a ≤ x ∧ x < a + 0 then g (x - a) else g x := by rw [if_neg (by omega)]
theorem zm_cpe {a : Nat} {f g : Nat → Int32} (h : ∀ x, f x = if a ≤ x ∧ x < a + a then g (x - a) else g x) (j : Nat) (hj : j < a) : f j = g j ∧ f (a + j) = g j := by
  refine ⟨?_, ?_⟩
  · rw [h j, if_neg (by omega)]
  · rw [h (a + j), if_pos (by omega), show a + j - a = j by omega]
theorem zk_vn (c : Bool) : vp_nar .boolean (zk_b c) = zk_b c := by cases c <;> decide
abbrev rm_M_copy : Room := { frames := 0, cells := 0, slots := 0, locals := 0 }
set_option maxHeartbeats 4000000 in
set_option maxRecDepth 100000 in
/-- copy -/
theorem sp_M_copy (l : Launch) {h : zk_H} {V : Nat → zo_O} {S : zo_O} {us : Nat} {uk ut un : Nat → Nat} {ua : Nat → Int32} (hM : zm_at h S us) (hJ : zm_J V S us uk ut un ua) {K : Option Value → zk_H → Prop} (hK : ∀ (h' : zk_H) (S' : zo_O), zm_at h' S' us → zm_fr h h' → zm_J (zc_up V 1 (zc_cp (V 1) (V 0))) S' us uk ut un ua → K (some (.int (nI 0))) h') : zk_S l y_M_copy b_M_copy 2 (some .int) rm_M_copy [.ref (38 + 1)] h K := by
  obtain ⟨hm, s0, s1, s2, s3, s4, s5, s6, s7, s8, s9, s10, s11⟩ := id hM
  obtain ⟨hR, hok, hex, hu, hus, hS9⟩ := id hJ
  refine zk_S_of R_M "copy" (by decide) rfl rfl [some (.ref (38 + 1)), none] 1 rfl (Nat.le_of_ble_eq_true rfl) (fun p e s m ar below meth c D dA b base C => ?_)
  have L3 : ∀ (n i : Nat) (h1 : zk_H) (S1 : zo_O), zm_at h1 S1 us → zm_fr h h1 → n + i = 72 → (∀ x, S1 0 x = if 6 ≤ x ∧ x < 6 + 6 then S 0 (x - 6) else S 0 x) → (∀ x, S1 1 x = if 6 ≤ x ∧ x < 6 + 6 then S 1 (x - 6) else S 1 x) → (∀ x, S1 2 x = if 6 ≤ x ∧ x < 6 + 6 then S 2 (x - 6) else S 2 x) → (∀ x, S1 3 x = if 6 ≤ x ∧ x < 6 + 6 then S 3 (x - 6) else S 3 x) → (∀ x, S1 4 x = if 24 ≤ x ∧ x < 24 + 24 then S 4 (x - 24) else S 4 x) → (∀ x, S1 5 x = if 24 ≤ x ∧ x < 24 + 24 then S 5 (x - 24) else S 5 x) → (∀ x, S1 6 x = if 24 ≤ x ∧ x < 24 + 24 then S 6 (x - 24) else S 6 x) → (∀ x, S1 7 x = if 72 ≤ x ∧ x < 72 + i then S 7 (x - 72) else S 7 x) → (∀ x, S1 8 x = if 72 ≤ x ∧ x < 72 + i then S 8 (x - 72) else S 8 x) → S1 9 = S 9 → zk_V p l e rm_M_copy s m ar below meth c 2 D dA b base (MQ below (zk_Q K D dA b base) ar s rm_M_copy.cells rm_M_copy.slots (fun q : Nat => base ≤ q)) 0 0 135 [some (.ref (38 + 1)), some (.int (nI i))] [] h1 := by
    intro n
    induction n with
    | zero =>
      intro i h1 S1 hM1 fr1 hi f0 f1 f2 f3 f4 f5 f6 f7 f8 f9
      obtain ⟨hm, s0, s1, s2, s3, s4, s5, s6, s7, s8, s9, s10, s11⟩ := id hM1
      refine zr_iload_n C d_M_copy_135 (n := 136) rfl rfl ?_
      refine zr_bipush C d_M_copy_136 (n := 138) rfl (v := nI 72) (by decide) ?_
      refine zr_icmp_ge C d_M_copy_138 (n := 141) rfl (t := 177) (by decide) (fun c1 => ?_) (fun c1 => ?_)
      · refine zr_iconst C d_M_copy_177 (n := 178) rfl (v := nI 0) (by decide) ?_
        have i72 : i = 72 := by omega
        subst i72
        refine zr_iret C d_M_copy_178 rfl (hK h1 S1 hM1 fr1 (zm_J_copy hJ (fun k hk j hj => ?_) (fun k h4 hk j hj => ?_) (fun k h7 hk j hj => ?_) f9)) (Nat.zero_le _) (Nat.zero_le _)
        · rcases (show k = 0 ∨ k = 1 ∨ k = 2 ∨ k = 3 by omega) with rfl | rfl | rfl | rfl
          · exact zm_cpe f0 j hj
          · exact zm_cpe f1 j hj
          · exact zm_cpe f2 j hj
          · exact zm_cpe f3 j hj
        · rcases (show k = 4 ∨ k = 5 ∨ k = 6 by omega) with rfl | rfl | rfl
          · exact zm_cpe f4 j hj
          · exact zm_cpe f5 j hj
          · exact zm_cpe f6 j hj
        · rcases (show k = 7 ∨ k = 8 by omega) with rfl | rfl
          · exact zm_cpe f7 j hj
          · exact zm_cpe f8 j hj
      · exact absurd (zk_nle (by omega) (by omega) c1) (by omega)
    | succ n ih =>
      intro i h1 S1 hM1 fr1 hi f0 f1 f2 f3 f4 f5 f6 f7 f8 f9
      obtain ⟨hm, s0, s1, s2, s3, s4, s5, s6, s7, s8, s9, s10, s11⟩ := id hM1
      refine zr_iload_n C d_M_copy_135 (n := 136) rfl rfl ?_
      refine zr_bipush C d_M_copy_136 (n := 138) rfl (v := nI 72) (by decide) ?_
      refine zr_icmp_ge C d_M_copy_138 (n := 141) rfl (t := 177) (by decide) (fun c1 => ?_) (fun c1 => ?_)
      · exact absurd (zk_le (by omega) (by omega) c1) (by omega)
      · refine zr_aload_n C d_M_copy_141 (n := 142) rfl rfl ?_
        refine zr_get C f_M_32 d_M_copy_142 (n := 145) rfl hm rfl ?_
        refine zr_bipush C d_M_copy_145 (n := 147) rfl (v := nI 72) (by decide) ?_
        refine zr_iload_n C d_M_copy_147 (n := 148) rfl rfl ?_
        refine zr_iadd C d_M_copy_148 (n := 149) rfl ?_
        refine zr_toe (by simp only [pk_mul, nI_add]; rfl) ?_
        refine zr_aload_n C d_M_copy_149 (n := 150) rfl rfl ?_
        refine zr_get C f_M_32 d_M_copy_150 (n := 153) rfl hm rfl ?_
        refine zr_iload_n C d_M_copy_153 (n := 154) rfl rfl ?_
        refine zr_ialdN C d_M_copy_154 (n := 155) rfl s7 rfl (by omega) (by decide) ?_
        refine zr_iastN C d_M_copy_155 (n := 156) rfl s7 rfl (by omega) (by decide) ?_
        refine zr_aload_n C d_M_copy_156 (n := 157) rfl rfl ?_
        refine zr_get C f_M_35 d_M_copy_157 (n := 160) rfl (zk_g1 (by omega) hm) rfl ?_
        refine zr_bipush C d_M_copy_160 (n := 162) rfl (v := nI 72) (by decide) ?_
        refine zr_iload_n C d_M_copy_162 (n := 163) rfl rfl ?_
        refine zr_iadd C d_M_copy_163 (n := 164) rfl ?_
        refine zr_toe (by simp only [pk_mul, nI_add]; rfl) ?_
        refine zr_aload_n C d_M_copy_164 (n := 165) rfl rfl ?_
        refine zr_get C f_M_35 d_M_copy_165 (n := 168) rfl (zk_g1 (by omega) hm) rfl ?_
        refine zr_iload_n C d_M_copy_168 (n := 169) rfl rfl ?_
        refine zr_ialdN C d_M_copy_169 (n := 170) rfl (zk_g1 (by omega) s8) rfl (by omega) (by decide) ?_
        refine zr_iastN C d_M_copy_170 (n := 171) rfl (zk_g1 (by omega) s8) rfl (by omega) (by decide) ?_
        refine zr_iinc C d_M_copy_171 (n := 174) rfl rfl (w := 1) (by decide) (nI_1 i) (by decide) rfl ?_
        refine zr_goto C d_M_copy_174 (t := 135) (by decide) ?_
        exact ih (i + 1) _ (zm_u (zm_u S1 7 (upd (S1 7) (72 + i) (S1 7 i))) 8 (upd (S1 8) (72 + i) (S1 8 i))) (zm_at_8 (zm_at_7 hM1)) (zm_fr_s (by omega) (zm_fr_s (by omega) fr1)) (by omega) f0 f1 f2 f3 f4 f5 f6 (fun x => zm_cp (f := S1 7) (by omega) f7 x) (fun x => zm_cp (f := S1 8) (by omega) f8 x) f9
  have L2 : ∀ (n i : Nat) (h1 : zk_H) (S1 : zo_O), zm_at h1 S1 us → zm_fr h h1 → n + i = 24 → (∀ x, S1 0 x = if 6 ≤ x ∧ x < 6 + 6 then S 0 (x - 6) else S 0 x) → (∀ x, S1 1 x = if 6 ≤ x ∧ x < 6 + 6 then S 1 (x - 6) else S 1 x) → (∀ x, S1 2 x = if 6 ≤ x ∧ x < 6 + 6 then S 2 (x - 6) else S 2 x) → (∀ x, S1 3 x = if 6 ≤ x ∧ x < 6 + 6 then S 3 (x - 6) else S 3 x) → (∀ x, S1 4 x = if 24 ≤ x ∧ x < 24 + i then S 4 (x - 24) else S 4 x) → (∀ x, S1 5 x = if 24 ≤ x ∧ x < 24 + i then S 5 (x - 24) else S 5 x) → (∀ x, S1 6 x = if 24 ≤ x ∧ x < 24 + i then S 6 (x - 24) else S 6 x) → S1 7 = S 7 → S1 8 = S 8 → S1 9 = S 9 → zk_V p l e rm_M_copy s m ar below meth c 2 D dA b base (MQ below (zk_Q K D dA b base) ar s rm_M_copy.cells rm_M_copy.slots (fun q : Nat => base ≤ q)) 0 0 76 [some (.ref (38 + 1)), some (.int (nI i))] [] h1 := by
    intro n
    induction n with
    | zero =>
      intro i h1 S1 hM1 fr1 hi f0 f1 f2 f3 f4 f5 f6 f7 f8 f9
      obtain ⟨hm, s0, s1, s2, s3, s4, s5, s6, s7, s8, s9, s10, s11⟩ := id hM1
      refine zr_iload_n C d_M_copy_76 (n := 77) rfl rfl ?_
      refine zr_bipush C d_M_copy_77 (n := 79) rfl (v := nI 24) (by decide) ?_
      refine zr_icmp_ge C d_M_copy_79 (n := 82) rfl (t := 133) (by decide) (fun c1 => ?_) (fun c1 => ?_)
      · refine zr_iconst C d_M_copy_133 (n := 134) rfl (v := nI 0) (by decide) ?_
        refine zr_istore_n C d_M_copy_134 (n := 135) rfl (by decide) rfl ?_
        have i24 : i = 24 := by omega
        subst i24
        exact L3 72 0 h1 S1 hM1 fr1 rfl f0 f1 f2 f3 f4 f5 f6 (fun x => by rw [f7]; exact zm_cp0 x) (fun x => by rw [f8]; exact zm_cp0 x) f9
      · exact absurd (zk_nle (by omega) (by omega) c1) (by omega)
    | succ n ih =>
      intro i h1 S1 hM1 fr1 hi f0 f1 f2 f3 f4 f5 f6 f7 f8 f9
      obtain ⟨hm, s0, s1, s2, s3, s4, s5, s6, s7, s8, s9, s10, s11⟩ := id hM1
      refine zr_iload_n C d_M_copy_76 (n := 77) rfl rfl ?_
      refine zr_bipush C d_M_copy_77 (n := 79) rfl (v := nI 24) (by decide) ?_
      refine zr_icmp_ge C d_M_copy_79 (n := 82) rfl (t := 133) (by decide) (fun c1 => ?_) (fun c1 => ?_)
      · exact absurd (zk_le (by omega) (by omega) c1) (by omega)
      · refine zr_aload_n C d_M_copy_82 (n := 83) rfl rfl ?_
        refine zr_get C f_M_23 d_M_copy_83 (n := 86) rfl hm rfl ?_
        refine zr_bipush C d_M_copy_86 (n := 88) rfl (v := nI 24) (by decide) ?_
        refine zr_iload_n C d_M_copy_88 (n := 89) rfl rfl ?_
        refine zr_iadd C d_M_copy_89 (n := 90) rfl ?_
        refine zr_toe (by simp only [pk_mul, nI_add]; rfl) ?_
        refine zr_aload_n C d_M_copy_90 (n := 91) rfl rfl ?_
        refine zr_get C f_M_23 d_M_copy_91 (n := 94) rfl hm rfl ?_
        refine zr_iload_n C d_M_copy_94 (n := 95) rfl rfl ?_
        refine zr_ialdN C d_M_copy_95 (n := 96) rfl s4 rfl (by omega) (by decide) ?_
        refine zr_iastN C d_M_copy_96 (n := 97) rfl s4 rfl (by omega) (by decide) ?_
        refine zr_aload_n C d_M_copy_97 (n := 98) rfl rfl ?_
        refine zr_get C f_M_26 d_M_copy_98 (n := 101) rfl (zk_g1 (by omega) hm) rfl ?_
        refine zr_bipush C d_M_copy_101 (n := 103) rfl (v := nI 24) (by decide) ?_
        refine zr_iload_n C d_M_copy_103 (n := 104) rfl rfl ?_
        refine zr_iadd C d_M_copy_104 (n := 105) rfl ?_
        refine zr_toe (by simp only [pk_mul, nI_add]; rfl) ?_
        refine zr_aload_n C d_M_copy_105 (n := 106) rfl rfl ?_
        refine zr_get C f_M_26 d_M_copy_106 (n := 109) rfl (zk_g1 (by omega) hm) rfl ?_
        refine zr_iload_n C d_M_copy_109 (n := 110) rfl rfl ?_
        refine zr_ialdN C d_M_copy_110 (n := 111) rfl (zk_g1 (by omega) s5) rfl (by omega) (by decide) ?_
        refine zr_iastN C d_M_copy_111 (n := 112) rfl (zk_g1 (by omega) s5) rfl (by omega) (by decide) ?_
        refine zr_aload_n C d_M_copy_112 (n := 113) rfl rfl ?_
        refine zr_get C f_M_29 d_M_copy_113 (n := 116) rfl (zk_g1 (by omega) (zk_g1 (by omega) hm)) rfl ?_
        refine zr_bipush C d_M_copy_116 (n := 118) rfl (v := nI 24) (by decide) ?_
        refine zr_iload_n C d_M_copy_118 (n := 119) rfl rfl ?_
        refine zr_iadd C d_M_copy_119 (n := 120) rfl ?_
        refine zr_toe (by simp only [pk_mul, nI_add]; rfl) ?_
        refine zr_aload_n C d_M_copy_120 (n := 121) rfl rfl ?_
        refine zr_get C f_M_29 d_M_copy_121 (n := 124) rfl (zk_g1 (by omega) (zk_g1 (by omega) hm)) rfl ?_
        refine zr_iload_n C d_M_copy_124 (n := 125) rfl rfl ?_
        refine zr_ialdN C d_M_copy_125 (n := 126) rfl (zk_g1 (by omega) (zk_g1 (by omega) s6)) rfl (by omega) (by decide) ?_
        refine zr_iastN C d_M_copy_126 (n := 127) rfl (zk_g1 (by omega) (zk_g1 (by omega) s6)) rfl (by omega) (by decide) ?_
        refine zr_iinc C d_M_copy_127 (n := 130) rfl rfl (w := 1) (by decide) (nI_1 i) (by decide) rfl ?_
        refine zr_goto C d_M_copy_130 (t := 76) (by decide) ?_
        exact ih (i + 1) _ (zm_u (zm_u (zm_u S1 4 (upd (S1 4) (24 + i) (S1 4 i))) 5 (upd (S1 5) (24 + i) (S1 5 i))) 6 (upd (S1 6) (24 + i) (S1 6 i))) (zm_at_6 (zm_at_5 (zm_at_4 hM1))) (zm_fr_s (by omega) (zm_fr_s (by omega) (zm_fr_s (by omega) fr1))) (by omega) f0 f1 f2 f3 (fun x => zm_cp (f := S1 4) (by omega) f4 x) (fun x => zm_cp (f := S1 5) (by omega) f5 x) (fun x => zm_cp (f := S1 6) (by omega) f6 x) f7 f8 f9
  have L1 : ∀ (n i : Nat) (h1 : zk_H) (S1 : zo_O), zm_at h1 S1 us → zm_fr h h1 → n + i = 6 → (∀ x, S1 0 x = if 6 ≤ x ∧ x < 6 + i then S 0 (x - 6) else S 0 x) → (∀ x, S1 1 x = if 6 ≤ x ∧ x < 6 + i then S 1 (x - 6) else S 1 x) → (∀ x, S1 2 x = if 6 ≤ x ∧ x < 6 + i then S 2 (x - 6) else S 2 x) → (∀ x, S1 3 x = if 6 ≤ x ∧ x < 6 + i then S 3 (x - 6) else S 3 x) → S1 4 = S 4 → S1 5 = S 5 → S1 6 = S 6 → S1 7 = S 7 → S1 8 = S 8 → S1 9 = S 9 → zk_V p l e rm_M_copy s m ar below meth c 2 D dA b base (MQ below (zk_Q K D dA b base) ar s rm_M_copy.cells rm_M_copy.slots (fun q : Nat => base ≤ q)) 0 0 2 [some (.ref (38 + 1)), some (.int (nI i))] [] h1 := by
    intro n
    induction n with
    | zero =>
      intro i h1 S1 hM1 fr1 hi f0 f1 f2 f3 f4 f5 f6 f7 f8 f9
      obtain ⟨hm, s0, s1, s2, s3, s4, s5, s6, s7, s8, s9, s10, s11⟩ := id hM1
      refine zr_iload_n C d_M_copy_2 (n := 3) rfl rfl ?_
      refine zr_bipush C d_M_copy_3 (n := 5) rfl (v := nI 6) (by decide) ?_
      refine zr_icmp_ge C d_M_copy_5 (n := 8) rfl (t := 74) (by decide) (fun c1 => ?_) (fun c1 => ?_)
      · refine zr_iconst C d_M_copy_74 (n := 75) rfl (v := nI 0) (by decide) ?_
        refine zr_istore_n C d_M_copy_75 (n := 76) rfl (by decide) rfl ?_
        have i6 : i = 6 := by omega
        subst i6
        exact L2 24 0 h1 S1 hM1 fr1 rfl f0 f1 f2 f3 (fun x => by rw [f4]; exact zm_cp0 x) (fun x => by rw [f5]; exact zm_cp0 x) (fun x => by rw [f6]; exact zm_cp0 x) f7 f8 f9
      · exact absurd (zk_nle (by omega) (by omega) c1) (by omega)
    | succ n ih =>
      intro i h1 S1 hM1 fr1 hi f0 f1 f2 f3 f4 f5 f6 f7 f8 f9
      obtain ⟨hm, s0, s1, s2, s3, s4, s5, s6, s7, s8, s9, s10, s11⟩ := id hM1
      refine zr_iload_n C d_M_copy_2 (n := 3) rfl rfl ?_
      refine zr_bipush C d_M_copy_3 (n := 5) rfl (v := nI 6) (by decide) ?_
      refine zr_icmp_ge C d_M_copy_5 (n := 8) rfl (t := 74) (by decide) (fun c1 => ?_) (fun c1 => ?_)
      · exact absurd (zk_le (by omega) (by omega) c1) (by omega)
      · have eb : S1 0 i = zk_b (zo_th (V 0) i) := by
          rw [f0 i, if_neg (by omega)]
          have := ((hR 0 (by decide)).1 i (by omega)).1
          rw [show 6 * 0 + i = i by omega] at this
          exact this
        refine zr_aload_n C d_M_copy_8 (n := 9) rfl rfl ?_
        refine zr_get C f_M_7 d_M_copy_9 (n := 12) rfl hm rfl ?_
        refine zr_bipush C d_M_copy_12 (n := 14) rfl (v := nI 6) (by decide) ?_
        refine zr_iload_n C d_M_copy_14 (n := 15) rfl rfl ?_
        refine zr_iadd C d_M_copy_15 (n := 16) rfl ?_
        refine zr_toe (by simp only [pk_mul, nI_add]; rfl) ?_
        refine zr_aload_n C d_M_copy_16 (n := 17) rfl rfl ?_
        refine zr_get C f_M_7 d_M_copy_17 (n := 20) rfl hm rfl ?_
        refine zr_iload_n C d_M_copy_20 (n := 21) rfl rfl ?_
        refine zr_zaldN C d_M_copy_21 (n := 22) rfl s0 rfl (by omega) (by decide) ?_
        refine zr_zastN C d_M_copy_22 (n := 23) rfl s0 rfl (by omega) (by decide) (by rw [eb]; exact zk_vn _) ?_
        refine zr_aload_n C d_M_copy_23 (n := 24) rfl rfl ?_
        refine zr_get C f_M_13 d_M_copy_24 (n := 27) rfl (zk_g1 (by omega) hm) rfl ?_
        refine zr_bipush C d_M_copy_27 (n := 29) rfl (v := nI 6) (by decide) ?_
        refine zr_iload_n C d_M_copy_29 (n := 30) rfl rfl ?_
        refine zr_iadd C d_M_copy_30 (n := 31) rfl ?_
        refine zr_toe (by simp only [pk_mul, nI_add]; rfl) ?_
        refine zr_aload_n C d_M_copy_31 (n := 32) rfl rfl ?_
        refine zr_get C f_M_13 d_M_copy_32 (n := 35) rfl (zk_g1 (by omega) hm) rfl ?_
        refine zr_iload_n C d_M_copy_35 (n := 36) rfl rfl ?_
        refine zr_ialdN C d_M_copy_36 (n := 37) rfl (zk_g1 (by omega) s1) rfl (by omega) (by decide) ?_
        refine zr_iastN C d_M_copy_37 (n := 38) rfl (zk_g1 (by omega) s1) rfl (by omega) (by decide) ?_
        refine zr_aload_n C d_M_copy_38 (n := 39) rfl rfl ?_
        refine zr_get C f_M_17 d_M_copy_39 (n := 42) rfl (zk_g1 (by omega) (zk_g1 (by omega) hm)) rfl ?_
        refine zr_bipush C d_M_copy_42 (n := 44) rfl (v := nI 6) (by decide) ?_
        refine zr_iload_n C d_M_copy_44 (n := 45) rfl rfl ?_
        refine zr_iadd C d_M_copy_45 (n := 46) rfl ?_
        refine zr_toe (by simp only [pk_mul, nI_add]; rfl) ?_
        refine zr_aload_n C d_M_copy_46 (n := 47) rfl rfl ?_
        refine zr_get C f_M_17 d_M_copy_47 (n := 50) rfl (zk_g1 (by omega) (zk_g1 (by omega) hm)) rfl ?_
        refine zr_iload_n C d_M_copy_50 (n := 51) rfl rfl ?_
        refine zr_ialdN C d_M_copy_51 (n := 52) rfl (zk_g1 (by omega) (zk_g1 (by omega) s2)) rfl (by omega) (by decide) ?_
        refine zr_iastN C d_M_copy_52 (n := 53) rfl (zk_g1 (by omega) (zk_g1 (by omega) s2)) rfl (by omega) (by decide) ?_
        refine zr_aload_n C d_M_copy_53 (n := 54) rfl rfl ?_
        refine zr_get C f_M_20 d_M_copy_54 (n := 57) rfl (zk_g1 (by omega) (zk_g1 (by omega) (zk_g1 (by omega) hm))) rfl ?_
        refine zr_bipush C d_M_copy_57 (n := 59) rfl (v := nI 6) (by decide) ?_
        refine zr_iload_n C d_M_copy_59 (n := 60) rfl rfl ?_
        refine zr_iadd C d_M_copy_60 (n := 61) rfl ?_
        refine zr_toe (by simp only [pk_mul, nI_add]; rfl) ?_
        refine zr_aload_n C d_M_copy_61 (n := 62) rfl rfl ?_
        refine zr_get C f_M_20 d_M_copy_62 (n := 65) rfl (zk_g1 (by omega) (zk_g1 (by omega) (zk_g1 (by omega) hm))) rfl ?_
        refine zr_iload_n C d_M_copy_65 (n := 66) rfl rfl ?_
        refine zr_ialdN C d_M_copy_66 (n := 67) rfl (zk_g1 (by omega) (zk_g1 (by omega) (zk_g1 (by omega) s3))) rfl (by omega) (by decide) ?_
        refine zr_iastN C d_M_copy_67 (n := 68) rfl (zk_g1 (by omega) (zk_g1 (by omega) (zk_g1 (by omega) s3))) rfl (by omega) (by decide) ?_
        refine zr_iinc C d_M_copy_68 (n := 71) rfl rfl (w := 1) (by decide) (nI_1 i) (by decide) rfl ?_
        refine zr_goto C d_M_copy_71 (t := 2) (by decide) ?_
        exact ih (i + 1) _ (zm_u (zm_u (zm_u (zm_u S1 0 (upd (S1 0) (6 + i) (S1 0 i))) 1 (upd (S1 1) (6 + i) (S1 1 i))) 2 (upd (S1 2) (6 + i) (S1 2 i))) 3 (upd (S1 3) (6 + i) (S1 3 i))) (zm_at_3 (zm_at_2 (zm_at_1 (zm_at_0 hM1)))) (zm_fr_s (by omega) (zm_fr_s (by omega) (zm_fr_s (by omega) (zm_fr_s (by omega) fr1)))) (by omega) (fun x => zm_cp (f := S1 0) (by omega) f0 x) (fun x => zm_cp (f := S1 1) (by omega) f1 x) (fun x => zm_cp (f := S1 2) (by omega) f2 x) (fun x => zm_cp (f := S1 3) (by omega) f3 x) f4 f5 f6 f7 f8 f9
  refine zr_iconst C d_M_copy_0 (n := 1) rfl (v := nI 0) (by decide) ?_
  refine zr_istore_n C d_M_copy_1 (n := 2) rfl (by decide) rfl ?_
  exact L1 6 0 h S hM zm_fr_r rfl zm_cp0 zm_cp0 zm_cp0 zm_cp0 rfl rfl rfl rfl rfl rfl
theorem zm_at_us {h : zk_H} {S : zo_O} {us n : Nat} (hM : zm_at h S us) : zm_at (h.set 38 (.inr (4, [.ref 40, .ref 41, .ref 42, .ref 43, .ref 44, .ref 45, .ref 46, .ref 47, .ref 48, .int (nI n), .ref 49, .ref 50, .ref 51]))) S n := by
  obtain ⟨hm, s0, s1, s2, s3, s4, s5, s6, s7, s8, s9, s10, s11⟩ := hM
  exact ⟨zk_g0 hm, zk_g1 (by omega) s0, zk_g1 (by omega) s1, zk_g1 (by omega) s2, zk_g1 (by omega) s3, zk_g1 (by omega) s4, zk_g1 (by omega) s5, zk_g1 (by omega) s6, zk_g1 (by omega) s7, zk_g1 (by omega) s8, zk_g1 (by omega) s9, zk_g1 (by omega) s10, zk_g1 (by omega) s11⟩
abbrev rm_M_use : Room := { frames := 1, cells := 0, slots := 0, locals := 22 }
set_option maxHeartbeats 4000000 in
set_option maxRecDepth 100000 in
/-- use -/
theorem sp_M_use (l : Launch) {h : zk_H} {V : Nat → zo_O} {S : zo_O} {us : Nat} {uk ut un : Nat → Nat} {ua : Nat → Int32} (hM : zm_at h S us) (hJ : zm_J V S us uk ut un ua) {x0 x1 x2 x3 : Int32} {K : Option Value → zk_H → Prop} (hK : ∀ (h' : zk_H) (S' : zo_O), zm_at h' S' (if zc_useB x0 x1 x2 x3 us = true then us + 1 else us) → zm_fr h h' → zm_J V S' (if zc_useB x0 x1 x2 x3 us = true then us + 1 else us) (zc_fn (zc_useB x0 x1 x2 x3 us) uk us (x0).toNatClampNeg) (zc_fn (zc_useB x0 x1 x2 x3 us) ut us (x1).toNatClampNeg) (zc_fn (zc_useB x0 x1 x2 x3 us) un us (x2).toNatClampNeg) (zc_fn (zc_useB x0 x1 x2 x3 us) ua us x3) → K (some (.int (zc_useR x0 x1 x2 x3 us))) h') : zk_S l y_M_use b_M_use 6 (some .int) rm_M_use [.ref (38 + 1), .int x0, .int x1, .int x2, .int x3] h K := by
  obtain ⟨hm, s0, s1, s2, s3, s4, s5, s6, s7, s8, s9, s10, s11⟩ := id hM
  obtain ⟨hR, hok, hex, hu, hus, hS9⟩ := id hJ
  refine zk_S_of R_M "use" (by decide) rfl rfl [some (.ref (38 + 1)), some (.int x0), some (.int x1), some (.int x2), some (.int x3), none] 1 rfl (Nat.le_of_ble_eq_true rfl) (fun p e s m ar below meth c D dA b base C => ?_)
  cases hb : zc_bl x0 (nI 7) with
  | false =>
    refine zr_iload_n C d_M_use_0 (n := 1) rfl rfl ?_
    refine zr_iconst C d_M_use_1 (n := 2) rfl (v := nI 2) (by decide) ?_
    refine zr_icmp_eq C d_M_use_2 (n := 5) rfl (t := 16) (by decide) (fun c1 => ?_) (fun c1 => ?_)
    · refine zr_iconst C d_M_use_16 (n := 17) rfl (v := nI 1) (by decide) ?_
      refine zr_goto C d_M_use_17 (t := 21) (by decide) ?_
      refine zr_istore C d_M_use_21 (n := 23) rfl (by decide) rfl ?_
      refine zr_iload_n C d_M_use_23 (n := 24) rfl rfl ?_
      refine zr_iconst C d_M_use_24 (n := 25) rfl (v := nI 0) (by decide) ?_
      refine zr_bipush C d_M_use_25 (n := 27) rfl (v := nI 6) (by decide) ?_
      refine zr_callS3 C k_M_47 d_M_use_27 (nx := 30) rfl ⟨by decide, by decide⟩ (Nat.le_of_ble_eq_true rfl) ⟨by decide, by decide⟩ (sp_M_in l ?_)
      refine zr_if_eq C d_M_use_30 (n := 33) rfl (t := 75) (by decide) (fun c2 => ?_) (fun c2 => ?_)
      · replace c2 := zk_bz c2
        rw [zc_in_6] at c2
        refine zr_iconst C d_M_use_75 (n := 76) rfl (v := -1) (by decide) ?_
        have e8 : zc_useC x0 x1 x2 x3 = false := by rw [zc_useC, c2]; rfl
        simp only [zc_useR_0 e8, zc_useB_0 e8, zc_fn_0, Bool.false_eq_true, if_false] at hK
        exact zr_iret C d_M_use_76 rfl (hK h S hM zm_fr_r hJ) (Nat.zero_le _) (Nat.zero_le _)
      · replace c2 := zk_bn c2
        rw [zc_in_6] at c2
        exact absurd (hb.symm.trans c2) (by decide)
    · refine zr_iload_n C d_M_use_5 (n := 6) rfl rfl ?_
      refine zr_iconst C d_M_use_6 (n := 7) rfl (v := nI 3) (by decide) ?_
      refine zr_icmp_eq C d_M_use_7 (n := 10) rfl (t := 16) (by decide) (fun c3 => ?_) (fun c3 => ?_)
      · refine zr_iconst C d_M_use_16 (n := 17) rfl (v := nI 1) (by decide) ?_
        refine zr_goto C d_M_use_17 (t := 21) (by decide) ?_
        refine zr_istore C d_M_use_21 (n := 23) rfl (by decide) rfl ?_
        refine zr_iload_n C d_M_use_23 (n := 24) rfl rfl ?_
        refine zr_iconst C d_M_use_24 (n := 25) rfl (v := nI 0) (by decide) ?_
        refine zr_bipush C d_M_use_25 (n := 27) rfl (v := nI 6) (by decide) ?_
        refine zr_callS3 C k_M_47 d_M_use_27 (nx := 30) rfl ⟨by decide, by decide⟩ (Nat.le_of_ble_eq_true rfl) ⟨by decide, by decide⟩ (sp_M_in l ?_)
        refine zr_if_eq C d_M_use_30 (n := 33) rfl (t := 75) (by decide) (fun c4 => ?_) (fun c4 => ?_)
        · replace c4 := zk_bz c4
          rw [zc_in_6] at c4
          refine zr_iconst C d_M_use_75 (n := 76) rfl (v := -1) (by decide) ?_
          have e8 : zc_useC x0 x1 x2 x3 = false := by rw [zc_useC, c4]; rfl
          simp only [zc_useR_0 e8, zc_useB_0 e8, zc_fn_0, Bool.false_eq_true, if_false] at hK
          exact zr_iret C d_M_use_76 rfl (hK h S hM zm_fr_r hJ) (Nat.zero_le _) (Nat.zero_le _)
        · replace c4 := zk_bn c4
          rw [zc_in_6] at c4
          exact absurd (hb.symm.trans c4) (by decide)
      · refine zr_iload_n C d_M_use_10 (n := 11) rfl rfl ?_
        refine zr_bipush C d_M_use_11 (n := 13) rfl (v := nI 6) (by decide) ?_
        refine zr_icmp_ne C d_M_use_13 (n := 16) rfl (t := 20) (by decide) (fun c5 => ?_) (fun c5 => ?_)
        · refine zr_iconst C d_M_use_20 (n := 21) rfl (v := nI 0) (by decide) ?_
          refine zr_istore C d_M_use_21 (n := 23) rfl (by decide) rfl ?_
          refine zr_iload_n C d_M_use_23 (n := 24) rfl rfl ?_
          refine zr_iconst C d_M_use_24 (n := 25) rfl (v := nI 0) (by decide) ?_
          refine zr_bipush C d_M_use_25 (n := 27) rfl (v := nI 6) (by decide) ?_
          refine zr_callS3 C k_M_47 d_M_use_27 (nx := 30) rfl ⟨by decide, by decide⟩ (Nat.le_of_ble_eq_true rfl) ⟨by decide, by decide⟩ (sp_M_in l ?_)
          refine zr_if_eq C d_M_use_30 (n := 33) rfl (t := 75) (by decide) (fun c6 => ?_) (fun c6 => ?_)
          · replace c6 := zk_bz c6
            rw [zc_in_6] at c6
            refine zr_iconst C d_M_use_75 (n := 76) rfl (v := -1) (by decide) ?_
            have e8 : zc_useC x0 x1 x2 x3 = false := by rw [zc_useC, c6]; rfl
            simp only [zc_useR_0 e8, zc_useB_0 e8, zc_fn_0, Bool.false_eq_true, if_false] at hK
            exact zr_iret C d_M_use_76 rfl (hK h S hM zm_fr_r hJ) (Nat.zero_le _) (Nat.zero_le _)
          · replace c6 := zk_bn c6
            rw [zc_in_6] at c6
            exact absurd (hb.symm.trans c6) (by decide)
        · refine zr_iconst C d_M_use_16 (n := 17) rfl (v := nI 1) (by decide) ?_
          refine zr_goto C d_M_use_17 (t := 21) (by decide) ?_
          refine zr_istore C d_M_use_21 (n := 23) rfl (by decide) rfl ?_
          refine zr_iload_n C d_M_use_23 (n := 24) rfl rfl ?_
          refine zr_iconst C d_M_use_24 (n := 25) rfl (v := nI 0) (by decide) ?_
          refine zr_bipush C d_M_use_25 (n := 27) rfl (v := nI 6) (by decide) ?_
          refine zr_callS3 C k_M_47 d_M_use_27 (nx := 30) rfl ⟨by decide, by decide⟩ (Nat.le_of_ble_eq_true rfl) ⟨by decide, by decide⟩ (sp_M_in l ?_)
          refine zr_if_eq C d_M_use_30 (n := 33) rfl (t := 75) (by decide) (fun c7 => ?_) (fun c7 => ?_)
          · replace c7 := zk_bz c7
            rw [zc_in_6] at c7
            refine zr_iconst C d_M_use_75 (n := 76) rfl (v := -1) (by decide) ?_
            have e8 : zc_useC x0 x1 x2 x3 = false := by rw [zc_useC, c7]; rfl
            simp only [zc_useR_0 e8, zc_useB_0 e8, zc_fn_0, Bool.false_eq_true, if_false] at hK
            exact zr_iret C d_M_use_76 rfl (hK h S hM zm_fr_r hJ) (Nat.zero_le _) (Nat.zero_le _)
          · replace c7 := zk_bn c7
            rw [zc_in_6] at c7
            exact absurd (hb.symm.trans c7) (by decide)
  | true =>
    obtain ⟨k, hk, rfl, qk⟩ := zc_bl_n hb (by decide)
    cases hm9 : zc_um k with
    | false =>
      refine zr_iload_n C d_M_use_0 (n := 1) rfl rfl ?_
      refine zr_iconst C d_M_use_1 (n := 2) rfl (v := nI 2) (by decide) ?_
      refine zr_icmp_eq C d_M_use_2 (n := 5) rfl (t := 16) (by decide) (fun c1 => ?_) (fun c1 => ?_)
      · replace c1 := zk_eq (by omega) (by omega) c1
        exact absurd (decide_eq_true (show k = 2 ∨ k = 3 ∨ k = 6 by omega)) (by rw [show decide (k = 2 ∨ k = 3 ∨ k = 6) = false from hm9]; decide)
      · replace c1 := zk_ne (by omega) (by omega) c1
        refine zr_iload_n C d_M_use_5 (n := 6) rfl rfl ?_
        refine zr_iconst C d_M_use_6 (n := 7) rfl (v := nI 3) (by decide) ?_
        refine zr_icmp_eq C d_M_use_7 (n := 10) rfl (t := 16) (by decide) (fun c2 => ?_) (fun c2 => ?_)
        · replace c2 := zk_eq (by omega) (by omega) c2
          exact absurd (decide_eq_true (show k = 2 ∨ k = 3 ∨ k = 6 by omega)) (by rw [show decide (k = 2 ∨ k = 3 ∨ k = 6) = false from hm9]; decide)
        · replace c2 := zk_ne (by omega) (by omega) c2
          refine zr_iload_n C d_M_use_10 (n := 11) rfl rfl ?_
          refine zr_bipush C d_M_use_11 (n := 13) rfl (v := nI 6) (by decide) ?_
          refine zr_icmp_ne C d_M_use_13 (n := 16) rfl (t := 20) (by decide) (fun c3 => ?_) (fun c3 => ?_)
          · replace c3 := zk_ne (by omega) (by omega) c3
            refine zr_iconst C d_M_use_20 (n := 21) rfl (v := nI 0) (by decide) ?_
            refine zr_istore C d_M_use_21 (n := 23) rfl (by decide) rfl ?_
            refine zr_iload_n C d_M_use_23 (n := 24) rfl rfl ?_
            refine zr_iconst C d_M_use_24 (n := 25) rfl (v := nI 0) (by decide) ?_
            refine zr_bipush C d_M_use_25 (n := 27) rfl (v := nI 6) (by decide) ?_
            refine zr_callS3 C k_M_47 d_M_use_27 (nx := 30) rfl ⟨by decide, by decide⟩ (Nat.le_of_ble_eq_true rfl) ⟨by decide, by decide⟩ (sp_M_in l ?_)
            refine zr_if_eq C d_M_use_30 (n := 33) rfl (t := 75) (by decide) (fun c4 => ?_) (fun c4 => ?_)
            · replace c4 := zk_bz c4
              rw [zc_in_6] at c4
              exact absurd (hb.symm.trans c4) (by decide)
            · replace c4 := zk_bn c4
              rw [zc_in_6] at c4
              refine zr_iload_n C d_M_use_33 (n := 34) rfl rfl ?_
              refine zr_iconst C d_M_use_34 (n := 35) rfl (v := nI 0) (by decide) ?_
              refine zr_iconst C d_M_use_35 (n := 36) rfl (v := nI 5) (by decide) ?_
              refine zr_callS3 C k_M_47 d_M_use_36 (nx := 39) rfl ⟨by decide, by decide⟩ (Nat.le_of_ble_eq_true rfl) ⟨by decide, by decide⟩ (sp_M_in l ?_)
              refine zr_if_eq C d_M_use_39 (n := 42) rfl (t := 75) (by decide) (fun c5 => ?_) (fun c5 => ?_)
              · replace c5 := zk_bz c5
                rw [zc_in_5] at c5
                refine zr_iconst C d_M_use_75 (n := 76) rfl (v := -1) (by decide) ?_
                have e8 : zc_useC (nI k) x1 x2 x3 = false := by simp [zc_useC, zc_nb, hb, qk, hm9, c5]
                simp only [zc_useR_0 e8, zc_useB_0 e8, zc_fn_0, Bool.false_eq_true, if_false] at hK
                exact zr_iret C d_M_use_76 rfl (hK h S hM zm_fr_r hJ) (Nat.zero_le _) (Nat.zero_le _)
              · replace c5 := zk_bn c5
                rw [zc_in_5] at c5
                obtain ⟨t, ht, rfl, qt⟩ := zc_bl_n c5 (by first | decide | omega)
                refine zr_iload_n C d_M_use_42 (n := 43) rfl rfl ?_
                refine zr_iconst C d_M_use_43 (n := 44) rfl (v := nI 0) (by decide) ?_
                refine zr_iload C d_M_use_44 (n := 46) rfl rfl ?_
                refine zr_if_eq C d_M_use_46 (n := 49) rfl (t := 53) (by decide) (fun c6 => ?_) (fun c6 => ?_)
                · refine zr_iconst C d_M_use_53 (n := 54) rfl (v := nI 3) (by decide) ?_
                  refine zr_callS3 C k_M_47 d_M_use_54 (nx := 57) rfl ⟨by decide, by decide⟩ (Nat.le_of_ble_eq_true rfl) ⟨by decide, by decide⟩ (sp_M_in l ?_)
                  refine zr_if_eq C d_M_use_57 (n := 60) rfl (t := 75) (by decide) (fun c7 => ?_) (fun c7 => ?_)
                  · replace c7 := zk_bz c7
                    rw [zc_in_3] at c7
                    refine zr_iconst C d_M_use_75 (n := 76) rfl (v := -1) (by decide) ?_
                    have e8 : zc_useC (nI k) (nI t) x2 x3 = false := by simp [zc_useC, zc_nb, hb, qk, hm9, c5, c7, qt]
                    simp only [zc_useR_0 e8, zc_useB_0 e8, zc_fn_0, Bool.false_eq_true, if_false] at hK
                    exact zr_iret C d_M_use_76 rfl (hK h S hM zm_fr_r hJ) (Nat.zero_le _) (Nat.zero_le _)
                  · replace c7 := zk_bn c7
                    rw [zc_in_3] at c7
                    obtain ⟨nm, hnm, rfl, qnm⟩ := zc_bl_n c7 (by first | decide | omega)
                    refine zr_iload C d_M_use_60 (n := 62) rfl rfl ?_
                    refine zr_if_eq C d_M_use_62 (n := 65) rfl (t := 77) (by decide) (fun c8 => ?_) (fun c8 => ?_)
                    · refine zr_aload_n C d_M_use_77 (n := 78) rfl rfl ?_
                      refine zr_get C f_M_59 d_M_use_78 (n := 81) rfl hm rfl ?_
                      refine zr_bipush C d_M_use_81 (n := 83) rfl (v := nI 16) (by decide) ?_
                      refine zr_icmp_ne C d_M_use_83 (n := 86) rfl (t := 89) (by decide) (fun c9 => ?_) (fun c9 => ?_)
                      · replace c9 := zk_ne (by omega) (by omega) c9
                        refine zr_aload_n C d_M_use_89 (n := 90) rfl rfl ?_
                        refine zr_get C f_M_38 d_M_use_90 (n := 93) rfl hm rfl ?_
                        refine zr_iconst C d_M_use_93 (n := 94) rfl (v := nI 4) (by decide) ?_
                        refine zr_aload_n C d_M_use_94 (n := 95) rfl rfl ?_
                        refine zr_get C f_M_59 d_M_use_95 (n := 98) rfl hm rfl ?_
                        refine zr_imul C d_M_use_98 (n := 99) rfl ?_
                        refine zr_toe (by simp only [pk_mul, nI_add]; rfl) ?_
                        refine zr_iload_n C d_M_use_99 (n := 100) rfl rfl ?_
                        refine zr_iastN C d_M_use_100 (n := 101) rfl s9 rfl (by omega) (by decide) ?_
                        refine zr_aload_n C d_M_use_101 (n := 102) rfl rfl ?_
                        refine zr_get C f_M_38 d_M_use_102 (n := 105) rfl (zk_g1 (by omega) hm) rfl ?_
                        refine zr_iconst C d_M_use_105 (n := 106) rfl (v := nI 4) (by decide) ?_
                        refine zr_aload_n C d_M_use_106 (n := 107) rfl rfl ?_
                        refine zr_get C f_M_59 d_M_use_107 (n := 110) rfl (zk_g1 (by omega) hm) rfl ?_
                        refine zr_imul C d_M_use_110 (n := 111) rfl ?_
                        refine zr_toe (by simp only [pk_mul, nI_add]; rfl) ?_
                        refine zr_iconst C d_M_use_111 (n := 112) rfl (v := nI 1) (by decide) ?_
                        refine zr_iadd C d_M_use_112 (n := 113) rfl ?_
                        refine zr_toe (by simp only [pk_mul, nI_add]; rfl) ?_
                        refine zr_iload_n C d_M_use_113 (n := 114) rfl rfl ?_
                        refine zr_iastN C d_M_use_114 (n := 115) rfl (zk_g0 s9) rfl (by omega) (by decide) ?_
                        rw [zk_sset]
                        refine zr_aload_n C d_M_use_115 (n := 116) rfl rfl ?_
                        refine zr_get C f_M_38 d_M_use_116 (n := 119) rfl (zk_g1 (by omega) hm) rfl ?_
                        refine zr_iconst C d_M_use_119 (n := 120) rfl (v := nI 4) (by decide) ?_
                        refine zr_aload_n C d_M_use_120 (n := 121) rfl rfl ?_
                        refine zr_get C f_M_59 d_M_use_121 (n := 124) rfl (zk_g1 (by omega) hm) rfl ?_
                        refine zr_imul C d_M_use_124 (n := 125) rfl ?_
                        refine zr_toe (by simp only [pk_mul, nI_add]; rfl) ?_
                        refine zr_iconst C d_M_use_125 (n := 126) rfl (v := nI 2) (by decide) ?_
                        refine zr_iadd C d_M_use_126 (n := 127) rfl ?_
                        refine zr_toe (by simp only [pk_mul, nI_add]; rfl) ?_
                        refine zr_iload_n C d_M_use_127 (n := 128) rfl rfl ?_
                        refine zr_iastN C d_M_use_128 (n := 129) rfl (zk_g0 s9) rfl (by omega) (by decide) ?_
                        rw [zk_sset]
                        refine zr_aload_n C d_M_use_129 (n := 130) rfl rfl ?_
                        refine zr_get C f_M_38 d_M_use_130 (n := 133) rfl (zk_g1 (by omega) hm) rfl ?_
                        refine zr_iconst C d_M_use_133 (n := 134) rfl (v := nI 4) (by decide) ?_
                        refine zr_aload_n C d_M_use_134 (n := 135) rfl rfl ?_
                        refine zr_get C f_M_59 d_M_use_135 (n := 138) rfl (zk_g1 (by omega) hm) rfl ?_
                        refine zr_imul C d_M_use_138 (n := 139) rfl ?_
                        refine zr_toe (by simp only [pk_mul, nI_add]; rfl) ?_
                        refine zr_iconst C d_M_use_139 (n := 140) rfl (v := nI 3) (by decide) ?_
                        refine zr_iadd C d_M_use_140 (n := 141) rfl ?_
                        refine zr_toe (by simp only [pk_mul, nI_add]; rfl) ?_
                        refine zr_iload C d_M_use_141 (n := 143) rfl rfl ?_
                        refine zr_iastN C d_M_use_143 (n := 144) rfl (zk_g0 s9) rfl (by omega) (by decide) ?_
                        rw [zk_sset]
                        refine zr_aload_n C d_M_use_144 (n := 145) rfl rfl ?_
                        refine zr_dup C d_M_use_145 (n := 146) rfl rfl ?_
                        refine zr_get C f_M_59 d_M_use_146 (n := 149) rfl (zk_g1 (by omega) hm) rfl ?_
                        refine zr_iconst C d_M_use_149 (n := 150) rfl (v := nI 1) (by decide) ?_
                        refine zr_iadd C d_M_use_150 (n := 151) rfl ?_
                        refine zr_toe (by simp only [pk_mul, nI_add]; rfl) ?_
                        refine zr_put C f_M_59 Y_M rfl rfl d_M_use_151 (n := 154) rfl (zk_g1 (by omega) hm) (Nat.le_of_ble_eq_true rfl) (fun _ _ => rfl) (fun _ _ => rfl) ?_
                        refine zr_aload_n C d_M_use_154 (n := 155) rfl rfl ?_
                        refine zr_get C f_M_59 d_M_use_155 (n := 158) rfl (zk_g0 (zk_g1 (by omega) hm)) rfl ?_
                        refine zr_iconst C d_M_use_158 (n := 159) rfl (v := nI 1) (by decide) ?_
                        refine zr_isub C d_M_use_159 (n := 160) rfl ?_
                        have e8 : zc_useC (nI k) (nI t) (nI nm) x3 = true := by simp [zc_useC, zc_nb, hb, qk, hm9, c5, c7, qt, qnm]
                        have u16 : us < 16 := by omega
                        simp only [zc_useR_1 e8 u16, zc_useB_1 e8 u16, if_true, qk, qt, qnm] at hK
                        exact zr_iret (y := nI us) C d_M_use_160 (by rw [pk_sub (by omega)]; exact congrArg nI (by omega)) (hK _ _ (zm_at_us (n := us + 1) (zm_at_9 hM)) (zm_fr_s (by omega) (zm_fr_s (by omega) zm_fr_r)) (zm_J_use hJ u16 hk ht (by omega) (fun q => absurd (decide_eq_true q) (by rw [show decide (k = 2 ∨ k = 3 ∨ k = 6) = false from hm9]; decide)) rfl (fun i hi => zm_u_n (by omega)))) (Nat.zero_le _) (Nat.zero_le _)
                      · replace c9 := zk_eq (by omega) (by omega) c9
                        refine zr_bipush C d_M_use_86 (n := 88) rfl (v := -2) (by decide) ?_
                        have e8 : zc_useC (nI k) (nI t) (nI nm) x3 = true := by simp [zc_useC, zc_nb, hb, qk, hm9, c5, c7, qt, qnm]
                        have u16 : 16 ≤ us := by omega
                        simp only [zc_useR_2 e8 u16, zc_useB_2 u16, zc_fn_0, Bool.false_eq_true, if_false] at hK
                        exact zr_iret C d_M_use_88 rfl (hK h S hM zm_fr_r hJ) (Nat.zero_le _) (Nat.zero_le _)
                    · exact absurd rfl c8
                · exact absurd rfl c6
          · replace c3 := zk_eq (by omega) (by omega) c3
            exact absurd (decide_eq_true (show k = 2 ∨ k = 3 ∨ k = 6 by omega)) (by rw [show decide (k = 2 ∨ k = 3 ∨ k = 6) = false from hm9]; decide)
    | true =>
      refine zr_iload_n C d_M_use_0 (n := 1) rfl rfl ?_
      refine zr_iconst C d_M_use_1 (n := 2) rfl (v := nI 2) (by decide) ?_
      refine zr_icmp_eq C d_M_use_2 (n := 5) rfl (t := 16) (by decide) (fun c1 => ?_) (fun c1 => ?_)
      · replace c1 := zk_eq (by omega) (by omega) c1
        refine zr_iconst C d_M_use_16 (n := 17) rfl (v := nI 1) (by decide) ?_
        refine zr_goto C d_M_use_17 (t := 21) (by decide) ?_
        refine zr_istore C d_M_use_21 (n := 23) rfl (by decide) rfl ?_
        refine zr_iload_n C d_M_use_23 (n := 24) rfl rfl ?_
        refine zr_iconst C d_M_use_24 (n := 25) rfl (v := nI 0) (by decide) ?_
        refine zr_bipush C d_M_use_25 (n := 27) rfl (v := nI 6) (by decide) ?_
        refine zr_callS3 C k_M_47 d_M_use_27 (nx := 30) rfl ⟨by decide, by decide⟩ (Nat.le_of_ble_eq_true rfl) ⟨by decide, by decide⟩ (sp_M_in l ?_)
        refine zr_if_eq C d_M_use_30 (n := 33) rfl (t := 75) (by decide) (fun c2 => ?_) (fun c2 => ?_)
        · replace c2 := zk_bz c2
          rw [zc_in_6] at c2
          exact absurd (hb.symm.trans c2) (by decide)
        · replace c2 := zk_bn c2
          rw [zc_in_6] at c2
          refine zr_iload_n C d_M_use_33 (n := 34) rfl rfl ?_
          refine zr_iconst C d_M_use_34 (n := 35) rfl (v := nI 0) (by decide) ?_
          refine zr_iconst C d_M_use_35 (n := 36) rfl (v := nI 5) (by decide) ?_
          refine zr_callS3 C k_M_47 d_M_use_36 (nx := 39) rfl ⟨by decide, by decide⟩ (Nat.le_of_ble_eq_true rfl) ⟨by decide, by decide⟩ (sp_M_in l ?_)
          refine zr_if_eq C d_M_use_39 (n := 42) rfl (t := 75) (by decide) (fun c3 => ?_) (fun c3 => ?_)
          · replace c3 := zk_bz c3
            rw [zc_in_5] at c3
            refine zr_iconst C d_M_use_75 (n := 76) rfl (v := -1) (by decide) ?_
            have e8 : zc_useC (nI k) x1 x2 x3 = false := by simp [zc_useC, zc_nb, hb, qk, hm9, c3]
            simp only [zc_useR_0 e8, zc_useB_0 e8, zc_fn_0, Bool.false_eq_true, if_false] at hK
            exact zr_iret C d_M_use_76 rfl (hK h S hM zm_fr_r hJ) (Nat.zero_le _) (Nat.zero_le _)
          · replace c3 := zk_bn c3
            rw [zc_in_5] at c3
            obtain ⟨t, ht, rfl, qt⟩ := zc_bl_n c3 (by first | decide | omega)
            refine zr_iload_n C d_M_use_42 (n := 43) rfl rfl ?_
            refine zr_iconst C d_M_use_43 (n := 44) rfl (v := nI 0) (by decide) ?_
            refine zr_iload C d_M_use_44 (n := 46) rfl rfl ?_
            refine zr_if_eq C d_M_use_46 (n := 49) rfl (t := 53) (by decide) (fun c4 => ?_) (fun c4 => ?_)
            · exact absurd c4 (by decide)
            · refine zr_iconst C d_M_use_49 (n := 50) rfl (v := nI 2) (by decide) ?_
              refine zr_goto C d_M_use_50 (t := 54) (by decide) ?_
              refine zr_callS3 C k_M_47 d_M_use_54 (nx := 57) rfl ⟨by decide, by decide⟩ (Nat.le_of_ble_eq_true rfl) ⟨by decide, by decide⟩ (sp_M_in l ?_)
              refine zr_if_eq C d_M_use_57 (n := 60) rfl (t := 75) (by decide) (fun c5 => ?_) (fun c5 => ?_)
              · replace c5 := zk_bz c5
                rw [zc_in_2] at c5
                refine zr_iconst C d_M_use_75 (n := 76) rfl (v := -1) (by decide) ?_
                have e8 : zc_useC (nI k) (nI t) x2 x3 = false := by simp [zc_useC, zc_nb, hb, qk, hm9, c3, c5, qt]
                simp only [zc_useR_0 e8, zc_useB_0 e8, zc_fn_0, Bool.false_eq_true, if_false] at hK
                exact zr_iret C d_M_use_76 rfl (hK h S hM zm_fr_r hJ) (Nat.zero_le _) (Nat.zero_le _)
              · replace c5 := zk_bn c5
                rw [zc_in_2] at c5
                obtain ⟨nm, hnm, rfl, qnm⟩ := zc_bl_n c5 (by first | decide | omega)
                refine zr_iload C d_M_use_60 (n := 62) rfl rfl ?_
                refine zr_if_eq C d_M_use_62 (n := 65) rfl (t := 77) (by decide) (fun c6 => ?_) (fun c6 => ?_)
                · exact absurd c6 (by decide)
                · refine zr_iload C d_M_use_65 (n := 67) rfl rfl ?_
                  refine zr_iconst C d_M_use_67 (n := 68) rfl (v := nI 0) (by decide) ?_
                  refine zr_iconst C d_M_use_68 (n := 69) rfl (v := nI 3) (by decide) ?_
                  refine zr_callS3 C k_M_47 d_M_use_69 (nx := 72) rfl ⟨by decide, by decide⟩ (Nat.le_of_ble_eq_true rfl) ⟨by decide, by decide⟩ (sp_M_in l ?_)
                  refine zr_if_ne C d_M_use_72 (n := 75) rfl (t := 77) (by decide) (fun c7 => ?_) (fun c7 => ?_)
                  · replace c7 := zk_bn c7
                    rw [zc_in_3] at c7
                    obtain ⟨ar, har, rfl, qar⟩ := zc_bl_n c7 (by first | decide | omega)
                    refine zr_aload_n C d_M_use_77 (n := 78) rfl rfl ?_
                    refine zr_get C f_M_59 d_M_use_78 (n := 81) rfl hm rfl ?_
                    refine zr_bipush C d_M_use_81 (n := 83) rfl (v := nI 16) (by decide) ?_
                    refine zr_icmp_ne C d_M_use_83 (n := 86) rfl (t := 89) (by decide) (fun c8 => ?_) (fun c8 => ?_)
                    · replace c8 := zk_ne (by omega) (by omega) c8
                      refine zr_aload_n C d_M_use_89 (n := 90) rfl rfl ?_
                      refine zr_get C f_M_38 d_M_use_90 (n := 93) rfl hm rfl ?_
                      refine zr_iconst C d_M_use_93 (n := 94) rfl (v := nI 4) (by decide) ?_
                      refine zr_aload_n C d_M_use_94 (n := 95) rfl rfl ?_
                      refine zr_get C f_M_59 d_M_use_95 (n := 98) rfl hm rfl ?_
                      refine zr_imul C d_M_use_98 (n := 99) rfl ?_
                      refine zr_toe (by simp only [pk_mul, nI_add]; rfl) ?_
                      refine zr_iload_n C d_M_use_99 (n := 100) rfl rfl ?_
                      refine zr_iastN C d_M_use_100 (n := 101) rfl s9 rfl (by omega) (by decide) ?_
                      refine zr_aload_n C d_M_use_101 (n := 102) rfl rfl ?_
                      refine zr_get C f_M_38 d_M_use_102 (n := 105) rfl (zk_g1 (by omega) hm) rfl ?_
                      refine zr_iconst C d_M_use_105 (n := 106) rfl (v := nI 4) (by decide) ?_
                      refine zr_aload_n C d_M_use_106 (n := 107) rfl rfl ?_
                      refine zr_get C f_M_59 d_M_use_107 (n := 110) rfl (zk_g1 (by omega) hm) rfl ?_
                      refine zr_imul C d_M_use_110 (n := 111) rfl ?_
                      refine zr_toe (by simp only [pk_mul, nI_add]; rfl) ?_
                      refine zr_iconst C d_M_use_111 (n := 112) rfl (v := nI 1) (by decide) ?_
                      refine zr_iadd C d_M_use_112 (n := 113) rfl ?_
                      refine zr_toe (by simp only [pk_mul, nI_add]; rfl) ?_
                      refine zr_iload_n C d_M_use_113 (n := 114) rfl rfl ?_
                      refine zr_iastN C d_M_use_114 (n := 115) rfl (zk_g0 s9) rfl (by omega) (by decide) ?_
                      rw [zk_sset]
                      refine zr_aload_n C d_M_use_115 (n := 116) rfl rfl ?_
                      refine zr_get C f_M_38 d_M_use_116 (n := 119) rfl (zk_g1 (by omega) hm) rfl ?_
                      refine zr_iconst C d_M_use_119 (n := 120) rfl (v := nI 4) (by decide) ?_
                      refine zr_aload_n C d_M_use_120 (n := 121) rfl rfl ?_
                      refine zr_get C f_M_59 d_M_use_121 (n := 124) rfl (zk_g1 (by omega) hm) rfl ?_
                      refine zr_imul C d_M_use_124 (n := 125) rfl ?_
                      refine zr_toe (by simp only [pk_mul, nI_add]; rfl) ?_
                      refine zr_iconst C d_M_use_125 (n := 126) rfl (v := nI 2) (by decide) ?_
                      refine zr_iadd C d_M_use_126 (n := 127) rfl ?_
                      refine zr_toe (by simp only [pk_mul, nI_add]; rfl) ?_
                      refine zr_iload_n C d_M_use_127 (n := 128) rfl rfl ?_
                      refine zr_iastN C d_M_use_128 (n := 129) rfl (zk_g0 s9) rfl (by omega) (by decide) ?_
                      rw [zk_sset]
                      refine zr_aload_n C d_M_use_129 (n := 130) rfl rfl ?_
                      refine zr_get C f_M_38 d_M_use_130 (n := 133) rfl (zk_g1 (by omega) hm) rfl ?_
                      refine zr_iconst C d_M_use_133 (n := 134) rfl (v := nI 4) (by decide) ?_
                      refine zr_aload_n C d_M_use_134 (n := 135) rfl rfl ?_
                      refine zr_get C f_M_59 d_M_use_135 (n := 138) rfl (zk_g1 (by omega) hm) rfl ?_
                      refine zr_imul C d_M_use_138 (n := 139) rfl ?_
                      refine zr_toe (by simp only [pk_mul, nI_add]; rfl) ?_
                      refine zr_iconst C d_M_use_139 (n := 140) rfl (v := nI 3) (by decide) ?_
                      refine zr_iadd C d_M_use_140 (n := 141) rfl ?_
                      refine zr_toe (by simp only [pk_mul, nI_add]; rfl) ?_
                      refine zr_iload C d_M_use_141 (n := 143) rfl rfl ?_
                      refine zr_iastN C d_M_use_143 (n := 144) rfl (zk_g0 s9) rfl (by omega) (by decide) ?_
                      rw [zk_sset]
                      refine zr_aload_n C d_M_use_144 (n := 145) rfl rfl ?_
                      refine zr_dup C d_M_use_145 (n := 146) rfl rfl ?_
                      refine zr_get C f_M_59 d_M_use_146 (n := 149) rfl (zk_g1 (by omega) hm) rfl ?_
                      refine zr_iconst C d_M_use_149 (n := 150) rfl (v := nI 1) (by decide) ?_
                      refine zr_iadd C d_M_use_150 (n := 151) rfl ?_
                      refine zr_toe (by simp only [pk_mul, nI_add]; rfl) ?_
                      refine zr_put C f_M_59 Y_M rfl rfl d_M_use_151 (n := 154) rfl (zk_g1 (by omega) hm) (Nat.le_of_ble_eq_true rfl) (fun _ _ => rfl) (fun _ _ => rfl) ?_
                      refine zr_aload_n C d_M_use_154 (n := 155) rfl rfl ?_
                      refine zr_get C f_M_59 d_M_use_155 (n := 158) rfl (zk_g0 (zk_g1 (by omega) hm)) rfl ?_
                      refine zr_iconst C d_M_use_158 (n := 159) rfl (v := nI 1) (by decide) ?_
                      refine zr_isub C d_M_use_159 (n := 160) rfl ?_
                      have e8 : zc_useC (nI k) (nI t) (nI nm) (nI ar) = true := by simp [zc_useC, zc_nb, hb, qk, hm9, c3, c5, c7, qt, qnm]
                      have u16 : us < 16 := by omega
                      simp only [zc_useR_1 e8 u16, zc_useB_1 e8 u16, if_true, qk, qt, qnm] at hK
                      exact zr_iret (y := nI us) C d_M_use_160 (by rw [pk_sub (by omega)]; exact congrArg nI (by omega)) (hK _ _ (zm_at_us (n := us + 1) (zm_at_9 hM)) (zm_fr_s (by omega) (zm_fr_s (by omega) zm_fr_r)) (zm_J_use hJ u16 hk ht (by omega) (fun _ => ⟨by omega, by rw [qar], by rw [qar]; omega⟩) rfl (fun i hi => zm_u_n (by omega)))) (Nat.zero_le _) (Nat.zero_le _)
                    · replace c8 := zk_eq (by omega) (by omega) c8
                      refine zr_bipush C d_M_use_86 (n := 88) rfl (v := -2) (by decide) ?_
                      have e8 : zc_useC (nI k) (nI t) (nI nm) (nI ar) = true := by simp [zc_useC, zc_nb, hb, qk, hm9, c3, c5, c7, qt, qnm]
                      have u16 : 16 ≤ us := by omega
                      simp only [zc_useR_2 e8 u16, zc_useB_2 u16, zc_fn_0, Bool.false_eq_true, if_false] at hK
                      exact zr_iret C d_M_use_88 rfl (hK h S hM zm_fr_r hJ) (Nat.zero_le _) (Nat.zero_le _)
                  · replace c7 := zk_bz c7
                    rw [zc_in_3] at c7
                    refine zr_iconst C d_M_use_75 (n := 76) rfl (v := -1) (by decide) ?_
                    have e8 : zc_useC (nI k) (nI t) (nI nm) x3 = false := by simp [zc_useC, zc_nb, hb, qk, hm9, c3, c5, c7, qt, qnm]
                    simp only [zc_useR_0 e8, zc_useB_0 e8, zc_fn_0, Bool.false_eq_true, if_false] at hK
                    exact zr_iret C d_M_use_76 rfl (hK h S hM zm_fr_r hJ) (Nat.zero_le _) (Nat.zero_le _)
      · replace c1 := zk_ne (by omega) (by omega) c1
        refine zr_iload_n C d_M_use_5 (n := 6) rfl rfl ?_
        refine zr_iconst C d_M_use_6 (n := 7) rfl (v := nI 3) (by decide) ?_
        refine zr_icmp_eq C d_M_use_7 (n := 10) rfl (t := 16) (by decide) (fun c9 => ?_) (fun c9 => ?_)
        · replace c9 := zk_eq (by omega) (by omega) c9
          refine zr_iconst C d_M_use_16 (n := 17) rfl (v := nI 1) (by decide) ?_
          refine zr_goto C d_M_use_17 (t := 21) (by decide) ?_
          refine zr_istore C d_M_use_21 (n := 23) rfl (by decide) rfl ?_
          refine zr_iload_n C d_M_use_23 (n := 24) rfl rfl ?_
          refine zr_iconst C d_M_use_24 (n := 25) rfl (v := nI 0) (by decide) ?_
          refine zr_bipush C d_M_use_25 (n := 27) rfl (v := nI 6) (by decide) ?_
          refine zr_callS3 C k_M_47 d_M_use_27 (nx := 30) rfl ⟨by decide, by decide⟩ (Nat.le_of_ble_eq_true rfl) ⟨by decide, by decide⟩ (sp_M_in l ?_)
          refine zr_if_eq C d_M_use_30 (n := 33) rfl (t := 75) (by decide) (fun c10 => ?_) (fun c10 => ?_)
          · replace c10 := zk_bz c10
            rw [zc_in_6] at c10
            exact absurd (hb.symm.trans c10) (by decide)
          · replace c10 := zk_bn c10
            rw [zc_in_6] at c10
            refine zr_iload_n C d_M_use_33 (n := 34) rfl rfl ?_
            refine zr_iconst C d_M_use_34 (n := 35) rfl (v := nI 0) (by decide) ?_
            refine zr_iconst C d_M_use_35 (n := 36) rfl (v := nI 5) (by decide) ?_
            refine zr_callS3 C k_M_47 d_M_use_36 (nx := 39) rfl ⟨by decide, by decide⟩ (Nat.le_of_ble_eq_true rfl) ⟨by decide, by decide⟩ (sp_M_in l ?_)
            refine zr_if_eq C d_M_use_39 (n := 42) rfl (t := 75) (by decide) (fun c11 => ?_) (fun c11 => ?_)
            · replace c11 := zk_bz c11
              rw [zc_in_5] at c11
              refine zr_iconst C d_M_use_75 (n := 76) rfl (v := -1) (by decide) ?_
              have e8 : zc_useC (nI k) x1 x2 x3 = false := by simp [zc_useC, zc_nb, hb, qk, hm9, c11]
              simp only [zc_useR_0 e8, zc_useB_0 e8, zc_fn_0, Bool.false_eq_true, if_false] at hK
              exact zr_iret C d_M_use_76 rfl (hK h S hM zm_fr_r hJ) (Nat.zero_le _) (Nat.zero_le _)
            · replace c11 := zk_bn c11
              rw [zc_in_5] at c11
              obtain ⟨t, ht, rfl, qt⟩ := zc_bl_n c11 (by first | decide | omega)
              refine zr_iload_n C d_M_use_42 (n := 43) rfl rfl ?_
              refine zr_iconst C d_M_use_43 (n := 44) rfl (v := nI 0) (by decide) ?_
              refine zr_iload C d_M_use_44 (n := 46) rfl rfl ?_
              refine zr_if_eq C d_M_use_46 (n := 49) rfl (t := 53) (by decide) (fun c12 => ?_) (fun c12 => ?_)
              · exact absurd c12 (by decide)
              · refine zr_iconst C d_M_use_49 (n := 50) rfl (v := nI 2) (by decide) ?_
                refine zr_goto C d_M_use_50 (t := 54) (by decide) ?_
                refine zr_callS3 C k_M_47 d_M_use_54 (nx := 57) rfl ⟨by decide, by decide⟩ (Nat.le_of_ble_eq_true rfl) ⟨by decide, by decide⟩ (sp_M_in l ?_)
                refine zr_if_eq C d_M_use_57 (n := 60) rfl (t := 75) (by decide) (fun c13 => ?_) (fun c13 => ?_)
                · replace c13 := zk_bz c13
                  rw [zc_in_2] at c13
                  refine zr_iconst C d_M_use_75 (n := 76) rfl (v := -1) (by decide) ?_
                  have e8 : zc_useC (nI k) (nI t) x2 x3 = false := by simp [zc_useC, zc_nb, hb, qk, hm9, c11, c13, qt]
                  simp only [zc_useR_0 e8, zc_useB_0 e8, zc_fn_0, Bool.false_eq_true, if_false] at hK
                  exact zr_iret C d_M_use_76 rfl (hK h S hM zm_fr_r hJ) (Nat.zero_le _) (Nat.zero_le _)
                · replace c13 := zk_bn c13
                  rw [zc_in_2] at c13
                  obtain ⟨nm, hnm, rfl, qnm⟩ := zc_bl_n c13 (by first | decide | omega)
                  refine zr_iload C d_M_use_60 (n := 62) rfl rfl ?_
                  refine zr_if_eq C d_M_use_62 (n := 65) rfl (t := 77) (by decide) (fun c14 => ?_) (fun c14 => ?_)
                  · exact absurd c14 (by decide)
                  · refine zr_iload C d_M_use_65 (n := 67) rfl rfl ?_
                    refine zr_iconst C d_M_use_67 (n := 68) rfl (v := nI 0) (by decide) ?_
                    refine zr_iconst C d_M_use_68 (n := 69) rfl (v := nI 3) (by decide) ?_
                    refine zr_callS3 C k_M_47 d_M_use_69 (nx := 72) rfl ⟨by decide, by decide⟩ (Nat.le_of_ble_eq_true rfl) ⟨by decide, by decide⟩ (sp_M_in l ?_)
                    refine zr_if_ne C d_M_use_72 (n := 75) rfl (t := 77) (by decide) (fun c15 => ?_) (fun c15 => ?_)
                    · replace c15 := zk_bn c15
                      rw [zc_in_3] at c15
                      obtain ⟨ar, har, rfl, qar⟩ := zc_bl_n c15 (by first | decide | omega)
                      refine zr_aload_n C d_M_use_77 (n := 78) rfl rfl ?_
                      refine zr_get C f_M_59 d_M_use_78 (n := 81) rfl hm rfl ?_
                      refine zr_bipush C d_M_use_81 (n := 83) rfl (v := nI 16) (by decide) ?_
                      refine zr_icmp_ne C d_M_use_83 (n := 86) rfl (t := 89) (by decide) (fun c16 => ?_) (fun c16 => ?_)
                      · replace c16 := zk_ne (by omega) (by omega) c16
                        refine zr_aload_n C d_M_use_89 (n := 90) rfl rfl ?_
                        refine zr_get C f_M_38 d_M_use_90 (n := 93) rfl hm rfl ?_
                        refine zr_iconst C d_M_use_93 (n := 94) rfl (v := nI 4) (by decide) ?_
                        refine zr_aload_n C d_M_use_94 (n := 95) rfl rfl ?_
                        refine zr_get C f_M_59 d_M_use_95 (n := 98) rfl hm rfl ?_
                        refine zr_imul C d_M_use_98 (n := 99) rfl ?_
                        refine zr_toe (by simp only [pk_mul, nI_add]; rfl) ?_
                        refine zr_iload_n C d_M_use_99 (n := 100) rfl rfl ?_
                        refine zr_iastN C d_M_use_100 (n := 101) rfl s9 rfl (by omega) (by decide) ?_
                        refine zr_aload_n C d_M_use_101 (n := 102) rfl rfl ?_
                        refine zr_get C f_M_38 d_M_use_102 (n := 105) rfl (zk_g1 (by omega) hm) rfl ?_
                        refine zr_iconst C d_M_use_105 (n := 106) rfl (v := nI 4) (by decide) ?_
                        refine zr_aload_n C d_M_use_106 (n := 107) rfl rfl ?_
                        refine zr_get C f_M_59 d_M_use_107 (n := 110) rfl (zk_g1 (by omega) hm) rfl ?_
                        refine zr_imul C d_M_use_110 (n := 111) rfl ?_
                        refine zr_toe (by simp only [pk_mul, nI_add]; rfl) ?_
                        refine zr_iconst C d_M_use_111 (n := 112) rfl (v := nI 1) (by decide) ?_
                        refine zr_iadd C d_M_use_112 (n := 113) rfl ?_
                        refine zr_toe (by simp only [pk_mul, nI_add]; rfl) ?_
                        refine zr_iload_n C d_M_use_113 (n := 114) rfl rfl ?_
                        refine zr_iastN C d_M_use_114 (n := 115) rfl (zk_g0 s9) rfl (by omega) (by decide) ?_
                        rw [zk_sset]
                        refine zr_aload_n C d_M_use_115 (n := 116) rfl rfl ?_
                        refine zr_get C f_M_38 d_M_use_116 (n := 119) rfl (zk_g1 (by omega) hm) rfl ?_
                        refine zr_iconst C d_M_use_119 (n := 120) rfl (v := nI 4) (by decide) ?_
                        refine zr_aload_n C d_M_use_120 (n := 121) rfl rfl ?_
                        refine zr_get C f_M_59 d_M_use_121 (n := 124) rfl (zk_g1 (by omega) hm) rfl ?_
                        refine zr_imul C d_M_use_124 (n := 125) rfl ?_
                        refine zr_toe (by simp only [pk_mul, nI_add]; rfl) ?_
                        refine zr_iconst C d_M_use_125 (n := 126) rfl (v := nI 2) (by decide) ?_
                        refine zr_iadd C d_M_use_126 (n := 127) rfl ?_
                        refine zr_toe (by simp only [pk_mul, nI_add]; rfl) ?_
                        refine zr_iload_n C d_M_use_127 (n := 128) rfl rfl ?_
                        refine zr_iastN C d_M_use_128 (n := 129) rfl (zk_g0 s9) rfl (by omega) (by decide) ?_
                        rw [zk_sset]
                        refine zr_aload_n C d_M_use_129 (n := 130) rfl rfl ?_
                        refine zr_get C f_M_38 d_M_use_130 (n := 133) rfl (zk_g1 (by omega) hm) rfl ?_
                        refine zr_iconst C d_M_use_133 (n := 134) rfl (v := nI 4) (by decide) ?_
                        refine zr_aload_n C d_M_use_134 (n := 135) rfl rfl ?_
                        refine zr_get C f_M_59 d_M_use_135 (n := 138) rfl (zk_g1 (by omega) hm) rfl ?_
                        refine zr_imul C d_M_use_138 (n := 139) rfl ?_
                        refine zr_toe (by simp only [pk_mul, nI_add]; rfl) ?_
                        refine zr_iconst C d_M_use_139 (n := 140) rfl (v := nI 3) (by decide) ?_
                        refine zr_iadd C d_M_use_140 (n := 141) rfl ?_
                        refine zr_toe (by simp only [pk_mul, nI_add]; rfl) ?_
                        refine zr_iload C d_M_use_141 (n := 143) rfl rfl ?_
                        refine zr_iastN C d_M_use_143 (n := 144) rfl (zk_g0 s9) rfl (by omega) (by decide) ?_
                        rw [zk_sset]
                        refine zr_aload_n C d_M_use_144 (n := 145) rfl rfl ?_
                        refine zr_dup C d_M_use_145 (n := 146) rfl rfl ?_
                        refine zr_get C f_M_59 d_M_use_146 (n := 149) rfl (zk_g1 (by omega) hm) rfl ?_
                        refine zr_iconst C d_M_use_149 (n := 150) rfl (v := nI 1) (by decide) ?_
                        refine zr_iadd C d_M_use_150 (n := 151) rfl ?_
                        refine zr_toe (by simp only [pk_mul, nI_add]; rfl) ?_
                        refine zr_put C f_M_59 Y_M rfl rfl d_M_use_151 (n := 154) rfl (zk_g1 (by omega) hm) (Nat.le_of_ble_eq_true rfl) (fun _ _ => rfl) (fun _ _ => rfl) ?_
                        refine zr_aload_n C d_M_use_154 (n := 155) rfl rfl ?_
                        refine zr_get C f_M_59 d_M_use_155 (n := 158) rfl (zk_g0 (zk_g1 (by omega) hm)) rfl ?_
                        refine zr_iconst C d_M_use_158 (n := 159) rfl (v := nI 1) (by decide) ?_
                        refine zr_isub C d_M_use_159 (n := 160) rfl ?_
                        have e8 : zc_useC (nI k) (nI t) (nI nm) (nI ar) = true := by simp [zc_useC, zc_nb, hb, qk, hm9, c11, c13, c15, qt, qnm]
                        have u16 : us < 16 := by omega
                        simp only [zc_useR_1 e8 u16, zc_useB_1 e8 u16, if_true, qk, qt, qnm] at hK
                        exact zr_iret (y := nI us) C d_M_use_160 (by rw [pk_sub (by omega)]; exact congrArg nI (by omega)) (hK _ _ (zm_at_us (n := us + 1) (zm_at_9 hM)) (zm_fr_s (by omega) (zm_fr_s (by omega) zm_fr_r)) (zm_J_use hJ u16 hk ht (by omega) (fun _ => ⟨by omega, by rw [qar], by rw [qar]; omega⟩) rfl (fun i hi => zm_u_n (by omega)))) (Nat.zero_le _) (Nat.zero_le _)
                      · replace c16 := zk_eq (by omega) (by omega) c16
                        refine zr_bipush C d_M_use_86 (n := 88) rfl (v := -2) (by decide) ?_
                        have e8 : zc_useC (nI k) (nI t) (nI nm) (nI ar) = true := by simp [zc_useC, zc_nb, hb, qk, hm9, c11, c13, c15, qt, qnm]
                        have u16 : 16 ≤ us := by omega
                        simp only [zc_useR_2 e8 u16, zc_useB_2 u16, zc_fn_0, Bool.false_eq_true, if_false] at hK
                        exact zr_iret C d_M_use_88 rfl (hK h S hM zm_fr_r hJ) (Nat.zero_le _) (Nat.zero_le _)
                    · replace c15 := zk_bz c15
                      rw [zc_in_3] at c15
                      refine zr_iconst C d_M_use_75 (n := 76) rfl (v := -1) (by decide) ?_
                      have e8 : zc_useC (nI k) (nI t) (nI nm) x3 = false := by simp [zc_useC, zc_nb, hb, qk, hm9, c11, c13, c15, qt, qnm]
                      simp only [zc_useR_0 e8, zc_useB_0 e8, zc_fn_0, Bool.false_eq_true, if_false] at hK
                      exact zr_iret C d_M_use_76 rfl (hK h S hM zm_fr_r hJ) (Nat.zero_le _) (Nat.zero_le _)
        · replace c9 := zk_ne (by omega) (by omega) c9
          refine zr_iload_n C d_M_use_10 (n := 11) rfl rfl ?_
          refine zr_bipush C d_M_use_11 (n := 13) rfl (v := nI 6) (by decide) ?_
          refine zr_icmp_ne C d_M_use_13 (n := 16) rfl (t := 20) (by decide) (fun c17 => ?_) (fun c17 => ?_)
          · replace c17 := zk_ne (by omega) (by omega) c17
            exact absurd (show decide (k = 2 ∨ k = 3 ∨ k = 6) = true from hm9) (by rw [decide_eq_false (by omega)]; decide)
          · replace c17 := zk_eq (by omega) (by omega) c17
            refine zr_iconst C d_M_use_16 (n := 17) rfl (v := nI 1) (by decide) ?_
            refine zr_goto C d_M_use_17 (t := 21) (by decide) ?_
            refine zr_istore C d_M_use_21 (n := 23) rfl (by decide) rfl ?_
            refine zr_iload_n C d_M_use_23 (n := 24) rfl rfl ?_
            refine zr_iconst C d_M_use_24 (n := 25) rfl (v := nI 0) (by decide) ?_
            refine zr_bipush C d_M_use_25 (n := 27) rfl (v := nI 6) (by decide) ?_
            refine zr_callS3 C k_M_47 d_M_use_27 (nx := 30) rfl ⟨by decide, by decide⟩ (Nat.le_of_ble_eq_true rfl) ⟨by decide, by decide⟩ (sp_M_in l ?_)
            refine zr_if_eq C d_M_use_30 (n := 33) rfl (t := 75) (by decide) (fun c18 => ?_) (fun c18 => ?_)
            · replace c18 := zk_bz c18
              rw [zc_in_6] at c18
              exact absurd (hb.symm.trans c18) (by decide)
            · replace c18 := zk_bn c18
              rw [zc_in_6] at c18
              refine zr_iload_n C d_M_use_33 (n := 34) rfl rfl ?_
              refine zr_iconst C d_M_use_34 (n := 35) rfl (v := nI 0) (by decide) ?_
              refine zr_iconst C d_M_use_35 (n := 36) rfl (v := nI 5) (by decide) ?_
              refine zr_callS3 C k_M_47 d_M_use_36 (nx := 39) rfl ⟨by decide, by decide⟩ (Nat.le_of_ble_eq_true rfl) ⟨by decide, by decide⟩ (sp_M_in l ?_)
              refine zr_if_eq C d_M_use_39 (n := 42) rfl (t := 75) (by decide) (fun c19 => ?_) (fun c19 => ?_)
              · replace c19 := zk_bz c19
                rw [zc_in_5] at c19
                refine zr_iconst C d_M_use_75 (n := 76) rfl (v := -1) (by decide) ?_
                have e8 : zc_useC (nI k) x1 x2 x3 = false := by simp [zc_useC, zc_nb, hb, qk, hm9, c19]
                simp only [zc_useR_0 e8, zc_useB_0 e8, zc_fn_0, Bool.false_eq_true, if_false] at hK
                exact zr_iret C d_M_use_76 rfl (hK h S hM zm_fr_r hJ) (Nat.zero_le _) (Nat.zero_le _)
              · replace c19 := zk_bn c19
                rw [zc_in_5] at c19
                obtain ⟨t, ht, rfl, qt⟩ := zc_bl_n c19 (by first | decide | omega)
                refine zr_iload_n C d_M_use_42 (n := 43) rfl rfl ?_
                refine zr_iconst C d_M_use_43 (n := 44) rfl (v := nI 0) (by decide) ?_
                refine zr_iload C d_M_use_44 (n := 46) rfl rfl ?_
                refine zr_if_eq C d_M_use_46 (n := 49) rfl (t := 53) (by decide) (fun c20 => ?_) (fun c20 => ?_)
                · exact absurd c20 (by decide)
                · refine zr_iconst C d_M_use_49 (n := 50) rfl (v := nI 2) (by decide) ?_
                  refine zr_goto C d_M_use_50 (t := 54) (by decide) ?_
                  refine zr_callS3 C k_M_47 d_M_use_54 (nx := 57) rfl ⟨by decide, by decide⟩ (Nat.le_of_ble_eq_true rfl) ⟨by decide, by decide⟩ (sp_M_in l ?_)
                  refine zr_if_eq C d_M_use_57 (n := 60) rfl (t := 75) (by decide) (fun c21 => ?_) (fun c21 => ?_)
                  · replace c21 := zk_bz c21
                    rw [zc_in_2] at c21
                    refine zr_iconst C d_M_use_75 (n := 76) rfl (v := -1) (by decide) ?_
                    have e8 : zc_useC (nI k) (nI t) x2 x3 = false := by simp [zc_useC, zc_nb, hb, qk, hm9, c19, c21, qt]
                    simp only [zc_useR_0 e8, zc_useB_0 e8, zc_fn_0, Bool.false_eq_true, if_false] at hK
                    exact zr_iret C d_M_use_76 rfl (hK h S hM zm_fr_r hJ) (Nat.zero_le _) (Nat.zero_le _)
                  · replace c21 := zk_bn c21
                    rw [zc_in_2] at c21
                    obtain ⟨nm, hnm, rfl, qnm⟩ := zc_bl_n c21 (by first | decide | omega)
                    refine zr_iload C d_M_use_60 (n := 62) rfl rfl ?_
                    refine zr_if_eq C d_M_use_62 (n := 65) rfl (t := 77) (by decide) (fun c22 => ?_) (fun c22 => ?_)
                    · exact absurd c22 (by decide)
                    · refine zr_iload C d_M_use_65 (n := 67) rfl rfl ?_
                      refine zr_iconst C d_M_use_67 (n := 68) rfl (v := nI 0) (by decide) ?_
                      refine zr_iconst C d_M_use_68 (n := 69) rfl (v := nI 3) (by decide) ?_
                      refine zr_callS3 C k_M_47 d_M_use_69 (nx := 72) rfl ⟨by decide, by decide⟩ (Nat.le_of_ble_eq_true rfl) ⟨by decide, by decide⟩ (sp_M_in l ?_)
                      refine zr_if_ne C d_M_use_72 (n := 75) rfl (t := 77) (by decide) (fun c23 => ?_) (fun c23 => ?_)
                      · replace c23 := zk_bn c23
                        rw [zc_in_3] at c23
                        obtain ⟨ar, har, rfl, qar⟩ := zc_bl_n c23 (by first | decide | omega)
                        refine zr_aload_n C d_M_use_77 (n := 78) rfl rfl ?_
                        refine zr_get C f_M_59 d_M_use_78 (n := 81) rfl hm rfl ?_
                        refine zr_bipush C d_M_use_81 (n := 83) rfl (v := nI 16) (by decide) ?_
                        refine zr_icmp_ne C d_M_use_83 (n := 86) rfl (t := 89) (by decide) (fun c24 => ?_) (fun c24 => ?_)
                        · replace c24 := zk_ne (by omega) (by omega) c24
                          refine zr_aload_n C d_M_use_89 (n := 90) rfl rfl ?_
                          refine zr_get C f_M_38 d_M_use_90 (n := 93) rfl hm rfl ?_
                          refine zr_iconst C d_M_use_93 (n := 94) rfl (v := nI 4) (by decide) ?_
                          refine zr_aload_n C d_M_use_94 (n := 95) rfl rfl ?_
                          refine zr_get C f_M_59 d_M_use_95 (n := 98) rfl hm rfl ?_
                          refine zr_imul C d_M_use_98 (n := 99) rfl ?_
                          refine zr_toe (by simp only [pk_mul, nI_add]; rfl) ?_
                          refine zr_iload_n C d_M_use_99 (n := 100) rfl rfl ?_
                          refine zr_iastN C d_M_use_100 (n := 101) rfl s9 rfl (by omega) (by decide) ?_
                          refine zr_aload_n C d_M_use_101 (n := 102) rfl rfl ?_
                          refine zr_get C f_M_38 d_M_use_102 (n := 105) rfl (zk_g1 (by omega) hm) rfl ?_
                          refine zr_iconst C d_M_use_105 (n := 106) rfl (v := nI 4) (by decide) ?_
                          refine zr_aload_n C d_M_use_106 (n := 107) rfl rfl ?_
                          refine zr_get C f_M_59 d_M_use_107 (n := 110) rfl (zk_g1 (by omega) hm) rfl ?_
                          refine zr_imul C d_M_use_110 (n := 111) rfl ?_
                          refine zr_toe (by simp only [pk_mul, nI_add]; rfl) ?_
                          refine zr_iconst C d_M_use_111 (n := 112) rfl (v := nI 1) (by decide) ?_
                          refine zr_iadd C d_M_use_112 (n := 113) rfl ?_
                          refine zr_toe (by simp only [pk_mul, nI_add]; rfl) ?_
                          refine zr_iload_n C d_M_use_113 (n := 114) rfl rfl ?_
                          refine zr_iastN C d_M_use_114 (n := 115) rfl (zk_g0 s9) rfl (by omega) (by decide) ?_
                          rw [zk_sset]
                          refine zr_aload_n C d_M_use_115 (n := 116) rfl rfl ?_
                          refine zr_get C f_M_38 d_M_use_116 (n := 119) rfl (zk_g1 (by omega) hm) rfl ?_
                          refine zr_iconst C d_M_use_119 (n := 120) rfl (v := nI 4) (by decide) ?_
                          refine zr_aload_n C d_M_use_120 (n := 121) rfl rfl ?_
                          refine zr_get C f_M_59 d_M_use_121 (n := 124) rfl (zk_g1 (by omega) hm) rfl ?_
                          refine zr_imul C d_M_use_124 (n := 125) rfl ?_
                          refine zr_toe (by simp only [pk_mul, nI_add]; rfl) ?_
                          refine zr_iconst C d_M_use_125 (n := 126) rfl (v := nI 2) (by decide) ?_
                          refine zr_iadd C d_M_use_126 (n := 127) rfl ?_
                          refine zr_toe (by simp only [pk_mul, nI_add]; rfl) ?_
                          refine zr_iload_n C d_M_use_127 (n := 128) rfl rfl ?_
                          refine zr_iastN C d_M_use_128 (n := 129) rfl (zk_g0 s9) rfl (by omega) (by decide) ?_
                          rw [zk_sset]
                          refine zr_aload_n C d_M_use_129 (n := 130) rfl rfl ?_
                          refine zr_get C f_M_38 d_M_use_130 (n := 133) rfl (zk_g1 (by omega) hm) rfl ?_
                          refine zr_iconst C d_M_use_133 (n := 134) rfl (v := nI 4) (by decide) ?_
                          refine zr_aload_n C d_M_use_134 (n := 135) rfl rfl ?_
                          refine zr_get C f_M_59 d_M_use_135 (n := 138) rfl (zk_g1 (by omega) hm) rfl ?_
                          refine zr_imul C d_M_use_138 (n := 139) rfl ?_
                          refine zr_toe (by simp only [pk_mul, nI_add]; rfl) ?_
                          refine zr_iconst C d_M_use_139 (n := 140) rfl (v := nI 3) (by decide) ?_
                          refine zr_iadd C d_M_use_140 (n := 141) rfl ?_
                          refine zr_toe (by simp only [pk_mul, nI_add]; rfl) ?_
                          refine zr_iload C d_M_use_141 (n := 143) rfl rfl ?_
                          refine zr_iastN C d_M_use_143 (n := 144) rfl (zk_g0 s9) rfl (by omega) (by decide) ?_
                          rw [zk_sset]
                          refine zr_aload_n C d_M_use_144 (n := 145) rfl rfl ?_
                          refine zr_dup C d_M_use_145 (n := 146) rfl rfl ?_
                          refine zr_get C f_M_59 d_M_use_146 (n := 149) rfl (zk_g1 (by omega) hm) rfl ?_
                          refine zr_iconst C d_M_use_149 (n := 150) rfl (v := nI 1) (by decide) ?_
                          refine zr_iadd C d_M_use_150 (n := 151) rfl ?_
                          refine zr_toe (by simp only [pk_mul, nI_add]; rfl) ?_
                          refine zr_put C f_M_59 Y_M rfl rfl d_M_use_151 (n := 154) rfl (zk_g1 (by omega) hm) (Nat.le_of_ble_eq_true rfl) (fun _ _ => rfl) (fun _ _ => rfl) ?_
                          refine zr_aload_n C d_M_use_154 (n := 155) rfl rfl ?_
                          refine zr_get C f_M_59 d_M_use_155 (n := 158) rfl (zk_g0 (zk_g1 (by omega) hm)) rfl ?_
                          refine zr_iconst C d_M_use_158 (n := 159) rfl (v := nI 1) (by decide) ?_
                          refine zr_isub C d_M_use_159 (n := 160) rfl ?_
                          have e8 : zc_useC (nI k) (nI t) (nI nm) (nI ar) = true := by simp [zc_useC, zc_nb, hb, qk, hm9, c19, c21, c23, qt, qnm]
                          have u16 : us < 16 := by omega
                          simp only [zc_useR_1 e8 u16, zc_useB_1 e8 u16, if_true, qk, qt, qnm] at hK
                          exact zr_iret (y := nI us) C d_M_use_160 (by rw [pk_sub (by omega)]; exact congrArg nI (by omega)) (hK _ _ (zm_at_us (n := us + 1) (zm_at_9 hM)) (zm_fr_s (by omega) (zm_fr_s (by omega) zm_fr_r)) (zm_J_use hJ u16 hk ht (by omega) (fun _ => ⟨by omega, by rw [qar], by rw [qar]; omega⟩) rfl (fun i hi => zm_u_n (by omega)))) (Nat.zero_le _) (Nat.zero_le _)
                        · replace c24 := zk_eq (by omega) (by omega) c24
                          refine zr_bipush C d_M_use_86 (n := 88) rfl (v := -2) (by decide) ?_
                          have e8 : zc_useC (nI k) (nI t) (nI nm) (nI ar) = true := by simp [zc_useC, zc_nb, hb, qk, hm9, c19, c21, c23, qt, qnm]
                          have u16 : 16 ≤ us := by omega
                          simp only [zc_useR_2 e8 u16, zc_useB_2 u16, zc_fn_0, Bool.false_eq_true, if_false] at hK
                          exact zr_iret C d_M_use_88 rfl (hK h S hM zm_fr_r hJ) (Nat.zero_le _) (Nat.zero_le _)
                      · replace c23 := zk_bz c23
                        rw [zc_in_3] at c23
                        refine zr_iconst C d_M_use_75 (n := 76) rfl (v := -1) (by decide) ?_
                        have e8 : zc_useC (nI k) (nI t) (nI nm) x3 = false := by simp [zc_useC, zc_nb, hb, qk, hm9, c19, c21, c23, qt, qnm]
                        simp only [zc_useR_0 e8, zc_useB_0 e8, zc_fn_0, Bool.false_eq_true, if_false] at hK
                        exact zr_iret C d_M_use_76 rfl (hK h S hM zm_fr_r hJ) (Nat.zero_le _) (Nat.zero_le _)
