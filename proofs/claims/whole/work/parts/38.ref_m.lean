theorem zm_at_0 {h : zk_H} {S : zo_O} {us : Nat} {f : Nat → Int32} (hM : zm_at h S us) : zm_at (h.set 39 (.inl (2, 12, .inl f))) (zm_u S 0 f) us := by
  obtain ⟨hm, s0, s1, s2, s3, s4, s5, s6, s7, s8, s9, s10, s11⟩ := hM
  exact ⟨zk_g1 (by omega) hm, zk_g0 s0, zk_g1 (by omega) s1, zk_g1 (by omega) s2, zk_g1 (by omega) s3, zk_g1 (by omega) s4, zk_g1 (by omega) s5, zk_g1 (by omega) s6, zk_g1 (by omega) s7, zk_g1 (by omega) s8, zk_g1 (by omega) s9, zk_g1 (by omega) s10, zk_g1 (by omega) s11⟩
theorem zm_at_1 {h : zk_H} {S : zo_O} {us : Nat} {f : Nat → Int32} (hM : zm_at h S us) : zm_at (h.set 40 (.inl (0, 12, .inl f))) (zm_u S 1 f) us := by
  obtain ⟨hm, s0, s1, s2, s3, s4, s5, s6, s7, s8, s9, s10, s11⟩ := hM
  exact ⟨zk_g1 (by omega) hm, zk_g1 (by omega) s0, zk_g0 s1, zk_g1 (by omega) s2, zk_g1 (by omega) s3, zk_g1 (by omega) s4, zk_g1 (by omega) s5, zk_g1 (by omega) s6, zk_g1 (by omega) s7, zk_g1 (by omega) s8, zk_g1 (by omega) s9, zk_g1 (by omega) s10, zk_g1 (by omega) s11⟩
theorem zm_at_2 {h : zk_H} {S : zo_O} {us : Nat} {f : Nat → Int32} (hM : zm_at h S us) : zm_at (h.set 41 (.inl (0, 12, .inl f))) (zm_u S 2 f) us := by
  obtain ⟨hm, s0, s1, s2, s3, s4, s5, s6, s7, s8, s9, s10, s11⟩ := hM
  exact ⟨zk_g1 (by omega) hm, zk_g1 (by omega) s0, zk_g1 (by omega) s1, zk_g0 s2, zk_g1 (by omega) s3, zk_g1 (by omega) s4, zk_g1 (by omega) s5, zk_g1 (by omega) s6, zk_g1 (by omega) s7, zk_g1 (by omega) s8, zk_g1 (by omega) s9, zk_g1 (by omega) s10, zk_g1 (by omega) s11⟩
theorem zm_at_3 {h : zk_H} {S : zo_O} {us : Nat} {f : Nat → Int32} (hM : zm_at h S us) : zm_at (h.set 42 (.inl (0, 12, .inl f))) (zm_u S 3 f) us := by
  obtain ⟨hm, s0, s1, s2, s3, s4, s5, s6, s7, s8, s9, s10, s11⟩ := hM
  exact ⟨zk_g1 (by omega) hm, zk_g1 (by omega) s0, zk_g1 (by omega) s1, zk_g1 (by omega) s2, zk_g0 s3, zk_g1 (by omega) s4, zk_g1 (by omega) s5, zk_g1 (by omega) s6, zk_g1 (by omega) s7, zk_g1 (by omega) s8, zk_g1 (by omega) s9, zk_g1 (by omega) s10, zk_g1 (by omega) s11⟩
theorem zm_at_4 {h : zk_H} {S : zo_O} {us : Nat} {f : Nat → Int32} (hM : zm_at h S us) : zm_at (h.set 43 (.inl (0, 48, .inl f))) (zm_u S 4 f) us := by
  obtain ⟨hm, s0, s1, s2, s3, s4, s5, s6, s7, s8, s9, s10, s11⟩ := hM
  exact ⟨zk_g1 (by omega) hm, zk_g1 (by omega) s0, zk_g1 (by omega) s1, zk_g1 (by omega) s2, zk_g1 (by omega) s3, zk_g0 s4, zk_g1 (by omega) s5, zk_g1 (by omega) s6, zk_g1 (by omega) s7, zk_g1 (by omega) s8, zk_g1 (by omega) s9, zk_g1 (by omega) s10, zk_g1 (by omega) s11⟩
theorem zm_at_5 {h : zk_H} {S : zo_O} {us : Nat} {f : Nat → Int32} (hM : zm_at h S us) : zm_at (h.set 44 (.inl (0, 48, .inl f))) (zm_u S 5 f) us := by
  obtain ⟨hm, s0, s1, s2, s3, s4, s5, s6, s7, s8, s9, s10, s11⟩ := hM
  exact ⟨zk_g1 (by omega) hm, zk_g1 (by omega) s0, zk_g1 (by omega) s1, zk_g1 (by omega) s2, zk_g1 (by omega) s3, zk_g1 (by omega) s4, zk_g0 s5, zk_g1 (by omega) s6, zk_g1 (by omega) s7, zk_g1 (by omega) s8, zk_g1 (by omega) s9, zk_g1 (by omega) s10, zk_g1 (by omega) s11⟩
theorem zm_at_6 {h : zk_H} {S : zo_O} {us : Nat} {f : Nat → Int32} (hM : zm_at h S us) : zm_at (h.set 45 (.inl (0, 48, .inl f))) (zm_u S 6 f) us := by
  obtain ⟨hm, s0, s1, s2, s3, s4, s5, s6, s7, s8, s9, s10, s11⟩ := hM
  exact ⟨zk_g1 (by omega) hm, zk_g1 (by omega) s0, zk_g1 (by omega) s1, zk_g1 (by omega) s2, zk_g1 (by omega) s3, zk_g1 (by omega) s4, zk_g1 (by omega) s5, zk_g0 s6, zk_g1 (by omega) s7, zk_g1 (by omega) s8, zk_g1 (by omega) s9, zk_g1 (by omega) s10, zk_g1 (by omega) s11⟩
theorem zm_at_7 {h : zk_H} {S : zo_O} {us : Nat} {f : Nat → Int32} (hM : zm_at h S us) : zm_at (h.set 46 (.inl (0, 144, .inl f))) (zm_u S 7 f) us := by
  obtain ⟨hm, s0, s1, s2, s3, s4, s5, s6, s7, s8, s9, s10, s11⟩ := hM
  exact ⟨zk_g1 (by omega) hm, zk_g1 (by omega) s0, zk_g1 (by omega) s1, zk_g1 (by omega) s2, zk_g1 (by omega) s3, zk_g1 (by omega) s4, zk_g1 (by omega) s5, zk_g1 (by omega) s6, zk_g0 s7, zk_g1 (by omega) s8, zk_g1 (by omega) s9, zk_g1 (by omega) s10, zk_g1 (by omega) s11⟩
theorem zm_at_8 {h : zk_H} {S : zo_O} {us : Nat} {f : Nat → Int32} (hM : zm_at h S us) : zm_at (h.set 47 (.inl (0, 144, .inl f))) (zm_u S 8 f) us := by
  obtain ⟨hm, s0, s1, s2, s3, s4, s5, s6, s7, s8, s9, s10, s11⟩ := hM
  exact ⟨zk_g1 (by omega) hm, zk_g1 (by omega) s0, zk_g1 (by omega) s1, zk_g1 (by omega) s2, zk_g1 (by omega) s3, zk_g1 (by omega) s4, zk_g1 (by omega) s5, zk_g1 (by omega) s6, zk_g1 (by omega) s7, zk_g0 s8, zk_g1 (by omega) s9, zk_g1 (by omega) s10, zk_g1 (by omega) s11⟩
theorem zm_at_9 {h : zk_H} {S : zo_O} {us : Nat} {f : Nat → Int32} (hM : zm_at h S us) : zm_at (h.set 48 (.inl (0, 64, .inl f))) (zm_u S 9 f) us := by
  obtain ⟨hm, s0, s1, s2, s3, s4, s5, s6, s7, s8, s9, s10, s11⟩ := hM
  exact ⟨zk_g1 (by omega) hm, zk_g1 (by omega) s0, zk_g1 (by omega) s1, zk_g1 (by omega) s2, zk_g1 (by omega) s3, zk_g1 (by omega) s4, zk_g1 (by omega) s5, zk_g1 (by omega) s6, zk_g1 (by omega) s7, zk_g1 (by omega) s8, zk_g0 s9, zk_g1 (by omega) s10, zk_g1 (by omega) s11⟩
def zm_fr (h h' : zk_H) : Prop := (∀ i, i < 38 → h'[i]? = h[i]?) ∧ h'.length = h.length
theorem zm_fr_r {h : zk_H} : zm_fr h h := ⟨fun _ _ => rfl, rfl⟩
theorem zm_fr_s {h h' : zk_H} {i : Nat} {x : zk_E} (hi : 38 ≤ i) (a : zm_fr h h') : zm_fr h (h'.set i x) := ⟨fun j hj => (zk_gs (by omega)).trans (a.1 j hj), by simp only [List.length_set]; exact a.2⟩
theorem zk_f5 : ∀ k, k < 32 → nI k &&& nI 5 = nI 5 → zb_nz (nI k) (nI 4) = true := by decide +kernel
theorem zk_m13 : ∀ k, k < 16 → zb_nz (nI k) (nI 2) = true → (zb_nz (nI k) (nI 13) = false ↔ nI k = nI 2) := by decide +kernel
abbrev rm_M_type : Room := { frames := 1, cells := 0, slots := 0, locals := 27 }
set_option maxHeartbeats 4000000 in
set_option maxRecDepth 100000 in
/-- type -/
theorem sp_M_type (l : Launch) {h : zk_H} {V : Nat → zo_O} {S : zo_O} {us : Nat} {uk ut un : Nat → Nat} {ua : Nat → Int32} (hM : zm_at h S us) (hJ : zm_J V S us uk ut un ua) {x0 x1 x2 x3 x4 : Int32} {K : Option Value → zk_H → Prop} (hK : ∀ (h' : zk_H) (S' : zo_O), zm_at h' S' us → zm_fr h h' → zm_J (zc_W (zc_typeC V x0 x1 x2 x3 x4) V (zc_up V x0.toNatClampNeg (zc_pt (V x0.toNatClampNeg) x1.toNatClampNeg x2 x3 x4))) S' us uk ut un ua → K (some (.int (zc_R (zc_typeC V x0 x1 x2 x3 x4)))) h') : zk_S l y_M_type b_M_type 8 (some .int) rm_M_type [.ref (38 + 1), .int x0, .int x1, .int x2, .int x3, .int x4] h K := by
  obtain ⟨hm, s0, s1, s2, s3, s4, s5, s6, s7, s8, s9, s10, s11⟩ := id hM
  obtain ⟨hR, hok, hex, hu, hus, hS9⟩ := id hJ
  refine zk_S_of R_M "type" (by decide) rfl rfl [some (.ref (38 + 1)), some (.int x0), some (.int x1), some (.int x2), some (.int x3), some (.int x4), none, none] 2 rfl (Nat.le_of_ble_eq_true rfl) (fun p e s m ar below meth c D dA b base C => ?_)
  refine zr_iload_n C d_M_type_0 (n := 1) rfl rfl ?_
  refine zr_iconst C d_M_type_1 (n := 2) rfl (v := nI 0) (by decide) ?_
  refine zr_iconst C d_M_type_2 (n := 3) rfl (v := nI 1) (by decide) ?_
  refine zr_callS3 C k_M_47 d_M_type_3 (nx := 6) rfl ⟨by decide, by decide⟩ (Nat.le_of_ble_eq_true rfl) ⟨by decide, by decide⟩ (sp_M_in l ?_)
  refine zr_if_eq C d_M_type_6 (n := 9) rfl (t := 50) (by decide) (fun c1 => ?_) (fun c1 => ?_)
  · replace c1 := zk_bz c1
    rw [zc_in_1] at c1
    refine zr_iconst C d_M_type_50 (n := 51) rfl (v := -1) (by decide) ?_
    have e9 : zc_typeC V x0 x1 x2 x3 x4 = false := by simp [zc_typeC, c1]
    rw [e9] at hK
    exact zr_iret C d_M_type_51 rfl (hK h S hM zm_fr_r hJ) (Nat.zero_le _) (Nat.zero_le _)
  · replace c1 := zk_bn c1
    rw [zc_in_1] at c1
    obtain ⟨v, hv, rfl, qv⟩ := zc_bl_n c1 (by first | decide | omega)
    refine zr_iload_n C d_M_type_9 (n := 10) rfl rfl ?_
    refine zr_iconst C d_M_type_10 (n := 11) rfl (v := nI 0) (by decide) ?_
    refine zr_iconst C d_M_type_11 (n := 12) rfl (v := nI 5) (by decide) ?_
    refine zr_callS3 C k_M_47 d_M_type_12 (nx := 15) rfl ⟨by decide, by decide⟩ (Nat.le_of_ble_eq_true rfl) ⟨by decide, by decide⟩ (sp_M_in l ?_)
    refine zr_if_eq C d_M_type_15 (n := 18) rfl (t := 50) (by decide) (fun c2 => ?_) (fun c2 => ?_)
    · replace c2 := zk_bz c2
      rw [zc_in_5] at c2
      refine zr_iconst C d_M_type_50 (n := 51) rfl (v := -1) (by decide) ?_
      have e9 : zc_typeC V (nI v) x1 x2 x3 x4 = false := by simp [zc_typeC, c1, c2, qv]
      rw [e9] at hK
      exact zr_iret C d_M_type_51 rfl (hK h S hM zm_fr_r hJ) (Nat.zero_le _) (Nat.zero_le _)
    · replace c2 := zk_bn c2
      rw [zc_in_5] at c2
      obtain ⟨t, ht, rfl, qt⟩ := zc_bl_n c2 (by first | decide | omega)
      refine zr_iload_n C d_M_type_18 (n := 19) rfl rfl ?_
      refine zr_iconst C d_M_type_19 (n := 20) rfl (v := nI 0) (by decide) ?_
      refine zr_bipush C d_M_type_20 (n := 22) rfl (v := nI 15) (by decide) ?_
      refine zr_callS3 C k_M_47 d_M_type_22 (nx := 25) rfl ⟨by decide, by decide⟩ (Nat.le_of_ble_eq_true rfl) ⟨by decide, by decide⟩ (sp_M_in l ?_)
      refine zr_if_eq C d_M_type_25 (n := 28) rfl (t := 50) (by decide) (fun c3 => ?_) (fun c3 => ?_)
      · replace c3 := zk_bz c3
        rw [zc_in_15] at c3
        refine zr_iconst C d_M_type_50 (n := 51) rfl (v := -1) (by decide) ?_
        have e9 : zc_typeC V (nI v) (nI t) x2 x3 x4 = false := by simp [zc_typeC, c1, c2, c3, qv, qt]
        rw [e9] at hK
        exact zr_iret C d_M_type_51 rfl (hK h S hM zm_fr_r hJ) (Nat.zero_le _) (Nat.zero_le _)
      · replace c3 := zk_bn c3
        rw [zc_in_15] at c3
        obtain ⟨fl, hfl, rfl, qfl⟩ := zc_bl_n c3 (by first | decide | omega)
        refine zr_iload C d_M_type_28 (n := 30) rfl rfl ?_
        refine zr_iconst C d_M_type_30 (n := 31) rfl (v := nI 0) (by decide) ?_
        refine zr_bipush C d_M_type_31 (n := 33) rfl (v := nI 6) (by decide) ?_
        refine zr_callS3 C k_M_47 d_M_type_33 (nx := 36) rfl ⟨by decide, by decide⟩ (Nat.le_of_ble_eq_true rfl) ⟨by decide, by decide⟩ (sp_M_in l ?_)
        refine zr_if_eq C d_M_type_36 (n := 39) rfl (t := 50) (by decide) (fun c4 => ?_) (fun c4 => ?_)
        · replace c4 := zk_bz c4
          rw [zc_in_6] at c4
          refine zr_iconst C d_M_type_50 (n := 51) rfl (v := -1) (by decide) ?_
          have e9 : zc_typeC V (nI v) (nI t) (nI fl) x3 x4 = false := by simp [zc_typeC, c1, c2, c3, c4, qv, qt, qfl]
          rw [e9] at hK
          exact zr_iret C d_M_type_51 rfl (hK h S hM zm_fr_r hJ) (Nat.zero_le _) (Nat.zero_le _)
        · replace c4 := zk_bn c4
          rw [zc_in_6] at c4
          obtain ⟨sp, hsp, rfl, qsp⟩ := zc_bl_n c4 (by first | decide | omega)
          refine zr_iload C d_M_type_39 (n := 41) rfl rfl ?_
          refine zr_iconst C d_M_type_41 (n := 42) rfl (v := nI 0) (by decide) ?_
          refine zr_bipush C d_M_type_42 (n := 44) rfl (v := nI 63) (by decide) ?_
          refine zr_callS3 C k_M_47 d_M_type_44 (nx := 47) rfl ⟨by decide, by decide⟩ (Nat.le_of_ble_eq_true rfl) ⟨by decide, by decide⟩ (sp_M_in l ?_)
          refine zr_if_ne C d_M_type_47 (n := 50) rfl (t := 52) (by decide) (fun c5 => ?_) (fun c5 => ?_)
          · replace c5 := zk_bn c5
            rw [zc_in_63] at c5
            obtain ⟨k, hk, rfl, qk⟩ := zc_bl_n c5 (by first | decide | omega)
            refine zr_bipush C d_M_type_52 (n := 54) rfl (v := nI 6) (by decide) ?_
            refine zr_iload_n C d_M_type_54 (n := 55) rfl rfl ?_
            refine zr_imul C d_M_type_55 (n := 56) rfl ?_
            refine zr_toe (by simp only [pk_mul, nI_add]; rfl) ?_
            refine zr_iload_n C d_M_type_56 (n := 57) rfl rfl ?_
            refine zr_iadd C d_M_type_57 (n := 58) rfl ?_
            refine zr_toe (by simp only [pk_mul, nI_add]; rfl) ?_
            refine zr_istore C d_M_type_58 (n := 60) rfl (by decide) rfl ?_
            refine zr_iload_n C d_M_type_60 (n := 61) rfl rfl ?_
            refine zr_iconst C d_M_type_61 (n := 62) rfl (v := nI 1) (by decide) ?_
            refine zr_iand C d_M_type_62 (n := 63) rfl ?_
            refine zr_if_eq C d_M_type_63 (n := 66) rfl (t := 70) (by decide) (fun c6 => ?_) (fun c6 => ?_)
            · replace c6 := zb_nzf c6
              refine zr_iconst C d_M_type_70 (n := 71) rfl (v := nI 0) (by decide) ?_
              refine zr_istore C d_M_type_71 (n := 73) rfl (by decide) rfl ?_
              refine zr_iload C d_M_type_73 (n := 75) rfl rfl ?_
              refine zr_if_eq C d_M_type_75 (n := 78) rfl (t := 91) (by decide) (fun c7 => ?_) (fun c7 => ?_)
              · refine zr_aload_n C d_M_type_91 (n := 92) rfl rfl ?_
                refine zr_iload_n C d_M_type_92 (n := 93) rfl rfl ?_
                refine zr_iload_n C d_M_type_93 (n := 94) rfl rfl ?_
                refine zr_iload C d_M_type_94 (n := 96) rfl rfl ?_
                refine zr_iload C d_M_type_96 (n := 98) rfl rfl ?_
                refine zr_callV4 C k_M_51 d_M_type_98 (nx := 101) rfl hm rfl ⟨by decide, by decide⟩ (Nat.le_of_ble_eq_true rfl) ⟨by decide, by decide⟩ (sp_M_parentsRight l hM hR hok hv ht (by omega) ?_)
                refine zr_if_ne C d_M_type_101 (n := 104) rfl (t := 106) (by decide) (fun c8 => ?_) (fun c8 => ?_)
                · replace c8 := zk_bn c8
                  refine zr_aload_n C d_M_type_106 (n := 107) rfl rfl ?_
                  refine zr_get C f_M_7 d_M_type_107 (n := 110) rfl hm rfl ?_
                  refine zr_iload C d_M_type_110 (n := 112) rfl rfl ?_
                  refine zr_zaldN C d_M_type_112 (n := 113) rfl s0 rfl (by omega) (by decide) ?_
                  refine zr_toe (y := zk_b (zo_th (V v) t)) ((hR v hv).1 t (by omega)).1 ?_
                  refine zr_if_eq C d_M_type_113 (n := 116) rfl (t := 142) (by decide) (fun c9 => ?_) (fun c9 => ?_)
                  · replace c9 := zk_bz c9
                    refine zr_aload_n C d_M_type_142 (n := 143) rfl rfl ?_
                    refine zr_get C f_M_7 d_M_type_143 (n := 146) rfl hm rfl ?_
                    refine zr_iload C d_M_type_146 (n := 148) rfl rfl ?_
                    refine zr_iconst C d_M_type_148 (n := 149) rfl (v := nI 1) (by decide) ?_
                    refine zr_zastN C d_M_type_149 (n := 150) rfl s0 rfl (by omega) (by decide) (by decide) ?_
                    refine zr_aload_n C d_M_type_150 (n := 151) rfl rfl ?_
                    refine zr_get C f_M_13 d_M_type_151 (n := 154) rfl (zk_g1 (by omega) hm) rfl ?_
                    refine zr_iload C d_M_type_154 (n := 156) rfl rfl ?_
                    refine zr_iload_n C d_M_type_156 (n := 157) rfl rfl ?_
                    refine zr_iastN C d_M_type_157 (n := 158) rfl (zk_g1 (by omega) s1) rfl (by omega) (by decide) ?_
                    refine zr_aload_n C d_M_type_158 (n := 159) rfl rfl ?_
                    refine zr_get C f_M_17 d_M_type_159 (n := 162) rfl (zk_g1 (by omega) (zk_g1 (by omega) hm)) rfl ?_
                    refine zr_iload C d_M_type_162 (n := 164) rfl rfl ?_
                    refine zr_iload C d_M_type_164 (n := 166) rfl rfl ?_
                    refine zr_iastN C d_M_type_166 (n := 167) rfl (zk_g1 (by omega) (zk_g1 (by omega) s2)) rfl (by omega) (by decide) ?_
                    refine zr_aload_n C d_M_type_167 (n := 168) rfl rfl ?_
                    refine zr_get C f_M_20 d_M_type_168 (n := 171) rfl (zk_g1 (by omega) (zk_g1 (by omega) (zk_g1 (by omega) hm))) rfl ?_
                    refine zr_iload C d_M_type_171 (n := 173) rfl rfl ?_
                    refine zr_iload C d_M_type_173 (n := 175) rfl rfl ?_
                    refine zr_iastN C d_M_type_175 (n := 176) rfl (zk_g1 (by omega) (zk_g1 (by omega) (zk_g1 (by omega) s3))) rfl (by omega) (by decide) ?_
                    refine zr_iconst C d_M_type_176 (n := 177) rfl (v := nI 0) (by decide) ?_
                    have ty : zc_ty1 (nI fl) sp = true := by simp [zc_ty1, c6]
                    have e9 : zc_typeC V (nI v) (nI t) (nI fl) (nI sp) (nI k) = true := by
                      rw [zc_typeC, qv, qt, qsp, c1, c2, c3, c4, c5, ty, c8, c9]
                      rfl
                    rw [e9, qv, qt] at hK
                    exact zr_iret C d_M_type_177 rfl (hK _ _ (zm_at_3 (zm_at_2 (zm_at_1 (zm_at_0 hM)))) (zm_fr_s (by omega) (zm_fr_s (by omega) (zm_fr_s (by omega) (zm_fr_s (by omega) zm_fr_r)))) (zm_J_type hJ hv ht (zk_nm1 (by omega)) hk c8 rfl rfl rfl rfl (fun i h1 h2 => (zm_u_n (by omega)).trans ((zm_u_n (by omega)).trans ((zm_u_n (by omega)).trans (zm_u_n (by omega))))))) (Nat.zero_le _) (Nat.zero_le _)
                  · replace c9 := zk_bn c9
                    refine zr_aload_n C d_M_type_116 (n := 117) rfl rfl ?_
                    refine zr_get C f_M_13 d_M_type_117 (n := 120) rfl hm rfl ?_
                    refine zr_iload C d_M_type_120 (n := 122) rfl rfl ?_
                    refine zr_ialdN C d_M_type_122 (n := 123) rfl s1 rfl (by omega) (by decide) ?_
                    refine zr_toe (y := V v 0 t) (((hR v hv).1 t (by omega)).2 c9).1 ?_
                    refine zr_iconst C d_M_type_123 (n := 124) rfl (v := nI 1) (by decide) ?_
                    refine zr_iand C d_M_type_124 (n := 125) rfl ?_
                    refine zr_iload_n C d_M_type_125 (n := 126) rfl rfl ?_
                    refine zr_iconst C d_M_type_126 (n := 127) rfl (v := nI 1) (by decide) ?_
                    refine zr_iand C d_M_type_127 (n := 128) rfl ?_
                    refine zr_icmp_eq C d_M_type_128 (n := 131) rfl (t := 142) (by decide) (fun c10 => ?_) (fun c10 => ?_)
                    · replace c10 : decide (¬ zb_nz (V v 0 t) (nI 1) = zb_nz (nI fl) (nI 1)) = false := decide_eq_false (fun q => q (zk_same1.mp c10))
                      refine zr_aload_n C d_M_type_142 (n := 143) rfl rfl ?_
                      refine zr_get C f_M_7 d_M_type_143 (n := 146) rfl hm rfl ?_
                      refine zr_iload C d_M_type_146 (n := 148) rfl rfl ?_
                      refine zr_iconst C d_M_type_148 (n := 149) rfl (v := nI 1) (by decide) ?_
                      refine zr_zastN C d_M_type_149 (n := 150) rfl s0 rfl (by omega) (by decide) (by decide) ?_
                      refine zr_aload_n C d_M_type_150 (n := 151) rfl rfl ?_
                      refine zr_get C f_M_13 d_M_type_151 (n := 154) rfl (zk_g1 (by omega) hm) rfl ?_
                      refine zr_iload C d_M_type_154 (n := 156) rfl rfl ?_
                      refine zr_iload_n C d_M_type_156 (n := 157) rfl rfl ?_
                      refine zr_iastN C d_M_type_157 (n := 158) rfl (zk_g1 (by omega) s1) rfl (by omega) (by decide) ?_
                      refine zr_aload_n C d_M_type_158 (n := 159) rfl rfl ?_
                      refine zr_get C f_M_17 d_M_type_159 (n := 162) rfl (zk_g1 (by omega) (zk_g1 (by omega) hm)) rfl ?_
                      refine zr_iload C d_M_type_162 (n := 164) rfl rfl ?_
                      refine zr_iload C d_M_type_164 (n := 166) rfl rfl ?_
                      refine zr_iastN C d_M_type_166 (n := 167) rfl (zk_g1 (by omega) (zk_g1 (by omega) s2)) rfl (by omega) (by decide) ?_
                      refine zr_aload_n C d_M_type_167 (n := 168) rfl rfl ?_
                      refine zr_get C f_M_20 d_M_type_168 (n := 171) rfl (zk_g1 (by omega) (zk_g1 (by omega) (zk_g1 (by omega) hm))) rfl ?_
                      refine zr_iload C d_M_type_171 (n := 173) rfl rfl ?_
                      refine zr_iload C d_M_type_173 (n := 175) rfl rfl ?_
                      refine zr_iastN C d_M_type_175 (n := 176) rfl (zk_g1 (by omega) (zk_g1 (by omega) (zk_g1 (by omega) s3))) rfl (by omega) (by decide) ?_
                      refine zr_iconst C d_M_type_176 (n := 177) rfl (v := nI 0) (by decide) ?_
                      have ty : zc_ty1 (nI fl) sp = true := by simp [zc_ty1, c6]
                      have e9 : zc_typeC V (nI v) (nI t) (nI fl) (nI sp) (nI k) = true := by
                        rw [zc_typeC, qv, qt, qsp, c1, c2, c3, c4, c5, ty, c8, c9, zo_hf_nz (x := nI 1) c9, c10]
                        rfl
                      rw [e9, qv, qt] at hK
                      exact zr_iret C d_M_type_177 rfl (hK _ _ (zm_at_3 (zm_at_2 (zm_at_1 (zm_at_0 hM)))) (zm_fr_s (by omega) (zm_fr_s (by omega) (zm_fr_s (by omega) (zm_fr_s (by omega) zm_fr_r)))) (zm_J_type hJ hv ht (zk_nm1 (by omega)) hk c8 rfl rfl rfl rfl (fun i h1 h2 => (zm_u_n (by omega)).trans ((zm_u_n (by omega)).trans ((zm_u_n (by omega)).trans (zm_u_n (by omega))))))) (Nat.zero_le _) (Nat.zero_le _)
                    · replace c10 : decide (¬ zb_nz (V v 0 t) (nI 1) = zb_nz (nI fl) (nI 1)) = true := decide_eq_true (fun q => c10 (zk_same1.mpr q))
                      refine zr_aload_n C d_M_type_131 (n := 132) rfl rfl ?_
                      refine zr_iload_n C d_M_type_132 (n := 133) rfl rfl ?_
                      refine zr_iload_n C d_M_type_133 (n := 134) rfl rfl ?_
                      refine zr_callV2 C k_M_55 d_M_type_134 (nx := 137) rfl hm rfl ⟨by decide, by decide⟩ (Nat.le_of_ble_eq_true rfl) ⟨by decide, by decide⟩ (sp_M_named l hM hR hok hv ht ?_)
                      refine zr_if_eq C d_M_type_137 (n := 140) rfl (t := 142) (by decide) (fun c11 => ?_) (fun c11 => ?_)
                      · replace c11 := zk_bz c11
                        refine zr_aload_n C d_M_type_142 (n := 143) rfl rfl ?_
                        refine zr_get C f_M_7 d_M_type_143 (n := 146) rfl hm rfl ?_
                        refine zr_iload C d_M_type_146 (n := 148) rfl rfl ?_
                        refine zr_iconst C d_M_type_148 (n := 149) rfl (v := nI 1) (by decide) ?_
                        refine zr_zastN C d_M_type_149 (n := 150) rfl s0 rfl (by omega) (by decide) (by decide) ?_
                        refine zr_aload_n C d_M_type_150 (n := 151) rfl rfl ?_
                        refine zr_get C f_M_13 d_M_type_151 (n := 154) rfl (zk_g1 (by omega) hm) rfl ?_
                        refine zr_iload C d_M_type_154 (n := 156) rfl rfl ?_
                        refine zr_iload_n C d_M_type_156 (n := 157) rfl rfl ?_
                        refine zr_iastN C d_M_type_157 (n := 158) rfl (zk_g1 (by omega) s1) rfl (by omega) (by decide) ?_
                        refine zr_aload_n C d_M_type_158 (n := 159) rfl rfl ?_
                        refine zr_get C f_M_17 d_M_type_159 (n := 162) rfl (zk_g1 (by omega) (zk_g1 (by omega) hm)) rfl ?_
                        refine zr_iload C d_M_type_162 (n := 164) rfl rfl ?_
                        refine zr_iload C d_M_type_164 (n := 166) rfl rfl ?_
                        refine zr_iastN C d_M_type_166 (n := 167) rfl (zk_g1 (by omega) (zk_g1 (by omega) s2)) rfl (by omega) (by decide) ?_
                        refine zr_aload_n C d_M_type_167 (n := 168) rfl rfl ?_
                        refine zr_get C f_M_20 d_M_type_168 (n := 171) rfl (zk_g1 (by omega) (zk_g1 (by omega) (zk_g1 (by omega) hm))) rfl ?_
                        refine zr_iload C d_M_type_171 (n := 173) rfl rfl ?_
                        refine zr_iload C d_M_type_173 (n := 175) rfl rfl ?_
                        refine zr_iastN C d_M_type_175 (n := 176) rfl (zk_g1 (by omega) (zk_g1 (by omega) (zk_g1 (by omega) s3))) rfl (by omega) (by decide) ?_
                        refine zr_iconst C d_M_type_176 (n := 177) rfl (v := nI 0) (by decide) ?_
                        have ty : zc_ty1 (nI fl) sp = true := by simp [zc_ty1, c6]
                        have e9 : zc_typeC V (nI v) (nI t) (nI fl) (nI sp) (nI k) = true := by
                          rw [zc_typeC, qv, qt, qsp, c1, c2, c3, c4, c5, ty, c8, c9, zo_hf_nz (x := nI 1) c9, c10, c11]
                          rfl
                        rw [e9, qv, qt] at hK
                        exact zr_iret C d_M_type_177 rfl (hK _ _ (zm_at_3 (zm_at_2 (zm_at_1 (zm_at_0 hM)))) (zm_fr_s (by omega) (zm_fr_s (by omega) (zm_fr_s (by omega) (zm_fr_s (by omega) zm_fr_r)))) (zm_J_type hJ hv ht (zk_nm1 (by omega)) hk c8 rfl rfl rfl rfl (fun i h1 h2 => (zm_u_n (by omega)).trans ((zm_u_n (by omega)).trans ((zm_u_n (by omega)).trans (zm_u_n (by omega))))))) (Nat.zero_le _) (Nat.zero_le _)
                      · replace c11 := zk_bn c11
                        refine zr_iconst C d_M_type_140 (n := 141) rfl (v := -1) (by decide) ?_
                        have ty : zc_ty1 (nI fl) sp = true := by simp [zc_ty1, c6]
                        have e9 : zc_typeC V (nI v) (nI t) (nI fl) (nI sp) (nI k) = false := by
                          rw [zc_typeC, qv, qt, qsp, c1, c2, c3, c4, c5, ty, c8, c9, zo_hf_nz (x := nI 1) c9, c10, c11]
                          rfl
                        rw [e9] at hK
                        exact zr_iret C d_M_type_141 rfl (hK h S hM zm_fr_r hJ) (Nat.zero_le _) (Nat.zero_le _)
                · replace c8 := zk_bz c8
                  refine zr_iconst C d_M_type_104 (n := 105) rfl (v := -1) (by decide) ?_
                  have ty : zc_ty1 (nI fl) sp = true := by simp [zc_ty1, c6]
                  have e9 : zc_typeC V (nI v) (nI t) (nI fl) (nI sp) (nI k) = false := by
                    rw [zc_typeC, qv, qt, qsp, c1, c2, c3, c4, c5, ty, c8]
                    rfl
                  rw [e9] at hK
                  exact zr_iret C d_M_type_105 rfl (hK h S hM zm_fr_r hJ) (Nat.zero_le _) (Nat.zero_le _)
              · exact absurd rfl c7
            · replace c6 := zb_nzt c6
              refine zr_iconst C d_M_type_66 (n := 67) rfl (v := nI 1) (by decide) ?_
              refine zr_goto C d_M_type_67 (t := 71) (by decide) ?_
              refine zr_istore C d_M_type_71 (n := 73) rfl (by decide) rfl ?_
              refine zr_iload C d_M_type_73 (n := 75) rfl rfl ?_
              refine zr_if_eq C d_M_type_75 (n := 78) rfl (t := 91) (by decide) (fun c12 => ?_) (fun c12 => ?_)
              · exact absurd c12 (by decide)
              · refine zr_iload C d_M_type_78 (n := 80) rfl rfl ?_
                refine zr_bipush C d_M_type_80 (n := 82) rfl (v := nI 6) (by decide) ?_
                refine zr_icmp_lt C d_M_type_82 (n := 85) rfl (t := 104) (by decide) (fun c13 => ?_) (fun c13 => ?_)
                · replace c13 : ¬ sp = 6 := by have := zk_lt (by omega) (by omega) c13; omega
                  refine zr_iconst C d_M_type_104 (n := 105) rfl (v := -1) (by decide) ?_
                  have ty : zc_ty1 (nI fl) sp = false := by simp [zc_ty1, c6, c13]
                  have e9 : zc_typeC V (nI v) (nI t) (nI fl) (nI sp) (nI k) = false := by
                    rw [zc_typeC, qv, qt, qsp, c1, c2, c3, c4, c5, ty]
                    rfl
                  rw [e9] at hK
                  exact zr_iret C d_M_type_105 rfl (hK h S hM zm_fr_r hJ) (Nat.zero_le _) (Nat.zero_le _)
                · replace c13 : sp = 6 := by have := zk_nlt (by omega) (by omega) c13; omega
                  refine zr_iload_n C d_M_type_85 (n := 86) rfl rfl ?_
                  refine zr_iconst C d_M_type_86 (n := 87) rfl (v := nI 4) (by decide) ?_
                  refine zr_iand C d_M_type_87 (n := 88) rfl ?_
                  refine zr_if_ne C d_M_type_88 (n := 91) rfl (t := 104) (by decide) (fun c14 => ?_) (fun c14 => ?_)
                  · replace c14 := zb_nzt c14
                    refine zr_iconst C d_M_type_104 (n := 105) rfl (v := -1) (by decide) ?_
                    have ty : zc_ty1 (nI fl) sp = false := by simp [zc_ty1, c6, c13, c14]
                    have e9 : zc_typeC V (nI v) (nI t) (nI fl) (nI sp) (nI k) = false := by
                      rw [zc_typeC, qv, qt, qsp, c1, c2, c3, c4, c5, ty]
                      rfl
                    rw [e9] at hK
                    exact zr_iret C d_M_type_105 rfl (hK h S hM zm_fr_r hJ) (Nat.zero_le _) (Nat.zero_le _)
                  · replace c14 := zb_nzf c14
                    refine zr_aload_n C d_M_type_91 (n := 92) rfl rfl ?_
                    refine zr_iload_n C d_M_type_92 (n := 93) rfl rfl ?_
                    refine zr_iload_n C d_M_type_93 (n := 94) rfl rfl ?_
                    refine zr_iload C d_M_type_94 (n := 96) rfl rfl ?_
                    refine zr_iload C d_M_type_96 (n := 98) rfl rfl ?_
                    refine zr_callV4 C k_M_51 d_M_type_98 (nx := 101) rfl hm rfl ⟨by decide, by decide⟩ (Nat.le_of_ble_eq_true rfl) ⟨by decide, by decide⟩ (sp_M_parentsRight l hM hR hok hv ht (by omega) ?_)
                    refine zr_if_ne C d_M_type_101 (n := 104) rfl (t := 106) (by decide) (fun c15 => ?_) (fun c15 => ?_)
                    · replace c15 := zk_bn c15
                      refine zr_aload_n C d_M_type_106 (n := 107) rfl rfl ?_
                      refine zr_get C f_M_7 d_M_type_107 (n := 110) rfl hm rfl ?_
                      refine zr_iload C d_M_type_110 (n := 112) rfl rfl ?_
                      refine zr_zaldN C d_M_type_112 (n := 113) rfl s0 rfl (by omega) (by decide) ?_
                      refine zr_toe (y := zk_b (zo_th (V v) t)) ((hR v hv).1 t (by omega)).1 ?_
                      refine zr_if_eq C d_M_type_113 (n := 116) rfl (t := 142) (by decide) (fun c16 => ?_) (fun c16 => ?_)
                      · replace c16 := zk_bz c16
                        refine zr_aload_n C d_M_type_142 (n := 143) rfl rfl ?_
                        refine zr_get C f_M_7 d_M_type_143 (n := 146) rfl hm rfl ?_
                        refine zr_iload C d_M_type_146 (n := 148) rfl rfl ?_
                        refine zr_iconst C d_M_type_148 (n := 149) rfl (v := nI 1) (by decide) ?_
                        refine zr_zastN C d_M_type_149 (n := 150) rfl s0 rfl (by omega) (by decide) (by decide) ?_
                        refine zr_aload_n C d_M_type_150 (n := 151) rfl rfl ?_
                        refine zr_get C f_M_13 d_M_type_151 (n := 154) rfl (zk_g1 (by omega) hm) rfl ?_
                        refine zr_iload C d_M_type_154 (n := 156) rfl rfl ?_
                        refine zr_iload_n C d_M_type_156 (n := 157) rfl rfl ?_
                        refine zr_iastN C d_M_type_157 (n := 158) rfl (zk_g1 (by omega) s1) rfl (by omega) (by decide) ?_
                        refine zr_aload_n C d_M_type_158 (n := 159) rfl rfl ?_
                        refine zr_get C f_M_17 d_M_type_159 (n := 162) rfl (zk_g1 (by omega) (zk_g1 (by omega) hm)) rfl ?_
                        refine zr_iload C d_M_type_162 (n := 164) rfl rfl ?_
                        refine zr_iload C d_M_type_164 (n := 166) rfl rfl ?_
                        refine zr_iastN C d_M_type_166 (n := 167) rfl (zk_g1 (by omega) (zk_g1 (by omega) s2)) rfl (by omega) (by decide) ?_
                        refine zr_aload_n C d_M_type_167 (n := 168) rfl rfl ?_
                        refine zr_get C f_M_20 d_M_type_168 (n := 171) rfl (zk_g1 (by omega) (zk_g1 (by omega) (zk_g1 (by omega) hm))) rfl ?_
                        refine zr_iload C d_M_type_171 (n := 173) rfl rfl ?_
                        refine zr_iload C d_M_type_173 (n := 175) rfl rfl ?_
                        refine zr_iastN C d_M_type_175 (n := 176) rfl (zk_g1 (by omega) (zk_g1 (by omega) (zk_g1 (by omega) s3))) rfl (by omega) (by decide) ?_
                        refine zr_iconst C d_M_type_176 (n := 177) rfl (v := nI 0) (by decide) ?_
                        have ty : zc_ty1 (nI fl) sp = true := by simp [zc_ty1, c6, c13, c14]
                        have e9 : zc_typeC V (nI v) (nI t) (nI fl) (nI sp) (nI k) = true := by
                          rw [zc_typeC, qv, qt, qsp, c1, c2, c3, c4, c5, ty, c15, c16]
                          rfl
                        rw [e9, qv, qt] at hK
                        exact zr_iret C d_M_type_177 rfl (hK _ _ (zm_at_3 (zm_at_2 (zm_at_1 (zm_at_0 hM)))) (zm_fr_s (by omega) (zm_fr_s (by omega) (zm_fr_s (by omega) (zm_fr_s (by omega) zm_fr_r)))) (zm_J_type hJ hv ht (zk_nm1 (by omega)) hk c15 rfl rfl rfl rfl (fun i h1 h2 => (zm_u_n (by omega)).trans ((zm_u_n (by omega)).trans ((zm_u_n (by omega)).trans (zm_u_n (by omega))))))) (Nat.zero_le _) (Nat.zero_le _)
                      · replace c16 := zk_bn c16
                        refine zr_aload_n C d_M_type_116 (n := 117) rfl rfl ?_
                        refine zr_get C f_M_13 d_M_type_117 (n := 120) rfl hm rfl ?_
                        refine zr_iload C d_M_type_120 (n := 122) rfl rfl ?_
                        refine zr_ialdN C d_M_type_122 (n := 123) rfl s1 rfl (by omega) (by decide) ?_
                        refine zr_toe (y := V v 0 t) (((hR v hv).1 t (by omega)).2 c16).1 ?_
                        refine zr_iconst C d_M_type_123 (n := 124) rfl (v := nI 1) (by decide) ?_
                        refine zr_iand C d_M_type_124 (n := 125) rfl ?_
                        refine zr_iload_n C d_M_type_125 (n := 126) rfl rfl ?_
                        refine zr_iconst C d_M_type_126 (n := 127) rfl (v := nI 1) (by decide) ?_
                        refine zr_iand C d_M_type_127 (n := 128) rfl ?_
                        refine zr_icmp_eq C d_M_type_128 (n := 131) rfl (t := 142) (by decide) (fun c17 => ?_) (fun c17 => ?_)
                        · replace c17 : decide (¬ zb_nz (V v 0 t) (nI 1) = zb_nz (nI fl) (nI 1)) = false := decide_eq_false (fun q => q (zk_same1.mp c17))
                          refine zr_aload_n C d_M_type_142 (n := 143) rfl rfl ?_
                          refine zr_get C f_M_7 d_M_type_143 (n := 146) rfl hm rfl ?_
                          refine zr_iload C d_M_type_146 (n := 148) rfl rfl ?_
                          refine zr_iconst C d_M_type_148 (n := 149) rfl (v := nI 1) (by decide) ?_
                          refine zr_zastN C d_M_type_149 (n := 150) rfl s0 rfl (by omega) (by decide) (by decide) ?_
                          refine zr_aload_n C d_M_type_150 (n := 151) rfl rfl ?_
                          refine zr_get C f_M_13 d_M_type_151 (n := 154) rfl (zk_g1 (by omega) hm) rfl ?_
                          refine zr_iload C d_M_type_154 (n := 156) rfl rfl ?_
                          refine zr_iload_n C d_M_type_156 (n := 157) rfl rfl ?_
                          refine zr_iastN C d_M_type_157 (n := 158) rfl (zk_g1 (by omega) s1) rfl (by omega) (by decide) ?_
                          refine zr_aload_n C d_M_type_158 (n := 159) rfl rfl ?_
                          refine zr_get C f_M_17 d_M_type_159 (n := 162) rfl (zk_g1 (by omega) (zk_g1 (by omega) hm)) rfl ?_
                          refine zr_iload C d_M_type_162 (n := 164) rfl rfl ?_
                          refine zr_iload C d_M_type_164 (n := 166) rfl rfl ?_
                          refine zr_iastN C d_M_type_166 (n := 167) rfl (zk_g1 (by omega) (zk_g1 (by omega) s2)) rfl (by omega) (by decide) ?_
                          refine zr_aload_n C d_M_type_167 (n := 168) rfl rfl ?_
                          refine zr_get C f_M_20 d_M_type_168 (n := 171) rfl (zk_g1 (by omega) (zk_g1 (by omega) (zk_g1 (by omega) hm))) rfl ?_
                          refine zr_iload C d_M_type_171 (n := 173) rfl rfl ?_
                          refine zr_iload C d_M_type_173 (n := 175) rfl rfl ?_
                          refine zr_iastN C d_M_type_175 (n := 176) rfl (zk_g1 (by omega) (zk_g1 (by omega) (zk_g1 (by omega) s3))) rfl (by omega) (by decide) ?_
                          refine zr_iconst C d_M_type_176 (n := 177) rfl (v := nI 0) (by decide) ?_
                          have ty : zc_ty1 (nI fl) sp = true := by simp [zc_ty1, c6, c13, c14]
                          have e9 : zc_typeC V (nI v) (nI t) (nI fl) (nI sp) (nI k) = true := by
                            rw [zc_typeC, qv, qt, qsp, c1, c2, c3, c4, c5, ty, c15, c16, zo_hf_nz (x := nI 1) c16, c17]
                            rfl
                          rw [e9, qv, qt] at hK
                          exact zr_iret C d_M_type_177 rfl (hK _ _ (zm_at_3 (zm_at_2 (zm_at_1 (zm_at_0 hM)))) (zm_fr_s (by omega) (zm_fr_s (by omega) (zm_fr_s (by omega) (zm_fr_s (by omega) zm_fr_r)))) (zm_J_type hJ hv ht (zk_nm1 (by omega)) hk c15 rfl rfl rfl rfl (fun i h1 h2 => (zm_u_n (by omega)).trans ((zm_u_n (by omega)).trans ((zm_u_n (by omega)).trans (zm_u_n (by omega))))))) (Nat.zero_le _) (Nat.zero_le _)
                        · replace c17 : decide (¬ zb_nz (V v 0 t) (nI 1) = zb_nz (nI fl) (nI 1)) = true := decide_eq_true (fun q => c17 (zk_same1.mpr q))
                          refine zr_aload_n C d_M_type_131 (n := 132) rfl rfl ?_
                          refine zr_iload_n C d_M_type_132 (n := 133) rfl rfl ?_
                          refine zr_iload_n C d_M_type_133 (n := 134) rfl rfl ?_
                          refine zr_callV2 C k_M_55 d_M_type_134 (nx := 137) rfl hm rfl ⟨by decide, by decide⟩ (Nat.le_of_ble_eq_true rfl) ⟨by decide, by decide⟩ (sp_M_named l hM hR hok hv ht ?_)
                          refine zr_if_eq C d_M_type_137 (n := 140) rfl (t := 142) (by decide) (fun c18 => ?_) (fun c18 => ?_)
                          · replace c18 := zk_bz c18
                            refine zr_aload_n C d_M_type_142 (n := 143) rfl rfl ?_
                            refine zr_get C f_M_7 d_M_type_143 (n := 146) rfl hm rfl ?_
                            refine zr_iload C d_M_type_146 (n := 148) rfl rfl ?_
                            refine zr_iconst C d_M_type_148 (n := 149) rfl (v := nI 1) (by decide) ?_
                            refine zr_zastN C d_M_type_149 (n := 150) rfl s0 rfl (by omega) (by decide) (by decide) ?_
                            refine zr_aload_n C d_M_type_150 (n := 151) rfl rfl ?_
                            refine zr_get C f_M_13 d_M_type_151 (n := 154) rfl (zk_g1 (by omega) hm) rfl ?_
                            refine zr_iload C d_M_type_154 (n := 156) rfl rfl ?_
                            refine zr_iload_n C d_M_type_156 (n := 157) rfl rfl ?_
                            refine zr_iastN C d_M_type_157 (n := 158) rfl (zk_g1 (by omega) s1) rfl (by omega) (by decide) ?_
                            refine zr_aload_n C d_M_type_158 (n := 159) rfl rfl ?_
                            refine zr_get C f_M_17 d_M_type_159 (n := 162) rfl (zk_g1 (by omega) (zk_g1 (by omega) hm)) rfl ?_
                            refine zr_iload C d_M_type_162 (n := 164) rfl rfl ?_
                            refine zr_iload C d_M_type_164 (n := 166) rfl rfl ?_
                            refine zr_iastN C d_M_type_166 (n := 167) rfl (zk_g1 (by omega) (zk_g1 (by omega) s2)) rfl (by omega) (by decide) ?_
                            refine zr_aload_n C d_M_type_167 (n := 168) rfl rfl ?_
                            refine zr_get C f_M_20 d_M_type_168 (n := 171) rfl (zk_g1 (by omega) (zk_g1 (by omega) (zk_g1 (by omega) hm))) rfl ?_
                            refine zr_iload C d_M_type_171 (n := 173) rfl rfl ?_
                            refine zr_iload C d_M_type_173 (n := 175) rfl rfl ?_
                            refine zr_iastN C d_M_type_175 (n := 176) rfl (zk_g1 (by omega) (zk_g1 (by omega) (zk_g1 (by omega) s3))) rfl (by omega) (by decide) ?_
                            refine zr_iconst C d_M_type_176 (n := 177) rfl (v := nI 0) (by decide) ?_
                            have ty : zc_ty1 (nI fl) sp = true := by simp [zc_ty1, c6, c13, c14]
                            have e9 : zc_typeC V (nI v) (nI t) (nI fl) (nI sp) (nI k) = true := by
                              rw [zc_typeC, qv, qt, qsp, c1, c2, c3, c4, c5, ty, c15, c16, zo_hf_nz (x := nI 1) c16, c17, c18]
                              rfl
                            rw [e9, qv, qt] at hK
                            exact zr_iret C d_M_type_177 rfl (hK _ _ (zm_at_3 (zm_at_2 (zm_at_1 (zm_at_0 hM)))) (zm_fr_s (by omega) (zm_fr_s (by omega) (zm_fr_s (by omega) (zm_fr_s (by omega) zm_fr_r)))) (zm_J_type hJ hv ht (zk_nm1 (by omega)) hk c15 rfl rfl rfl rfl (fun i h1 h2 => (zm_u_n (by omega)).trans ((zm_u_n (by omega)).trans ((zm_u_n (by omega)).trans (zm_u_n (by omega))))))) (Nat.zero_le _) (Nat.zero_le _)
                          · replace c18 := zk_bn c18
                            refine zr_iconst C d_M_type_140 (n := 141) rfl (v := -1) (by decide) ?_
                            have ty : zc_ty1 (nI fl) sp = true := by simp [zc_ty1, c6, c13, c14]
                            have e9 : zc_typeC V (nI v) (nI t) (nI fl) (nI sp) (nI k) = false := by
                              rw [zc_typeC, qv, qt, qsp, c1, c2, c3, c4, c5, ty, c15, c16, zo_hf_nz (x := nI 1) c16, c17, c18]
                              rfl
                            rw [e9] at hK
                            exact zr_iret C d_M_type_141 rfl (hK h S hM zm_fr_r hJ) (Nat.zero_le _) (Nat.zero_le _)
                    · replace c15 := zk_bz c15
                      refine zr_iconst C d_M_type_104 (n := 105) rfl (v := -1) (by decide) ?_
                      have ty : zc_ty1 (nI fl) sp = true := by simp [zc_ty1, c6, c13, c14]
                      have e9 : zc_typeC V (nI v) (nI t) (nI fl) (nI sp) (nI k) = false := by
                        rw [zc_typeC, qv, qt, qsp, c1, c2, c3, c4, c5, ty, c15]
                        rfl
                      rw [e9] at hK
                      exact zr_iret C d_M_type_105 rfl (hK h S hM zm_fr_r hJ) (Nat.zero_le _) (Nat.zero_le _)
          · replace c5 := zk_bz c5
            rw [zc_in_63] at c5
            refine zr_iconst C d_M_type_50 (n := 51) rfl (v := -1) (by decide) ?_
            have e9 : zc_typeC V (nI v) (nI t) (nI fl) (nI sp) x4 = false := by simp [zc_typeC, c1, c2, c3, c4, c5, qv, qt, qfl, qsp]
            rw [e9] at hK
            exact zr_iret C d_M_type_51 rfl (hK h S hM zm_fr_r hJ) (Nat.zero_le _) (Nat.zero_le _)
abbrev rm_M_field : Room := { frames := 1, cells := 0, slots := 0, locals := 22 }
set_option maxHeartbeats 4000000 in
set_option maxRecDepth 100000 in
/-- field -/
theorem sp_M_field (l : Launch) {h : zk_H} {V : Nat → zo_O} {S : zo_O} {us : Nat} {uk ut un : Nat → Nat} {ua : Nat → Int32} (hM : zm_at h S us) (hJ : zm_J V S us uk ut un ua) {x0 x1 x2 x3 : Int32} {K : Option Value → zk_H → Prop} (hK : ∀ (h' : zk_H) (S' : zo_O), zm_at h' S' us → zm_fr h h' → zm_J (zc_W (zc_fieldC V x0 x1 x2) V (zc_up V (x0.toNatClampNeg / 12) (zc_pf (V (x0.toNatClampNeg / 12)) (x0.toNatClampNeg / 2 % 6 * 4 + x1.toNatClampNeg) (nI (x0.toNatClampNeg % 2)) x2 x3))) S' us uk ut un ua → K (some (.int (zc_R (zc_fieldC V x0 x1 x2)))) h') : zk_S l y_M_field b_M_field 6 (some .int) rm_M_field [.ref (38 + 1), .int x0, .int x1, .int x2, .int x3] h K := by
  obtain ⟨hm, s0, s1, s2, s3, s4, s5, s6, s7, s8, s9, s10, s11⟩ := id hM
  obtain ⟨hR, hok, hex, hu, hus, hS9⟩ := id hJ
  refine zk_S_of R_M "field" (by decide) rfl rfl [some (.ref (38 + 1)), some (.int x0), some (.int x1), some (.int x2), some (.int x3), none] 1 rfl (Nat.le_of_ble_eq_true rfl) (fun p e s m ar below meth c D dA b base C => ?_)
  refine zr_iload_n C d_M_field_0 (n := 1) rfl rfl ?_
  refine zr_iconst C d_M_field_1 (n := 2) rfl (v := nI 0) (by decide) ?_
  refine zr_bipush C d_M_field_2 (n := 4) rfl (v := nI 23) (by decide) ?_
  refine zr_callS3 C k_M_47 d_M_field_4 (nx := 7) rfl ⟨by decide, by decide⟩ (Nat.le_of_ble_eq_true rfl) ⟨by decide, by decide⟩ (sp_M_in l ?_)
  refine zr_if_eq C d_M_field_7 (n := 10) rfl (t := 46) (by decide) (fun c1 => ?_) (fun c1 => ?_)
  · replace c1 := zk_bz c1
    rw [zc_in_23] at c1
    refine zr_iconst C d_M_field_46 (n := 47) rfl (v := -1) (by decide) ?_
    have e9 : zc_fieldC V x0 x1 x2 = false := by simp [zc_fieldC, zc_ff, c1]
    rw [e9] at hK
    exact zr_iret C d_M_field_47 rfl (hK h S hM zm_fr_r hJ) (Nat.zero_le _) (Nat.zero_le _)
  · replace c1 := zk_bn c1
    rw [zc_in_23] at c1
    obtain ⟨sp, hsp, rfl, qsp⟩ := zc_bl_n c1 (by first | decide | omega)
    obtain ⟨v, ev⟩ : ∃ v, v = sp / 12 := ⟨_, rfl⟩
    obtain ⟨t, et⟩ : ∃ t, t = sp / 2 % 6 := ⟨_, rfl⟩
    have hv : v < 2 := by omega
    have ht : t < 6 := by omega
    refine zr_iload_n C d_M_field_10 (n := 11) rfl rfl ?_
    refine zr_iconst C d_M_field_11 (n := 12) rfl (v := nI 0) (by decide) ?_
    refine zr_iconst C d_M_field_12 (n := 13) rfl (v := nI 3) (by decide) ?_
    refine zr_callS3 C k_M_47 d_M_field_13 (nx := 16) rfl ⟨by decide, by decide⟩ (Nat.le_of_ble_eq_true rfl) ⟨by decide, by decide⟩ (sp_M_in l ?_)
    refine zr_if_eq C d_M_field_16 (n := 19) rfl (t := 46) (by decide) (fun c2 => ?_) (fun c2 => ?_)
    · replace c2 := zk_bz c2
      rw [zc_in_3] at c2
      refine zr_iconst C d_M_field_46 (n := 47) rfl (v := -1) (by decide) ?_
      have e9 : zc_fieldC V (nI sp) x1 x2 = false := by simp [zc_fieldC, zc_ff, c1, c2, qsp, ← ev, ← et]
      rw [e9] at hK
      exact zr_iret C d_M_field_47 rfl (hK h S hM zm_fr_r hJ) (Nat.zero_le _) (Nat.zero_le _)
    · replace c2 := zk_bn c2
      rw [zc_in_3] at c2
      obtain ⟨nm, hnm, rfl, qnm⟩ := zc_bl_n c2 (by first | decide | omega)
      refine zr_iload_n C d_M_field_19 (n := 20) rfl rfl ?_
      refine zr_iconst C d_M_field_20 (n := 21) rfl (v := nI 0) (by decide) ?_
      refine zr_bipush C d_M_field_21 (n := 23) rfl (v := nI 31) (by decide) ?_
      refine zr_callS3 C k_M_47 d_M_field_23 (nx := 26) rfl ⟨by decide, by decide⟩ (Nat.le_of_ble_eq_true rfl) ⟨by decide, by decide⟩ (sp_M_in l ?_)
      refine zr_if_eq C d_M_field_26 (n := 29) rfl (t := 46) (by decide) (fun c3 => ?_) (fun c3 => ?_)
      · replace c3 := zk_bz c3
        rw [zc_in_31] at c3
        refine zr_iconst C d_M_field_46 (n := 47) rfl (v := -1) (by decide) ?_
        have e9 : zc_fieldC V (nI sp) (nI nm) x2 = false := by simp [zc_fieldC, zc_ff, c1, c2, c3, qsp, qnm, ← ev, ← et]
        rw [e9] at hK
        exact zr_iret C d_M_field_47 rfl (hK h S hM zm_fr_r hJ) (Nat.zero_le _) (Nat.zero_le _)
      · replace c3 := zk_bn c3
        rw [zc_in_31] at c3
        obtain ⟨fl, hfl, rfl, qfl⟩ := zc_bl_n c3 (by first | decide | omega)
        refine zr_iload_n C d_M_field_29 (n := 30) rfl rfl ?_
        refine zr_iconst C d_M_field_30 (n := 31) rfl (v := nI 2) (by decide) ?_
        refine zr_iand C d_M_field_31 (n := 32) rfl ?_
        refine zr_if_ne C d_M_field_32 (n := 35) rfl (t := 46) (by decide) (fun c4 => ?_) (fun c4 => ?_)
        · replace c4 := zb_nzt c4
          refine zr_iconst C d_M_field_46 (n := 47) rfl (v := -1) (by decide) ?_
          have e9 : zc_fieldC V (nI sp) (nI nm) (nI fl) = false := by simp [zc_fieldC, zc_ff, c1, c2, c3, c4, qsp, qnm, qfl, ← ev, ← et]
          rw [e9] at hK
          exact zr_iret C d_M_field_47 rfl (hK h S hM zm_fr_r hJ) (Nat.zero_le _) (Nat.zero_le _)
        · replace c4 := zb_nzf c4
          refine zr_aload_n C d_M_field_35 (n := 36) rfl rfl ?_
          refine zr_get C f_M_7 d_M_field_36 (n := 39) rfl hm rfl ?_
          refine zr_iload_n C d_M_field_39 (n := 40) rfl rfl ?_
          refine zr_iconst C d_M_field_40 (n := 41) rfl (v := nI 2) (by decide) ?_
          refine zr_idiv C d_M_field_41 (n := 42) rfl (by decide) ?_
          refine zr_toe (y := nI (sp / 2)) (pk_div (by omega) (by decide) (by decide)) ?_
          refine zr_toe (y := nI (6 * v + t)) (congrArg nI (by omega)) ?_
          refine zr_zaldN C d_M_field_42 (n := 43) rfl s0 rfl (by omega) (by decide) ?_
          refine zr_toe (y := zk_b (zo_th (V v) t)) ((hR v hv).1 t (by omega)).1 ?_
          refine zr_if_ne C d_M_field_43 (n := 46) rfl (t := 48) (by decide) (fun c5 => ?_) (fun c5 => ?_)
          · replace c5 := zk_bn c5
            refine zr_iload_n C d_M_field_48 (n := 49) rfl rfl ?_
            refine zr_bipush C d_M_field_49 (n := 51) rfl (v := nI 16) (by decide) ?_
            refine zr_iand C d_M_field_51 (n := 52) rfl ?_
            refine zr_if_eq C d_M_field_52 (n := 55) rfl (t := 64) (by decide) (fun c6 => ?_) (fun c6 => ?_)
            · replace c6 := zb_nzf c6
              refine zr_iconst C d_M_field_64 (n := 65) rfl (v := nI 4) (by decide) ?_
              refine zr_iload_n C d_M_field_65 (n := 66) rfl rfl ?_
              refine zr_iconst C d_M_field_66 (n := 67) rfl (v := nI 2) (by decide) ?_
              refine zr_idiv C d_M_field_67 (n := 68) rfl (by decide) ?_
              refine zr_toe (y := nI (sp / 2)) (pk_div (by omega) (by decide) (by decide)) ?_
              refine zr_imul C d_M_field_68 (n := 69) rfl ?_
              refine zr_toe (by simp only [pk_mul, nI_add]; rfl) ?_
              refine zr_iload_n C d_M_field_69 (n := 70) rfl rfl ?_
              refine zr_iadd C d_M_field_70 (n := 71) rfl ?_
              refine zr_toe (by simp only [pk_mul, nI_add]; rfl) ?_
              refine zr_toe (y := nI (24 * v + (t * 4 + nm))) (congrArg nI (by omega)) ?_
              refine zr_istore C d_M_field_71 (n := 73) rfl (by decide) rfl ?_
              refine zr_aload_n C d_M_field_73 (n := 74) rfl rfl ?_
              refine zr_get C f_M_23 d_M_field_74 (n := 77) rfl hm rfl ?_
              refine zr_iload C d_M_field_77 (n := 79) rfl rfl ?_
              refine zr_iload_n C d_M_field_79 (n := 80) rfl rfl ?_
              refine zr_iconst C d_M_field_80 (n := 81) rfl (v := nI 2) (by decide) ?_
              refine zr_irem C d_M_field_81 (n := 82) rfl (by decide) ?_
              refine zr_toe (y := nI (sp % 2)) (pk_rem (by omega) (by decide) (by decide)) ?_
              refine zr_iastN C d_M_field_82 (n := 83) rfl s4 rfl (by omega) (by decide) ?_
              refine zr_aload_n C d_M_field_83 (n := 84) rfl rfl ?_
              refine zr_get C f_M_26 d_M_field_84 (n := 87) rfl (zk_g1 (by omega) hm) rfl ?_
              refine zr_iload C d_M_field_87 (n := 89) rfl rfl ?_
              refine zr_iload_n C d_M_field_89 (n := 90) rfl rfl ?_
              refine zr_iastN C d_M_field_90 (n := 91) rfl (zk_g1 (by omega) s5) rfl (by omega) (by decide) ?_
              refine zr_aload_n C d_M_field_91 (n := 92) rfl rfl ?_
              refine zr_get C f_M_29 d_M_field_92 (n := 95) rfl (zk_g1 (by omega) (zk_g1 (by omega) hm)) rfl ?_
              refine zr_iload C d_M_field_95 (n := 97) rfl rfl ?_
              refine zr_iload C d_M_field_97 (n := 99) rfl rfl ?_
              refine zr_iastN C d_M_field_99 (n := 100) rfl (zk_g1 (by omega) (zk_g1 (by omega) s6)) rfl (by omega) (by decide) ?_
              refine zr_iconst C d_M_field_100 (n := 101) rfl (v := nI 0) (by decide) ?_
              have e9 : zc_fieldC V (nI sp) (nI nm) (nI fl) = true := by simp [zc_fieldC, zc_ff, c1, c2, c3, c4, c5, c6, qsp, qnm, qfl, ← ev, ← et]
              rw [e9, qsp, qnm, ← ev, ← et] at hK
              exact zr_iret C d_M_field_101 rfl (hK _ _ (zm_at_6 (zm_at_5 (zm_at_4 hM))) (zm_fr_s (by omega) (zm_fr_s (by omega) (zm_fr_s (by omega) zm_fr_r))) (zm_J_field hJ hv ht hnm c5 ((Nat.mod_two_eq_zero_or_one sp).imp (fun q => by rw [q]) (fun q => by rw [q])) (zk_nm1 (by omega)) (fun q => absurd (c6.symm.trans q) (by decide)) rfl rfl rfl (fun i h1 h2 => (zm_u_n (by omega)).trans ((zm_u_n (by omega)).trans (zm_u_n (by omega)))))) (Nat.zero_le _) (Nat.zero_le _)
            · replace c6 := zb_nzt c6
              refine zr_iload_n C d_M_field_55 (n := 56) rfl rfl ?_
              refine zr_iconst C d_M_field_56 (n := 57) rfl (v := nI 5) (by decide) ?_
              refine zr_iand C d_M_field_57 (n := 58) rfl ?_
              refine zr_iconst C d_M_field_58 (n := 59) rfl (v := nI 5) (by decide) ?_
              refine zr_icmp_eq C d_M_field_59 (n := 62) rfl (t := 64) (by decide) (fun c7 => ?_) (fun c7 => ?_)
              · refine zr_iconst C d_M_field_64 (n := 65) rfl (v := nI 4) (by decide) ?_
                refine zr_iload_n C d_M_field_65 (n := 66) rfl rfl ?_
                refine zr_iconst C d_M_field_66 (n := 67) rfl (v := nI 2) (by decide) ?_
                refine zr_idiv C d_M_field_67 (n := 68) rfl (by decide) ?_
                refine zr_toe (y := nI (sp / 2)) (pk_div (by omega) (by decide) (by decide)) ?_
                refine zr_imul C d_M_field_68 (n := 69) rfl ?_
                refine zr_toe (by simp only [pk_mul, nI_add]; rfl) ?_
                refine zr_iload_n C d_M_field_69 (n := 70) rfl rfl ?_
                refine zr_iadd C d_M_field_70 (n := 71) rfl ?_
                refine zr_toe (by simp only [pk_mul, nI_add]; rfl) ?_
                refine zr_toe (y := nI (24 * v + (t * 4 + nm))) (congrArg nI (by omega)) ?_
                refine zr_istore C d_M_field_71 (n := 73) rfl (by decide) rfl ?_
                refine zr_aload_n C d_M_field_73 (n := 74) rfl rfl ?_
                refine zr_get C f_M_23 d_M_field_74 (n := 77) rfl hm rfl ?_
                refine zr_iload C d_M_field_77 (n := 79) rfl rfl ?_
                refine zr_iload_n C d_M_field_79 (n := 80) rfl rfl ?_
                refine zr_iconst C d_M_field_80 (n := 81) rfl (v := nI 2) (by decide) ?_
                refine zr_irem C d_M_field_81 (n := 82) rfl (by decide) ?_
                refine zr_toe (y := nI (sp % 2)) (pk_rem (by omega) (by decide) (by decide)) ?_
                refine zr_iastN C d_M_field_82 (n := 83) rfl s4 rfl (by omega) (by decide) ?_
                refine zr_aload_n C d_M_field_83 (n := 84) rfl rfl ?_
                refine zr_get C f_M_26 d_M_field_84 (n := 87) rfl (zk_g1 (by omega) hm) rfl ?_
                refine zr_iload C d_M_field_87 (n := 89) rfl rfl ?_
                refine zr_iload_n C d_M_field_89 (n := 90) rfl rfl ?_
                refine zr_iastN C d_M_field_90 (n := 91) rfl (zk_g1 (by omega) s5) rfl (by omega) (by decide) ?_
                refine zr_aload_n C d_M_field_91 (n := 92) rfl rfl ?_
                refine zr_get C f_M_29 d_M_field_92 (n := 95) rfl (zk_g1 (by omega) (zk_g1 (by omega) hm)) rfl ?_
                refine zr_iload C d_M_field_95 (n := 97) rfl rfl ?_
                refine zr_iload C d_M_field_97 (n := 99) rfl rfl ?_
                refine zr_iastN C d_M_field_99 (n := 100) rfl (zk_g1 (by omega) (zk_g1 (by omega) s6)) rfl (by omega) (by decide) ?_
                refine zr_iconst C d_M_field_100 (n := 101) rfl (v := nI 0) (by decide) ?_
                have e9 : zc_fieldC V (nI sp) (nI nm) (nI fl) = true := by simp [zc_fieldC, zc_ff, c1, c2, c3, c4, c5, c6, c7, qsp, qnm, qfl, ← ev, ← et]
                rw [e9, qsp, qnm, ← ev, ← et] at hK
                exact zr_iret C d_M_field_101 rfl (hK _ _ (zm_at_6 (zm_at_5 (zm_at_4 hM))) (zm_fr_s (by omega) (zm_fr_s (by omega) (zm_fr_s (by omega) zm_fr_r))) (zm_J_field hJ hv ht hnm c5 ((Nat.mod_two_eq_zero_or_one sp).imp (fun q => by rw [q]) (fun q => by rw [q])) (zk_nm1 (by omega)) (fun _ => zk_f5 fl hfl c7) rfl rfl rfl (fun i h1 h2 => (zm_u_n (by omega)).trans ((zm_u_n (by omega)).trans (zm_u_n (by omega)))))) (Nat.zero_le _) (Nat.zero_le _)
              · refine zr_iconst C d_M_field_62 (n := 63) rfl (v := -1) (by decide) ?_
                have e9 : zc_fieldC V (nI sp) (nI nm) (nI fl) = false := by simp [zc_fieldC, zc_ff, c1, c2, c3, c4, c5, c6, c7, qsp, qnm, qfl, ← ev, ← et]
                rw [e9] at hK
                exact zr_iret C d_M_field_63 rfl (hK h S hM zm_fr_r hJ) (Nat.zero_le _) (Nat.zero_le _)
          · replace c5 := zk_bz c5
            refine zr_iconst C d_M_field_46 (n := 47) rfl (v := -1) (by decide) ?_
            have e9 : zc_fieldC V (nI sp) (nI nm) (nI fl) = false := by simp [zc_fieldC, zc_ff, c1, c2, c3, c4, c5, qsp, qnm, qfl, ← ev, ← et]
            rw [e9] at hK
            exact zr_iret C d_M_field_47 rfl (hK h S hM zm_fr_r hJ) (Nat.zero_le _) (Nat.zero_le _)
abbrev rm_M_method : Room := { frames := 1, cells := 0, slots := 0, locals := 22 }
set_option maxHeartbeats 4000000 in
set_option maxRecDepth 100000 in
/-- method -/
theorem sp_M_method (l : Launch) {h : zk_H} {V : Nat → zo_O} {S : zo_O} {us : Nat} {uk ut un : Nat → Nat} {ua : Nat → Int32} (hM : zm_at h S us) (hJ : zm_J V S us uk ut un ua) {x0 x1 x2 x3 : Int32} {K : Option Value → zk_H → Prop} (hK : ∀ (h' : zk_H) (S' : zo_O), zm_at h' S' us → zm_fr h h' → zm_J (zc_W (zc_methC V x0 x1 x2 x3) V (zc_up V (x0.toNatClampNeg / 6) (zc_pm (V (x0.toNatClampNeg / 6)) (x0.toNatClampNeg % 6 * 12 + x1.toNatClampNeg * 4 + x2.toNatClampNeg / 4) (nI (x2.toNatClampNeg % 4)) x3))) S' us uk ut un ua → K (some (.int (zc_R (zc_methC V x0 x1 x2 x3)))) h') : zk_S l y_M_method b_M_method 6 (some .int) rm_M_method [.ref (38 + 1), .int x0, .int x1, .int x2, .int x3] h K := by
  obtain ⟨hm, s0, s1, s2, s3, s4, s5, s6, s7, s8, s9, s10, s11⟩ := id hM
  obtain ⟨hR, hok, hex, hu, hus, hS9⟩ := id hJ
  refine zk_S_of R_M "method" (by decide) rfl rfl [some (.ref (38 + 1)), some (.int x0), some (.int x1), some (.int x2), some (.int x3), none] 1 rfl (Nat.le_of_ble_eq_true rfl) (fun p e s m ar below meth c D dA b base C => ?_)
  refine zr_iload_n C d_M_method_0 (n := 1) rfl rfl ?_
  refine zr_iconst C d_M_method_1 (n := 2) rfl (v := nI 0) (by decide) ?_
  refine zr_bipush C d_M_method_2 (n := 4) rfl (v := nI 11) (by decide) ?_
  refine zr_callS3 C k_M_47 d_M_method_4 (nx := 7) rfl ⟨by decide, by decide⟩ (Nat.le_of_ble_eq_true rfl) ⟨by decide, by decide⟩ (sp_M_in l ?_)
  refine zr_if_eq C d_M_method_7 (n := 10) rfl (t := 49) (by decide) (fun c1 => ?_) (fun c1 => ?_)
  · replace c1 := zk_bz c1
    rw [zc_in_11] at c1
    refine zr_iconst C d_M_method_49 (n := 50) rfl (v := -1) (by decide) ?_
    have e9 : zc_methC V x0 x1 x2 x3 = false := by simp [zc_methC, zc_mf, c1]
    rw [e9] at hK
    exact zr_iret C d_M_method_50 rfl (hK h S hM zm_fr_r hJ) (Nat.zero_le _) (Nat.zero_le _)
  · replace c1 := zk_bn c1
    rw [zc_in_11] at c1
    obtain ⟨sp, hsp, rfl, qsp⟩ := zc_bl_n c1 (by first | decide | omega)
    obtain ⟨v, ev⟩ : ∃ v, v = sp / 6 := ⟨_, rfl⟩
    obtain ⟨t, et⟩ : ∃ t, t = sp % 6 := ⟨_, rfl⟩
    have hv : v < 2 := by omega
    have ht : t < 6 := by omega
    refine zr_iload_n C d_M_method_10 (n := 11) rfl rfl ?_
    refine zr_iconst C d_M_method_11 (n := 12) rfl (v := nI 0) (by decide) ?_
    refine zr_iconst C d_M_method_12 (n := 13) rfl (v := nI 2) (by decide) ?_
    refine zr_callS3 C k_M_47 d_M_method_13 (nx := 16) rfl ⟨by decide, by decide⟩ (Nat.le_of_ble_eq_true rfl) ⟨by decide, by decide⟩ (sp_M_in l ?_)
    refine zr_if_eq C d_M_method_16 (n := 19) rfl (t := 49) (by decide) (fun c2 => ?_) (fun c2 => ?_)
    · replace c2 := zk_bz c2
      rw [zc_in_2] at c2
      refine zr_iconst C d_M_method_49 (n := 50) rfl (v := -1) (by decide) ?_
      have e9 : zc_methC V (nI sp) x1 x2 x3 = false := by simp [zc_methC, zc_mf, c1, c2, qsp, ← ev, ← et]
      rw [e9] at hK
      exact zr_iret C d_M_method_50 rfl (hK h S hM zm_fr_r hJ) (Nat.zero_le _) (Nat.zero_le _)
    · replace c2 := zk_bn c2
      rw [zc_in_2] at c2
      obtain ⟨nm, hnm, rfl, qnm⟩ := zc_bl_n c2 (by first | decide | omega)
      refine zr_iload_n C d_M_method_19 (n := 20) rfl rfl ?_
      refine zr_iconst C d_M_method_20 (n := 21) rfl (v := nI 0) (by decide) ?_
      refine zr_bipush C d_M_method_21 (n := 23) rfl (v := nI 15) (by decide) ?_
      refine zr_callS3 C k_M_47 d_M_method_23 (nx := 26) rfl ⟨by decide, by decide⟩ (Nat.le_of_ble_eq_true rfl) ⟨by decide, by decide⟩ (sp_M_in l ?_)
      refine zr_if_eq C d_M_method_26 (n := 29) rfl (t := 49) (by decide) (fun c3 => ?_) (fun c3 => ?_)
      · replace c3 := zk_bz c3
        rw [zc_in_15] at c3
        refine zr_iconst C d_M_method_49 (n := 50) rfl (v := -1) (by decide) ?_
        have e9 : zc_methC V (nI sp) (nI nm) x2 x3 = false := by simp [zc_methC, zc_mf, c1, c2, c3, qsp, qnm, ← ev, ← et]
        rw [e9] at hK
        exact zr_iret C d_M_method_50 rfl (hK h S hM zm_fr_r hJ) (Nat.zero_le _) (Nat.zero_le _)
      · replace c3 := zk_bn c3
        rw [zc_in_15] at c3
        obtain ⟨sg, hsg, rfl, qsg⟩ := zc_bl_n c3 (by first | decide | omega)
        refine zr_iload C d_M_method_29 (n := 31) rfl rfl ?_
        refine zr_iconst C d_M_method_31 (n := 32) rfl (v := nI 0) (by decide) ?_
        refine zr_bipush C d_M_method_32 (n := 34) rfl (v := nI 15) (by decide) ?_
        refine zr_callS3 C k_M_47 d_M_method_34 (nx := 37) rfl ⟨by decide, by decide⟩ (Nat.le_of_ble_eq_true rfl) ⟨by decide, by decide⟩ (sp_M_in l ?_)
        refine zr_if_eq C d_M_method_37 (n := 40) rfl (t := 49) (by decide) (fun c4 => ?_) (fun c4 => ?_)
        · replace c4 := zk_bz c4
          rw [zc_in_15] at c4
          refine zr_iconst C d_M_method_49 (n := 50) rfl (v := -1) (by decide) ?_
          have e9 : zc_methC V (nI sp) (nI nm) (nI sg) x3 = false := by simp [zc_methC, zc_mf, c1, c2, c3, c4, qsp, qnm, qsg, ← ev, ← et]
          rw [e9] at hK
          exact zr_iret C d_M_method_50 rfl (hK h S hM zm_fr_r hJ) (Nat.zero_le _) (Nat.zero_le _)
        · replace c4 := zk_bn c4
          rw [zc_in_15] at c4
          obtain ⟨fl, hfl, rfl, qfl⟩ := zc_bl_n c4 (by first | decide | omega)
          refine zr_aload_n C d_M_method_40 (n := 41) rfl rfl ?_
          refine zr_get C f_M_7 d_M_method_41 (n := 44) rfl hm rfl ?_
          refine zr_iload_n C d_M_method_44 (n := 45) rfl rfl ?_
          refine zr_zaldN C d_M_method_45 (n := 46) rfl s0 (j := 6 * v + t) (congrArg nI (by omega)) (by omega) (by decide) ?_
          refine zr_toe (y := zk_b (zo_th (V v) t)) ((hR v hv).1 t (by omega)).1 ?_
          refine zr_if_ne C d_M_method_46 (n := 49) rfl (t := 51) (by decide) (fun c5 => ?_) (fun c5 => ?_)
          · replace c5 := zk_bn c5
            refine zr_iload C d_M_method_51 (n := 53) rfl rfl ?_
            refine zr_iconst C d_M_method_53 (n := 54) rfl (v := nI 2) (by decide) ?_
            refine zr_iand C d_M_method_54 (n := 55) rfl ?_
            refine zr_if_eq C d_M_method_55 (n := 58) rfl (t := 68) (by decide) (fun c6 => ?_) (fun c6 => ?_)
            · replace c6 := zb_nzf c6
              refine zr_bipush C d_M_method_68 (n := 70) rfl (v := nI 12) (by decide) ?_
              refine zr_iload_n C d_M_method_70 (n := 71) rfl rfl ?_
              refine zr_imul C d_M_method_71 (n := 72) rfl ?_
              refine zr_toe (by simp only [pk_mul, nI_add]; rfl) ?_
              refine zr_iconst C d_M_method_72 (n := 73) rfl (v := nI 4) (by decide) ?_
              refine zr_iload_n C d_M_method_73 (n := 74) rfl rfl ?_
              refine zr_imul C d_M_method_74 (n := 75) rfl ?_
              refine zr_toe (by simp only [pk_mul, nI_add]; rfl) ?_
              refine zr_iadd C d_M_method_75 (n := 76) rfl ?_
              refine zr_toe (by simp only [pk_mul, nI_add]; rfl) ?_
              refine zr_iload_n C d_M_method_76 (n := 77) rfl rfl ?_
              refine zr_iconst C d_M_method_77 (n := 78) rfl (v := nI 4) (by decide) ?_
              refine zr_idiv C d_M_method_78 (n := 79) rfl (by decide) ?_
              refine zr_toe (y := nI (sg / 4)) (pk_div (by omega) (by decide) (by decide)) ?_
              refine zr_iadd C d_M_method_79 (n := 80) rfl ?_
              refine zr_toe (by simp only [pk_mul, nI_add]; rfl) ?_
              refine zr_toe (y := nI (72 * v + (t * 12 + (nm * 4 + sg / 4)))) (congrArg nI (by omega)) ?_
              refine zr_istore C d_M_method_80 (n := 82) rfl (by decide) rfl ?_
              refine zr_aload_n C d_M_method_82 (n := 83) rfl rfl ?_
              refine zr_get C f_M_32 d_M_method_83 (n := 86) rfl hm rfl ?_
              refine zr_iload C d_M_method_86 (n := 88) rfl rfl ?_
              refine zr_iload_n C d_M_method_88 (n := 89) rfl rfl ?_
              refine zr_iconst C d_M_method_89 (n := 90) rfl (v := nI 4) (by decide) ?_
              refine zr_irem C d_M_method_90 (n := 91) rfl (by decide) ?_
              refine zr_toe (y := nI (sg % 4)) (pk_rem (by omega) (by decide) (by decide)) ?_
              refine zr_iastN C d_M_method_91 (n := 92) rfl s7 rfl (by omega) (by decide) ?_
              refine zr_aload_n C d_M_method_92 (n := 93) rfl rfl ?_
              refine zr_get C f_M_35 d_M_method_93 (n := 96) rfl (zk_g1 (by omega) hm) rfl ?_
              refine zr_iload C d_M_method_96 (n := 98) rfl rfl ?_
              refine zr_iload C d_M_method_98 (n := 100) rfl rfl ?_
              refine zr_iastN C d_M_method_100 (n := 101) rfl (zk_g1 (by omega) s8) rfl (by omega) (by decide) ?_
              refine zr_iconst C d_M_method_101 (n := 102) rfl (v := nI 0) (by decide) ?_
              have e9 : zc_methC V (nI sp) (nI nm) (nI sg) (nI fl) = true := by simp [zc_methC, zc_mf, c1, c2, c3, c4, c5, c6, qsp, qnm, qsg, qfl, ← ev, ← et]
              rw [e9, qsp, qnm, qsg, ← ev, ← et, show t * 12 + nm * 4 + sg / 4 = t * 12 + (nm * 4 + sg / 4) by omega] at hK
              exact zr_iret C d_M_method_102 rfl (hK _ _ (zm_at_8 (zm_at_7 hM)) (zm_fr_s (by omega) (zm_fr_s (by omega) zm_fr_r)) (zm_J_meth hJ hv ht (by omega) c5 (by omega) (zk_nm1 (by omega)) rfl rfl (fun i h1 h2 h3 => (zm_u_n (by omega)).trans (zm_u_n (by omega))))) (Nat.zero_le _) (Nat.zero_le _)
            · replace c6 := zb_nzt c6
              refine zr_iload C d_M_method_58 (n := 60) rfl rfl ?_
              refine zr_bipush C d_M_method_60 (n := 62) rfl (v := nI 13) (by decide) ?_
              refine zr_iand C d_M_method_62 (n := 63) rfl ?_
              refine zr_if_eq C d_M_method_63 (n := 66) rfl (t := 68) (by decide) (fun c7 => ?_) (fun c7 => ?_)
              · replace c7 := zb_nzf c7
                refine zr_bipush C d_M_method_68 (n := 70) rfl (v := nI 12) (by decide) ?_
                refine zr_iload_n C d_M_method_70 (n := 71) rfl rfl ?_
                refine zr_imul C d_M_method_71 (n := 72) rfl ?_
                refine zr_toe (by simp only [pk_mul, nI_add]; rfl) ?_
                refine zr_iconst C d_M_method_72 (n := 73) rfl (v := nI 4) (by decide) ?_
                refine zr_iload_n C d_M_method_73 (n := 74) rfl rfl ?_
                refine zr_imul C d_M_method_74 (n := 75) rfl ?_
                refine zr_toe (by simp only [pk_mul, nI_add]; rfl) ?_
                refine zr_iadd C d_M_method_75 (n := 76) rfl ?_
                refine zr_toe (by simp only [pk_mul, nI_add]; rfl) ?_
                refine zr_iload_n C d_M_method_76 (n := 77) rfl rfl ?_
                refine zr_iconst C d_M_method_77 (n := 78) rfl (v := nI 4) (by decide) ?_
                refine zr_idiv C d_M_method_78 (n := 79) rfl (by decide) ?_
                refine zr_toe (y := nI (sg / 4)) (pk_div (by omega) (by decide) (by decide)) ?_
                refine zr_iadd C d_M_method_79 (n := 80) rfl ?_
                refine zr_toe (by simp only [pk_mul, nI_add]; rfl) ?_
                refine zr_toe (y := nI (72 * v + (t * 12 + (nm * 4 + sg / 4)))) (congrArg nI (by omega)) ?_
                refine zr_istore C d_M_method_80 (n := 82) rfl (by decide) rfl ?_
                refine zr_aload_n C d_M_method_82 (n := 83) rfl rfl ?_
                refine zr_get C f_M_32 d_M_method_83 (n := 86) rfl hm rfl ?_
                refine zr_iload C d_M_method_86 (n := 88) rfl rfl ?_
                refine zr_iload_n C d_M_method_88 (n := 89) rfl rfl ?_
                refine zr_iconst C d_M_method_89 (n := 90) rfl (v := nI 4) (by decide) ?_
                refine zr_irem C d_M_method_90 (n := 91) rfl (by decide) ?_
                refine zr_toe (y := nI (sg % 4)) (pk_rem (by omega) (by decide) (by decide)) ?_
                refine zr_iastN C d_M_method_91 (n := 92) rfl s7 rfl (by omega) (by decide) ?_
                refine zr_aload_n C d_M_method_92 (n := 93) rfl rfl ?_
                refine zr_get C f_M_35 d_M_method_93 (n := 96) rfl (zk_g1 (by omega) hm) rfl ?_
                refine zr_iload C d_M_method_96 (n := 98) rfl rfl ?_
                refine zr_iload C d_M_method_98 (n := 100) rfl rfl ?_
                refine zr_iastN C d_M_method_100 (n := 101) rfl (zk_g1 (by omega) s8) rfl (by omega) (by decide) ?_
                refine zr_iconst C d_M_method_101 (n := 102) rfl (v := nI 0) (by decide) ?_
                have h2 : nI fl = nI 2 := (zk_m13 fl hfl c6).mp c7
                have h3 : zc_mf (nI fl) = true := by rw [h2]; decide
                have e9 : zc_methC V (nI sp) (nI nm) (nI sg) (nI fl) = true := by simp [zc_methC, c1, c2, c3, c5, qsp, qnm, qsg, qfl, h3, ← ev, ← et]
                rw [e9, qsp, qnm, qsg, ← ev, ← et, show t * 12 + nm * 4 + sg / 4 = t * 12 + (nm * 4 + sg / 4) by omega] at hK
                exact zr_iret C d_M_method_102 rfl (hK _ _ (zm_at_8 (zm_at_7 hM)) (zm_fr_s (by omega) (zm_fr_s (by omega) zm_fr_r)) (zm_J_meth hJ hv ht (by omega) c5 (by omega) (zk_nm1 (by omega)) rfl rfl (fun i h1 h2 h3 => (zm_u_n (by omega)).trans (zm_u_n (by omega))))) (Nat.zero_le _) (Nat.zero_le _)
              · replace c7 := zb_nzt c7
                refine zr_iconst C d_M_method_66 (n := 67) rfl (v := -1) (by decide) ?_
                have h2 : ¬ nI fl = nI 2 := fun q => absurd (((zk_m13 fl hfl c6).mpr q).symm.trans c7) (by decide)
                have e9 : zc_methC V (nI sp) (nI nm) (nI sg) (nI fl) = false := by simp [zc_methC, zc_mf, c1, c2, c3, c4, c5, c6, qsp, qnm, qsg, qfl, h2, ← ev, ← et]
                rw [e9] at hK
                exact zr_iret C d_M_method_67 rfl (hK h S hM zm_fr_r hJ) (Nat.zero_le _) (Nat.zero_le _)
          · replace c5 := zk_bz c5
            refine zr_iconst C d_M_method_49 (n := 50) rfl (v := -1) (by decide) ?_
            have e9 : zc_methC V (nI sp) (nI nm) (nI sg) (nI fl) = false := by simp [zc_methC, zc_mf, c1, c2, c3, c4, c5, qsp, qnm, qsg, qfl, ← ev, ← et]
            rw [e9] at hK
            exact zr_iret C d_M_method_50 rfl (hK h S hM zm_fr_r hJ) (Nat.zero_le _) (Nat.zero_le _)
