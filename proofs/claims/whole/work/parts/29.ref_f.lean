theorem zk_sid {h : zk_H} {i : Nat} {x : zk_E} (hh : h[i]? = some x) : h.set i x = h := by
  obtain ⟨hi, e⟩ := List.getElem?_eq_some_iff.mp hh
  rw [← e]; exact List.set_getElem_self hi
theorem zm_bw_4 {B w : Nat → Int32} {ag : Nat} (h : ∀ i, i < 7 → w i = 0) : zm_bw 4 ag B w := ⟨fun q => by omega, fun q => by omega, fun _ => ⟨h 0 (by decide), h 1 (by decide), h 2 (by decide), h 3 (by decide), h 4 (by decide), h 5 (by decide)⟩, fun q => by omega, fun q => by omega⟩
theorem zm_bw_5 {B f : Nat → Int32} {a ag : Nat} {x : Int32} (hx : B 1 = x) (h : ∀ i, i < 7 → f (a + i) = 0) : zm_bw 5 ag B (fun i => upd f (a + 4) x (a + i)) := ⟨fun q => by omega, fun q => by omega, fun q => by omega, fun _ => ⟨(pk_un (by omega)).trans (h 0 (by decide)), (pk_un (by omega)).trans (h 1 (by decide)), (pk_un (by omega)).trans (h 2 (by decide)), (pk_un (by omega)).trans (h 3 (by decide)), pk_us.trans hx.symm, (pk_un (by omega)).trans (h 5 (by decide))⟩, fun q => by omega⟩
theorem zm_o1 {f g : Nat → Int32} {v : Nat} {X : Int32} (hf : ∀ i, ¬ (7 * v ≤ i ∧ i < 7 * v + 7) → f i = g i) (i : Nat) (hi : ¬ (7 * v ≤ i ∧ i < 7 * v + 7)) : upd f (7 * v + 4) X i = g i := by
  rw [pk_un (by omega)]; exact hf i hi
abbrev rm_M_bind : Room := { frames := 3, cells := 0, slots := 0, locals := 82 }
set_option maxHeartbeats 4000000 in
set_option maxRecDepth 100000 in
/-- bind -/
theorem sp_M_bind (l : Launch) {h : zk_H} {V : Nat → zo_O} {S : zo_O} {us : Nat} (hM : zm_at h S us) (hR : zm_R V S) (hok : ∀ v, v < 2 → zo_ok (V v)) (hex : ∀ v, v < 2 → zo_ex (V v)) {v : Nat} (hv : v < 2) {k t nm j : Nat} {a9 : Int32} (hj : j < 16) (e0 : S 9 (4 * j) = nI k) (e1 : S 9 (4 * j + 1) = nI t) (e2 : S 9 (4 * j + 2) = nI nm) (e3 : S 9 (4 * j + 3) = a9) (hk : k < 7) (ht : t < 6) (hnm : nm < 4) (hum : k = 2 ∨ k = 3 ∨ k = 6 → nm < 3 ∧ a9 = nI a9.toNatClampNeg ∧ a9.toNatClampNeg < 4) {K : Option Value → zk_H → Prop} (hK : ∀ (h' : zk_H) (S' : zo_O), zm_mv h h' S S' us v → (zc_bd (V v) k t nm a9.toNatClampNeg 0 = 0 → zm_bw k a9.toNatClampNeg (zc_bd (V v) k t nm a9.toNatClampNeg) (fun i => S' 10 (7 * v + i))) → K (some (.int (zc_bd (V v) k t nm a9.toNatClampNeg 0))) h') : zk_S l y_M_bind b_M_bind 8 (some .int) rm_M_bind [.ref (38 + 1), .int (nI j), .int (nI v)] h K := by
  obtain ⟨hm, s0, s1, s2, s3, s4, s5, s6, s7, s8, s9, s10, s11⟩ := id hM
  refine zk_S_of R_M "bind" (by decide) rfl rfl [some (.ref (38 + 1)), some (.int (nI j)), some (.int (nI v)), none, none, none, none, none] 5 rfl (Nat.le_of_ble_eq_true rfl) (fun p e s m ar below meth c D dA b base C => ?_)
  have T : ∀ (f : Nat → Int32), (∀ i, i < 7 → f (7 * v + i) = 0) → (∀ i, ¬ (7 * v ≤ i ∧ i < 7 * v + 7) → f i = S 10 i) → zk_V p l e rm_M_bind s m ar below meth c 8 D dA b base (MQ below (zk_Q K D dA b base) ar s rm_M_bind.cells rm_M_bind.slots (fun q : Nat => base ≤ q)) 0 0 74 [some (.ref (38 + 1)), some (.int (nI j)), some (.int (nI v)), some (.int (nI k)), some (.int (nI t)), some (.int (nI nm)), some (.int (nI (6 * v + t))), none] [] (h.set 49 (.inl (0, 14, .inl f))) := by
    intro f hZ ho
    have hM1 := zm_at_10 (f := f) hM
    have hR1 := zm_R_c (S' := zm_u S 10 f) hR (fun k hk => zm_u_n (by omega))
    obtain ⟨hm, s0, s1, s2, s3, s4, s5, s6, s7, s8, s9, s10, s11⟩ := id hM1
    rcases (show k = 0 ∨ k = 1 ∨ k = 2 ∨ k = 3 ∨ k = 4 ∨ k = 5 ∨ k = 6 by omega) with rfl | rfl | rfl | rfl | rfl | rfl | rfl
    · refine zr_aload_n C d_M_bind_74 (n := 75) rfl rfl ?_
      refine zr_get C f_M_7 d_M_bind_75 (n := 78) rfl hm rfl ?_
      refine zr_iload C d_M_bind_78 (n := 80) rfl rfl ?_
      refine zr_zaldN C d_M_bind_80 (n := 81) rfl s0 rfl (by omega) (by decide) ?_
      refine zr_toe (y := zk_b (zo_th (V v) t)) ((hR v hv).1 t (by omega)).1 ?_
      refine zr_if_eq C d_M_bind_81 (n := 84) rfl (t := 97) (by decide) (fun c1 => ?_) (fun c1 => ?_)
      · replace c1 := zk_bz c1
        refine zr_bipush C d_M_bind_97 (n := 99) rfl (v := -3) (by decide) ?_
        rw [zc_bd, zb_bind_no (fun q => absurd (c1.symm.trans q.1) (by decide))] at hK
        exact zr_iret C d_M_bind_99 rfl (hK _ _ (zm_mv_10 hM ho) (fun q => absurd q zb_m3)) (Nat.zero_le _) (Nat.zero_le _)
      · replace c1 := zk_bn c1
        have hth := c1
        refine zr_aload_n C d_M_bind_84 (n := 85) rfl rfl ?_
        refine zr_get C f_M_13 d_M_bind_85 (n := 88) rfl hm rfl ?_
        refine zr_iload C d_M_bind_88 (n := 90) rfl rfl ?_
        refine zr_ialdN C d_M_bind_90 (n := 91) rfl s1 rfl (by omega) (by decide) ?_
        refine zr_toe (y := V v 0 t) (((hR v hv).1 t (by omega)).2 hth).1 ?_
        refine zr_bipush C d_M_bind_91 (n := 93) rfl (v := nI 8) (by decide) ?_
        refine zr_iand C d_M_bind_93 (n := 94) rfl ?_
        refine zr_if_eq C d_M_bind_94 (n := 97) rfl (t := 100) (by decide) (fun c2 => ?_) (fun c2 => ?_)
        · replace c2 := zb_nzf c2
          refine zr_iload_n C d_M_bind_100 (n := 101) rfl rfl ?_
          refine zr_iconst C d_M_bind_101 (n := 102) rfl (v := nI 2) (by decide) ?_
          refine zr_icmp_ge C d_M_bind_102 (n := 105) rfl (t := 116) (by decide) (fun c3 => ?_) (fun c3 => ?_)
          · exact absurd c3 (by decide)
          · refine zr_aload_n C d_M_bind_105 (n := 106) rfl rfl ?_
            refine zr_iload_n C d_M_bind_106 (n := 107) rfl rfl ?_
            refine zr_iload_n C d_M_bind_107 (n := 108) rfl rfl ?_
            refine zr_iload C d_M_bind_108 (n := 110) rfl rfl ?_
            refine zr_iload C d_M_bind_110 (n := 112) rfl rfl ?_
            refine zr_callV4 C k_M_85 d_M_bind_112 (nx := 115) rfl hm rfl ⟨by decide, by decide⟩ (Nat.le_of_ble_eq_true rfl) ⟨by decide, by decide⟩ (sp_M_bindField l (ag := a9.toNatClampNeg) hM1 hR1 hok hex hv hZ (by decide) ht hnm hth (fun h2 S2 mv hbw => ?_))
            rw [zc_bd, zb_bind_ok ⟨hth, zo_hf0 c2⟩] at hK
            exact zr_iret C d_M_bind_115 rfl (hK _ _ (zm_mv_t (zm_mv_10 hM ho) mv) hbw) (Nat.zero_le _) (Nat.zero_le _)
        · replace c2 := zb_nzt c2
          refine zr_bipush C d_M_bind_97 (n := 99) rfl (v := -3) (by decide) ?_
          rw [zc_bd, zb_bind_no (fun q => absurd ((zo_hf1 c1 c2).symm.trans q.2) (by decide))] at hK
          exact zr_iret C d_M_bind_99 rfl (hK _ _ (zm_mv_10 hM ho) (fun q => absurd q zb_m3)) (Nat.zero_le _) (Nat.zero_le _)
    · refine zr_aload_n C d_M_bind_74 (n := 75) rfl rfl ?_
      refine zr_get C f_M_7 d_M_bind_75 (n := 78) rfl hm rfl ?_
      refine zr_iload C d_M_bind_78 (n := 80) rfl rfl ?_
      refine zr_zaldN C d_M_bind_80 (n := 81) rfl s0 rfl (by omega) (by decide) ?_
      refine zr_toe (y := zk_b (zo_th (V v) t)) ((hR v hv).1 t (by omega)).1 ?_
      refine zr_if_eq C d_M_bind_81 (n := 84) rfl (t := 97) (by decide) (fun c1 => ?_) (fun c1 => ?_)
      · replace c1 := zk_bz c1
        refine zr_bipush C d_M_bind_97 (n := 99) rfl (v := -3) (by decide) ?_
        rw [zc_bd, zb_bind_no (fun q => absurd (c1.symm.trans q.1) (by decide))] at hK
        exact zr_iret C d_M_bind_99 rfl (hK _ _ (zm_mv_10 hM ho) (fun q => absurd q zb_m3)) (Nat.zero_le _) (Nat.zero_le _)
      · replace c1 := zk_bn c1
        have hth := c1
        refine zr_aload_n C d_M_bind_84 (n := 85) rfl rfl ?_
        refine zr_get C f_M_13 d_M_bind_85 (n := 88) rfl hm rfl ?_
        refine zr_iload C d_M_bind_88 (n := 90) rfl rfl ?_
        refine zr_ialdN C d_M_bind_90 (n := 91) rfl s1 rfl (by omega) (by decide) ?_
        refine zr_toe (y := V v 0 t) (((hR v hv).1 t (by omega)).2 hth).1 ?_
        refine zr_bipush C d_M_bind_91 (n := 93) rfl (v := nI 8) (by decide) ?_
        refine zr_iand C d_M_bind_93 (n := 94) rfl ?_
        refine zr_if_eq C d_M_bind_94 (n := 97) rfl (t := 100) (by decide) (fun c2 => ?_) (fun c2 => ?_)
        · replace c2 := zb_nzf c2
          refine zr_iload_n C d_M_bind_100 (n := 101) rfl rfl ?_
          refine zr_iconst C d_M_bind_101 (n := 102) rfl (v := nI 2) (by decide) ?_
          refine zr_icmp_ge C d_M_bind_102 (n := 105) rfl (t := 116) (by decide) (fun c3 => ?_) (fun c3 => ?_)
          · exact absurd c3 (by decide)
          · refine zr_aload_n C d_M_bind_105 (n := 106) rfl rfl ?_
            refine zr_iload_n C d_M_bind_106 (n := 107) rfl rfl ?_
            refine zr_iload_n C d_M_bind_107 (n := 108) rfl rfl ?_
            refine zr_iload C d_M_bind_108 (n := 110) rfl rfl ?_
            refine zr_iload C d_M_bind_110 (n := 112) rfl rfl ?_
            refine zr_callV4 C k_M_85 d_M_bind_112 (nx := 115) rfl hm rfl ⟨by decide, by decide⟩ (Nat.le_of_ble_eq_true rfl) ⟨by decide, by decide⟩ (sp_M_bindField l (ag := a9.toNatClampNeg) hM1 hR1 hok hex hv hZ (by decide) ht hnm hth (fun h2 S2 mv hbw => ?_))
            rw [zc_bd, zb_bind_ok ⟨hth, zo_hf0 c2⟩] at hK
            exact zr_iret C d_M_bind_115 rfl (hK _ _ (zm_mv_t (zm_mv_10 hM ho) mv) hbw) (Nat.zero_le _) (Nat.zero_le _)
        · replace c2 := zb_nzt c2
          refine zr_bipush C d_M_bind_97 (n := 99) rfl (v := -3) (by decide) ?_
          rw [zc_bd, zb_bind_no (fun q => absurd ((zo_hf1 c1 c2).symm.trans q.2) (by decide))] at hK
          exact zr_iret C d_M_bind_99 rfl (hK _ _ (zm_mv_10 hM ho) (fun q => absurd q zb_m3)) (Nat.zero_le _) (Nat.zero_le _)
    · have hq := hum (by decide)
      refine zr_aload_n C d_M_bind_74 (n := 75) rfl rfl ?_
      refine zr_get C f_M_7 d_M_bind_75 (n := 78) rfl hm rfl ?_
      refine zr_iload C d_M_bind_78 (n := 80) rfl rfl ?_
      refine zr_zaldN C d_M_bind_80 (n := 81) rfl s0 rfl (by omega) (by decide) ?_
      refine zr_toe (y := zk_b (zo_th (V v) t)) ((hR v hv).1 t (by omega)).1 ?_
      refine zr_if_eq C d_M_bind_81 (n := 84) rfl (t := 97) (by decide) (fun c1 => ?_) (fun c1 => ?_)
      · replace c1 := zk_bz c1
        refine zr_bipush C d_M_bind_97 (n := 99) rfl (v := -3) (by decide) ?_
        rw [zc_bd, zb_bind_no (fun q => absurd (c1.symm.trans q.1) (by decide))] at hK
        exact zr_iret C d_M_bind_99 rfl (hK _ _ (zm_mv_10 hM ho) (fun q => absurd q zb_m3)) (Nat.zero_le _) (Nat.zero_le _)
      · replace c1 := zk_bn c1
        have hth := c1
        refine zr_aload_n C d_M_bind_84 (n := 85) rfl rfl ?_
        refine zr_get C f_M_13 d_M_bind_85 (n := 88) rfl hm rfl ?_
        refine zr_iload C d_M_bind_88 (n := 90) rfl rfl ?_
        refine zr_ialdN C d_M_bind_90 (n := 91) rfl s1 rfl (by omega) (by decide) ?_
        refine zr_toe (y := V v 0 t) (((hR v hv).1 t (by omega)).2 hth).1 ?_
        refine zr_bipush C d_M_bind_91 (n := 93) rfl (v := nI 8) (by decide) ?_
        refine zr_iand C d_M_bind_93 (n := 94) rfl ?_
        refine zr_if_eq C d_M_bind_94 (n := 97) rfl (t := 100) (by decide) (fun c2 => ?_) (fun c2 => ?_)
        · replace c2 := zb_nzf c2
          refine zr_iload_n C d_M_bind_100 (n := 101) rfl rfl ?_
          refine zr_iconst C d_M_bind_101 (n := 102) rfl (v := nI 2) (by decide) ?_
          refine zr_icmp_ge C d_M_bind_102 (n := 105) rfl (t := 116) (by decide) (fun c3 => ?_) (fun c3 => ?_)
          · refine zr_iload_n C d_M_bind_116 (n := 117) rfl rfl ?_
            refine zr_iconst C d_M_bind_117 (n := 118) rfl (v := nI 4) (by decide) ?_
            refine zr_icmp_ge C d_M_bind_118 (n := 121) rfl (t := 142) (by decide) (fun c4 => ?_) (fun c4 => ?_)
            · exact absurd c4 (by decide)
            · refine zr_aload_n C d_M_bind_121 (n := 122) rfl rfl ?_
              refine zr_iload_n C d_M_bind_122 (n := 123) rfl rfl ?_
              refine zr_iload_n C d_M_bind_123 (n := 124) rfl rfl ?_
              refine zr_iload C d_M_bind_124 (n := 126) rfl rfl ?_
              refine zr_iload C d_M_bind_126 (n := 128) rfl rfl ?_
              refine zr_aload_n C d_M_bind_128 (n := 129) rfl rfl ?_
              refine zr_get C f_M_38 d_M_bind_129 (n := 132) rfl hm rfl ?_
              refine zr_iconst C d_M_bind_132 (n := 133) rfl (v := nI 4) (by decide) ?_
              refine zr_iload_n C d_M_bind_133 (n := 134) rfl rfl ?_
              refine zr_imul C d_M_bind_134 (n := 135) rfl ?_
              refine zr_toe (by simp only [pk_mul, nI_add]; rfl) ?_
              refine zr_iconst C d_M_bind_135 (n := 136) rfl (v := nI 3) (by decide) ?_
              refine zr_iadd C d_M_bind_136 (n := 137) rfl ?_
              refine zr_toe (by simp only [pk_mul, nI_add]; rfl) ?_
              refine zr_ialdN C d_M_bind_137 (n := 138) rfl s9 rfl (by omega) (by decide) ?_
              refine zr_toe (y := nI a9.toNatClampNeg) (e3.trans hq.2.1) ?_
              refine zr_callV5 C k_M_88 d_M_bind_138 (nx := 141) rfl hm rfl ⟨by decide, by decide⟩ (Nat.le_of_ble_eq_true rfl) ⟨by decide, by decide⟩ (sp_M_bindCall l hM1 hR1 hok hv hZ (by decide) ht hq.1 hq.2.2 hth (fun h2 S2 mv hbw => ?_))
              rw [zc_bd, zb_bind_ok ⟨hth, zo_hf0 c2⟩] at hK
              exact zr_iret C d_M_bind_141 rfl (hK _ _ (zm_mv_t (zm_mv_10 hM ho) mv) hbw) (Nat.zero_le _) (Nat.zero_le _)
          · exact absurd (by decide) c3
        · replace c2 := zb_nzt c2
          refine zr_bipush C d_M_bind_97 (n := 99) rfl (v := -3) (by decide) ?_
          rw [zc_bd, zb_bind_no (fun q => absurd ((zo_hf1 c1 c2).symm.trans q.2) (by decide))] at hK
          exact zr_iret C d_M_bind_99 rfl (hK _ _ (zm_mv_10 hM ho) (fun q => absurd q zb_m3)) (Nat.zero_le _) (Nat.zero_le _)
    · have hq := hum (by decide)
      refine zr_aload_n C d_M_bind_74 (n := 75) rfl rfl ?_
      refine zr_get C f_M_7 d_M_bind_75 (n := 78) rfl hm rfl ?_
      refine zr_iload C d_M_bind_78 (n := 80) rfl rfl ?_
      refine zr_zaldN C d_M_bind_80 (n := 81) rfl s0 rfl (by omega) (by decide) ?_
      refine zr_toe (y := zk_b (zo_th (V v) t)) ((hR v hv).1 t (by omega)).1 ?_
      refine zr_if_eq C d_M_bind_81 (n := 84) rfl (t := 97) (by decide) (fun c1 => ?_) (fun c1 => ?_)
      · replace c1 := zk_bz c1
        refine zr_bipush C d_M_bind_97 (n := 99) rfl (v := -3) (by decide) ?_
        rw [zc_bd, zb_bind_no (fun q => absurd (c1.symm.trans q.1) (by decide))] at hK
        exact zr_iret C d_M_bind_99 rfl (hK _ _ (zm_mv_10 hM ho) (fun q => absurd q zb_m3)) (Nat.zero_le _) (Nat.zero_le _)
      · replace c1 := zk_bn c1
        have hth := c1
        refine zr_aload_n C d_M_bind_84 (n := 85) rfl rfl ?_
        refine zr_get C f_M_13 d_M_bind_85 (n := 88) rfl hm rfl ?_
        refine zr_iload C d_M_bind_88 (n := 90) rfl rfl ?_
        refine zr_ialdN C d_M_bind_90 (n := 91) rfl s1 rfl (by omega) (by decide) ?_
        refine zr_toe (y := V v 0 t) (((hR v hv).1 t (by omega)).2 hth).1 ?_
        refine zr_bipush C d_M_bind_91 (n := 93) rfl (v := nI 8) (by decide) ?_
        refine zr_iand C d_M_bind_93 (n := 94) rfl ?_
        refine zr_if_eq C d_M_bind_94 (n := 97) rfl (t := 100) (by decide) (fun c2 => ?_) (fun c2 => ?_)
        · replace c2 := zb_nzf c2
          refine zr_iload_n C d_M_bind_100 (n := 101) rfl rfl ?_
          refine zr_iconst C d_M_bind_101 (n := 102) rfl (v := nI 2) (by decide) ?_
          refine zr_icmp_ge C d_M_bind_102 (n := 105) rfl (t := 116) (by decide) (fun c3 => ?_) (fun c3 => ?_)
          · refine zr_iload_n C d_M_bind_116 (n := 117) rfl rfl ?_
            refine zr_iconst C d_M_bind_117 (n := 118) rfl (v := nI 4) (by decide) ?_
            refine zr_icmp_ge C d_M_bind_118 (n := 121) rfl (t := 142) (by decide) (fun c4 => ?_) (fun c4 => ?_)
            · exact absurd c4 (by decide)
            · refine zr_aload_n C d_M_bind_121 (n := 122) rfl rfl ?_
              refine zr_iload_n C d_M_bind_122 (n := 123) rfl rfl ?_
              refine zr_iload_n C d_M_bind_123 (n := 124) rfl rfl ?_
              refine zr_iload C d_M_bind_124 (n := 126) rfl rfl ?_
              refine zr_iload C d_M_bind_126 (n := 128) rfl rfl ?_
              refine zr_aload_n C d_M_bind_128 (n := 129) rfl rfl ?_
              refine zr_get C f_M_38 d_M_bind_129 (n := 132) rfl hm rfl ?_
              refine zr_iconst C d_M_bind_132 (n := 133) rfl (v := nI 4) (by decide) ?_
              refine zr_iload_n C d_M_bind_133 (n := 134) rfl rfl ?_
              refine zr_imul C d_M_bind_134 (n := 135) rfl ?_
              refine zr_toe (by simp only [pk_mul, nI_add]; rfl) ?_
              refine zr_iconst C d_M_bind_135 (n := 136) rfl (v := nI 3) (by decide) ?_
              refine zr_iadd C d_M_bind_136 (n := 137) rfl ?_
              refine zr_toe (by simp only [pk_mul, nI_add]; rfl) ?_
              refine zr_ialdN C d_M_bind_137 (n := 138) rfl s9 rfl (by omega) (by decide) ?_
              refine zr_toe (y := nI a9.toNatClampNeg) (e3.trans hq.2.1) ?_
              refine zr_callV5 C k_M_88 d_M_bind_138 (nx := 141) rfl hm rfl ⟨by decide, by decide⟩ (Nat.le_of_ble_eq_true rfl) ⟨by decide, by decide⟩ (sp_M_bindCall l hM1 hR1 hok hv hZ (by decide) ht hq.1 hq.2.2 hth (fun h2 S2 mv hbw => ?_))
              rw [zc_bd, zb_bind_ok ⟨hth, zo_hf0 c2⟩] at hK
              exact zr_iret C d_M_bind_141 rfl (hK _ _ (zm_mv_t (zm_mv_10 hM ho) mv) hbw) (Nat.zero_le _) (Nat.zero_le _)
          · exact absurd (by decide) c3
        · replace c2 := zb_nzt c2
          refine zr_bipush C d_M_bind_97 (n := 99) rfl (v := -3) (by decide) ?_
          rw [zc_bd, zb_bind_no (fun q => absurd ((zo_hf1 c1 c2).symm.trans q.2) (by decide))] at hK
          exact zr_iret C d_M_bind_99 rfl (hK _ _ (zm_mv_10 hM ho) (fun q => absurd q zb_m3)) (Nat.zero_le _) (Nat.zero_le _)
    · refine zr_aload_n C d_M_bind_74 (n := 75) rfl rfl ?_
      refine zr_get C f_M_7 d_M_bind_75 (n := 78) rfl hm rfl ?_
      refine zr_iload C d_M_bind_78 (n := 80) rfl rfl ?_
      refine zr_zaldN C d_M_bind_80 (n := 81) rfl s0 rfl (by omega) (by decide) ?_
      refine zr_toe (y := zk_b (zo_th (V v) t)) ((hR v hv).1 t (by omega)).1 ?_
      refine zr_if_eq C d_M_bind_81 (n := 84) rfl (t := 97) (by decide) (fun c1 => ?_) (fun c1 => ?_)
      · replace c1 := zk_bz c1
        refine zr_bipush C d_M_bind_97 (n := 99) rfl (v := -3) (by decide) ?_
        rw [zc_bd, zb_bind_no (fun q => absurd (c1.symm.trans q.1) (by decide))] at hK
        exact zr_iret C d_M_bind_99 rfl (hK _ _ (zm_mv_10 hM ho) (fun q => absurd q zb_m3)) (Nat.zero_le _) (Nat.zero_le _)
      · replace c1 := zk_bn c1
        have hth := c1
        refine zr_aload_n C d_M_bind_84 (n := 85) rfl rfl ?_
        refine zr_get C f_M_13 d_M_bind_85 (n := 88) rfl hm rfl ?_
        refine zr_iload C d_M_bind_88 (n := 90) rfl rfl ?_
        refine zr_ialdN C d_M_bind_90 (n := 91) rfl s1 rfl (by omega) (by decide) ?_
        refine zr_toe (y := V v 0 t) (((hR v hv).1 t (by omega)).2 hth).1 ?_
        refine zr_bipush C d_M_bind_91 (n := 93) rfl (v := nI 8) (by decide) ?_
        refine zr_iand C d_M_bind_93 (n := 94) rfl ?_
        refine zr_if_eq C d_M_bind_94 (n := 97) rfl (t := 100) (by decide) (fun c2 => ?_) (fun c2 => ?_)
        · replace c2 := zb_nzf c2
          refine zr_iload_n C d_M_bind_100 (n := 101) rfl rfl ?_
          refine zr_iconst C d_M_bind_101 (n := 102) rfl (v := nI 2) (by decide) ?_
          refine zr_icmp_ge C d_M_bind_102 (n := 105) rfl (t := 116) (by decide) (fun c3 => ?_) (fun c3 => ?_)
          · refine zr_iload_n C d_M_bind_116 (n := 117) rfl rfl ?_
            refine zr_iconst C d_M_bind_117 (n := 118) rfl (v := nI 4) (by decide) ?_
            refine zr_icmp_ge C d_M_bind_118 (n := 121) rfl (t := 142) (by decide) (fun c4 => ?_) (fun c4 => ?_)
            · refine zr_iload_n C d_M_bind_142 (n := 143) rfl rfl ?_
              refine zr_iconst C d_M_bind_143 (n := 144) rfl (v := nI 4) (by decide) ?_
              refine zr_icmp_ne C d_M_bind_144 (n := 147) rfl (t := 166) (by decide) (fun c5 => ?_) (fun c5 => ?_)
              · exact absurd rfl c5
              · refine zr_aload_n C d_M_bind_147 (n := 148) rfl rfl ?_
                refine zr_get C f_M_13 d_M_bind_148 (n := 151) rfl hm rfl ?_
                refine zr_iload C d_M_bind_151 (n := 153) rfl rfl ?_
                refine zr_ialdN C d_M_bind_153 (n := 154) rfl s1 rfl (by omega) (by decide) ?_
                refine zr_toe (y := V v 0 t) (((hR v hv).1 t (by omega)).2 hth).1 ?_
                refine zr_iconst C d_M_bind_154 (n := 155) rfl (v := nI 3) (by decide) ?_
                refine zr_iand C d_M_bind_155 (n := 156) rfl ?_
                refine zr_if_eq C d_M_bind_156 (n := 159) rfl (t := 164) (by decide) (fun c6 => ?_) (fun c6 => ?_)
                · replace c6 := zb_nzf c6
                  refine zr_iconst C d_M_bind_164 (n := 165) rfl (v := nI 0) (by decide) ?_
                  rw [zc_bd, zb_bind_ok ⟨hth, zo_hf0 c2⟩] at hK
                  have e8 : zb_kd (V v) 4 t nm a9.toNatClampNeg (zb_b1 (V v) t zc_Z) = (nI 0, zb_b1 (V v) t zc_Z) := by
                    show (zb_if (zo_hf (V v) t (nI 3)) (-5) (nI 0), _) = _
                    rw [zo_hf_nz hth, c6]
                    rfl
                  rw [e8] at hK
                  exact zr_iret C d_M_bind_165 rfl (hK _ _ (zm_mv_10 hM ho) (fun q => zm_bw_4 hZ)) (Nat.zero_le _) (Nat.zero_le _)
                · replace c6 := zb_nzt c6
                  refine zr_bipush C d_M_bind_159 (n := 161) rfl (v := -5) (by decide) ?_
                  refine zr_goto C d_M_bind_161 (t := 165) (by decide) ?_
                  rw [zc_bd, zb_bind_ok ⟨hth, zo_hf0 c2⟩] at hK
                  have e8 : zb_kd (V v) 4 t nm a9.toNatClampNeg (zb_b1 (V v) t zc_Z) = (-5, zb_b1 (V v) t zc_Z) := by
                    show (zb_if (zo_hf (V v) t (nI 3)) (-5) (nI 0), _) = _
                    rw [zo_hf_nz hth, c6]
                    rfl
                  rw [e8] at hK
                  exact zr_iret C d_M_bind_165 rfl (hK _ _ (zm_mv_10 hM ho) (fun q => absurd q zb_m5)) (Nat.zero_le _) (Nat.zero_le _)
            · exact absurd (by decide) c4
          · exact absurd (by decide) c3
        · replace c2 := zb_nzt c2
          refine zr_bipush C d_M_bind_97 (n := 99) rfl (v := -3) (by decide) ?_
          rw [zc_bd, zb_bind_no (fun q => absurd ((zo_hf1 c1 c2).symm.trans q.2) (by decide))] at hK
          exact zr_iret C d_M_bind_99 rfl (hK _ _ (zm_mv_10 hM ho) (fun q => absurd q zb_m3)) (Nat.zero_le _) (Nat.zero_le _)
    · refine zr_aload_n C d_M_bind_74 (n := 75) rfl rfl ?_
      refine zr_get C f_M_7 d_M_bind_75 (n := 78) rfl hm rfl ?_
      refine zr_iload C d_M_bind_78 (n := 80) rfl rfl ?_
      refine zr_zaldN C d_M_bind_80 (n := 81) rfl s0 rfl (by omega) (by decide) ?_
      refine zr_toe (y := zk_b (zo_th (V v) t)) ((hR v hv).1 t (by omega)).1 ?_
      refine zr_if_eq C d_M_bind_81 (n := 84) rfl (t := 97) (by decide) (fun c1 => ?_) (fun c1 => ?_)
      · replace c1 := zk_bz c1
        refine zr_bipush C d_M_bind_97 (n := 99) rfl (v := -3) (by decide) ?_
        rw [zc_bd, zb_bind_no (fun q => absurd (c1.symm.trans q.1) (by decide))] at hK
        exact zr_iret C d_M_bind_99 rfl (hK _ _ (zm_mv_10 hM ho) (fun q => absurd q zb_m3)) (Nat.zero_le _) (Nat.zero_le _)
      · replace c1 := zk_bn c1
        have hth := c1
        refine zr_aload_n C d_M_bind_84 (n := 85) rfl rfl ?_
        refine zr_get C f_M_13 d_M_bind_85 (n := 88) rfl hm rfl ?_
        refine zr_iload C d_M_bind_88 (n := 90) rfl rfl ?_
        refine zr_ialdN C d_M_bind_90 (n := 91) rfl s1 rfl (by omega) (by decide) ?_
        refine zr_toe (y := V v 0 t) (((hR v hv).1 t (by omega)).2 hth).1 ?_
        refine zr_bipush C d_M_bind_91 (n := 93) rfl (v := nI 8) (by decide) ?_
        refine zr_iand C d_M_bind_93 (n := 94) rfl ?_
        refine zr_if_eq C d_M_bind_94 (n := 97) rfl (t := 100) (by decide) (fun c2 => ?_) (fun c2 => ?_)
        · replace c2 := zb_nzf c2
          refine zr_iload_n C d_M_bind_100 (n := 101) rfl rfl ?_
          refine zr_iconst C d_M_bind_101 (n := 102) rfl (v := nI 2) (by decide) ?_
          refine zr_icmp_ge C d_M_bind_102 (n := 105) rfl (t := 116) (by decide) (fun c3 => ?_) (fun c3 => ?_)
          · refine zr_iload_n C d_M_bind_116 (n := 117) rfl rfl ?_
            refine zr_iconst C d_M_bind_117 (n := 118) rfl (v := nI 4) (by decide) ?_
            refine zr_icmp_ge C d_M_bind_118 (n := 121) rfl (t := 142) (by decide) (fun c4 => ?_) (fun c4 => ?_)
            · refine zr_iload_n C d_M_bind_142 (n := 143) rfl rfl ?_
              refine zr_iconst C d_M_bind_143 (n := 144) rfl (v := nI 4) (by decide) ?_
              refine zr_icmp_ne C d_M_bind_144 (n := 147) rfl (t := 166) (by decide) (fun c5 => ?_) (fun c5 => ?_)
              · refine zr_aload_n C d_M_bind_166 (n := 167) rfl rfl ?_
                refine zr_get C f_M_13 d_M_bind_167 (n := 170) rfl hm rfl ?_
                refine zr_iload C d_M_bind_170 (n := 172) rfl rfl ?_
                refine zr_ialdN C d_M_bind_172 (n := 173) rfl s1 rfl (by omega) (by decide) ?_
                refine zr_toe (y := V v 0 t) (((hR v hv).1 t (by omega)).2 hth).1 ?_
                refine zr_iconst C d_M_bind_173 (n := 174) rfl (v := nI 4) (by decide) ?_
                refine zr_iand C d_M_bind_174 (n := 175) rfl ?_
                refine zr_if_eq C d_M_bind_175 (n := 178) rfl (t := 181) (by decide) (fun c6 => ?_) (fun c6 => ?_)
                · replace c6 := zb_nzf c6
                  refine zr_iload_n C d_M_bind_181 (n := 182) rfl rfl ?_
                  refine zr_iconst C d_M_bind_182 (n := 183) rfl (v := nI 5) (by decide) ?_
                  refine zr_icmp_ne C d_M_bind_183 (n := 186) rfl (t := 208) (by decide) (fun c7 => ?_) (fun c7 => ?_)
                  · exact absurd rfl c7
                  · refine zr_aload_n C d_M_bind_186 (n := 187) rfl rfl ?_
                    refine zr_get C f_M_41 d_M_bind_187 (n := 190) rfl hm rfl ?_
                    refine zr_bipush C d_M_bind_190 (n := 192) rfl (v := nI 7) (by decide) ?_
                    refine zr_iload_n C d_M_bind_192 (n := 193) rfl rfl ?_
                    refine zr_imul C d_M_bind_193 (n := 194) rfl ?_
                    refine zr_toe (by simp only [pk_mul, nI_add]; rfl) ?_
                    refine zr_iconst C d_M_bind_194 (n := 195) rfl (v := nI 4) (by decide) ?_
                    refine zr_iadd C d_M_bind_195 (n := 196) rfl ?_
                    refine zr_toe (by simp only [pk_mul, nI_add]; rfl) ?_
                    refine zr_aload_n C d_M_bind_196 (n := 197) rfl rfl ?_
                    refine zr_get C f_M_13 d_M_bind_197 (n := 200) rfl hm rfl ?_
                    refine zr_iload C d_M_bind_200 (n := 202) rfl rfl ?_
                    refine zr_ialdN C d_M_bind_202 (n := 203) rfl s1 rfl (by omega) (by decide) ?_
                    refine zr_toe (y := V v 0 t) (((hR v hv).1 t (by omega)).2 hth).1 ?_
                    refine zr_iconst C d_M_bind_203 (n := 204) rfl (v := nI 1) (by decide) ?_
                    refine zr_callS2 C k_M_73 d_M_bind_204 (nx := 207) rfl ⟨by decide, by decide⟩ (Nat.le_of_ble_eq_true rfl) ⟨by decide, by decide⟩ (sp_M_bit l ?_)
                    refine zr_iastN C d_M_bind_207 (n := 208) rfl s10 rfl (by omega) (by decide) ?_
                    refine zr_iload_n C d_M_bind_208 (n := 209) rfl rfl ?_
                    refine zr_iconst C d_M_bind_209 (n := 210) rfl (v := nI 5) (by decide) ?_
                    refine zr_icmp_ne C d_M_bind_210 (n := 213) rfl (t := 217) (by decide) (fun c8 => ?_) (fun c8 => ?_)
                    · exact absurd rfl c8
                    · refine zr_iconst C d_M_bind_213 (n := 214) rfl (v := nI 0) (by decide) ?_
                      refine zr_goto C d_M_bind_214 (t := 236) (by decide) ?_
                      rw [zc_bd, zb_bind_ok ⟨hth, zo_hf0 c2⟩] at hK
                      have e8 : zb_kd (V v) 5 t nm a9.toNatClampNeg (zb_b1 (V v) t zc_Z) = (nI 0, zb_b1 (V v) t zc_Z) := by
                        show (zb_if (zo_hf (V v) t (nI 4)) (-5) (nI 0), _) = _
                        rw [zo_hf_nz hth, c6]
                        rfl
                      rw [e8] at hK
                      rw [zk_sset]
                      exact zr_iret C d_M_bind_236 rfl (hK _ _ (zm_mv_10 hM (zm_o1 ho)) (fun _ => zm_bw_5 (by show zk_b (zo_hf (V v) t (nI 1)) = _; rw [zo_hf_nz hth]) hZ)) (Nat.zero_le _) (Nat.zero_le _)
                · replace c6 := zb_nzt c6
                  refine zr_bipush C d_M_bind_178 (n := 180) rfl (v := -5) (by decide) ?_
                  rw [zc_bd, zb_bind_ok ⟨hth, zo_hf0 c2⟩] at hK
                  have e8 : zb_kd (V v) 5 t nm a9.toNatClampNeg (zb_b1 (V v) t zc_Z) = (-5, zb_b1 (V v) t zc_Z) := by
                    show (zb_if (zo_hf (V v) t (nI 4)) (-5) (nI 0), _) = _
                    rw [zo_hf_nz hth, c6]
                    rfl
                  rw [e8] at hK
                  exact zr_iret C d_M_bind_180 rfl (hK _ _ (zm_mv_10 hM ho) (fun q => absurd q zb_m5)) (Nat.zero_le _) (Nat.zero_le _)
              · exact absurd c5 (by decide)
            · exact absurd (by decide) c4
          · exact absurd (by decide) c3
        · replace c2 := zb_nzt c2
          refine zr_bipush C d_M_bind_97 (n := 99) rfl (v := -3) (by decide) ?_
          rw [zc_bd, zb_bind_no (fun q => absurd ((zo_hf1 c1 c2).symm.trans q.2) (by decide))] at hK
          exact zr_iret C d_M_bind_99 rfl (hK _ _ (zm_mv_10 hM ho) (fun q => absurd q zb_m3)) (Nat.zero_le _) (Nat.zero_le _)
    · have hq := hum (by decide)
      refine zr_aload_n C d_M_bind_74 (n := 75) rfl rfl ?_
      refine zr_get C f_M_7 d_M_bind_75 (n := 78) rfl hm rfl ?_
      refine zr_iload C d_M_bind_78 (n := 80) rfl rfl ?_
      refine zr_zaldN C d_M_bind_80 (n := 81) rfl s0 rfl (by omega) (by decide) ?_
      refine zr_toe (y := zk_b (zo_th (V v) t)) ((hR v hv).1 t (by omega)).1 ?_
      refine zr_if_eq C d_M_bind_81 (n := 84) rfl (t := 97) (by decide) (fun c1 => ?_) (fun c1 => ?_)
      · replace c1 := zk_bz c1
        refine zr_bipush C d_M_bind_97 (n := 99) rfl (v := -3) (by decide) ?_
        rw [zc_bd, zb_bind_no (fun q => absurd (c1.symm.trans q.1) (by decide))] at hK
        exact zr_iret C d_M_bind_99 rfl (hK _ _ (zm_mv_10 hM ho) (fun q => absurd q zb_m3)) (Nat.zero_le _) (Nat.zero_le _)
      · replace c1 := zk_bn c1
        have hth := c1
        refine zr_aload_n C d_M_bind_84 (n := 85) rfl rfl ?_
        refine zr_get C f_M_13 d_M_bind_85 (n := 88) rfl hm rfl ?_
        refine zr_iload C d_M_bind_88 (n := 90) rfl rfl ?_
        refine zr_ialdN C d_M_bind_90 (n := 91) rfl s1 rfl (by omega) (by decide) ?_
        refine zr_toe (y := V v 0 t) (((hR v hv).1 t (by omega)).2 hth).1 ?_
        refine zr_bipush C d_M_bind_91 (n := 93) rfl (v := nI 8) (by decide) ?_
        refine zr_iand C d_M_bind_93 (n := 94) rfl ?_
        refine zr_if_eq C d_M_bind_94 (n := 97) rfl (t := 100) (by decide) (fun c2 => ?_) (fun c2 => ?_)
        · replace c2 := zb_nzf c2
          refine zr_iload_n C d_M_bind_100 (n := 101) rfl rfl ?_
          refine zr_iconst C d_M_bind_101 (n := 102) rfl (v := nI 2) (by decide) ?_
          refine zr_icmp_ge C d_M_bind_102 (n := 105) rfl (t := 116) (by decide) (fun c3 => ?_) (fun c3 => ?_)
          · refine zr_iload_n C d_M_bind_116 (n := 117) rfl rfl ?_
            refine zr_iconst C d_M_bind_117 (n := 118) rfl (v := nI 4) (by decide) ?_
            refine zr_icmp_ge C d_M_bind_118 (n := 121) rfl (t := 142) (by decide) (fun c4 => ?_) (fun c4 => ?_)
            · refine zr_iload_n C d_M_bind_142 (n := 143) rfl rfl ?_
              refine zr_iconst C d_M_bind_143 (n := 144) rfl (v := nI 4) (by decide) ?_
              refine zr_icmp_ne C d_M_bind_144 (n := 147) rfl (t := 166) (by decide) (fun c5 => ?_) (fun c5 => ?_)
              · refine zr_aload_n C d_M_bind_166 (n := 167) rfl rfl ?_
                refine zr_get C f_M_13 d_M_bind_167 (n := 170) rfl hm rfl ?_
                refine zr_iload C d_M_bind_170 (n := 172) rfl rfl ?_
                refine zr_ialdN C d_M_bind_172 (n := 173) rfl s1 rfl (by omega) (by decide) ?_
                refine zr_toe (y := V v 0 t) (((hR v hv).1 t (by omega)).2 hth).1 ?_
                refine zr_iconst C d_M_bind_173 (n := 174) rfl (v := nI 4) (by decide) ?_
                refine zr_iand C d_M_bind_174 (n := 175) rfl ?_
                refine zr_if_eq C d_M_bind_175 (n := 178) rfl (t := 181) (by decide) (fun c6 => ?_) (fun c6 => ?_)
                · replace c6 := zb_nzf c6
                  have hx4 : zo_hf (V v) t (nI 4) = false := zo_hf0 c6
                  refine zr_iload_n C d_M_bind_181 (n := 182) rfl rfl ?_
                  refine zr_iconst C d_M_bind_182 (n := 183) rfl (v := nI 5) (by decide) ?_
                  refine zr_icmp_ne C d_M_bind_183 (n := 186) rfl (t := 208) (by decide) (fun c7 => ?_) (fun c7 => ?_)
                  · refine zr_iload_n C d_M_bind_208 (n := 209) rfl rfl ?_
                    refine zr_iconst C d_M_bind_209 (n := 210) rfl (v := nI 5) (by decide) ?_
                    refine zr_icmp_ne C d_M_bind_210 (n := 213) rfl (t := 217) (by decide) (fun c8 => ?_) (fun c8 => ?_)
                    · refine zr_aload_n C d_M_bind_217 (n := 218) rfl rfl ?_
                      refine zr_iload_n C d_M_bind_218 (n := 219) rfl rfl ?_
                      refine zr_iload C d_M_bind_219 (n := 221) rfl rfl ?_
                      refine zr_iload C d_M_bind_221 (n := 223) rfl rfl ?_
                      refine zr_aload_n C d_M_bind_223 (n := 224) rfl rfl ?_
                      refine zr_get C f_M_38 d_M_bind_224 (n := 227) rfl hm rfl ?_
                      refine zr_iconst C d_M_bind_227 (n := 228) rfl (v := nI 4) (by decide) ?_
                      refine zr_iload_n C d_M_bind_228 (n := 229) rfl rfl ?_
                      refine zr_imul C d_M_bind_229 (n := 230) rfl ?_
                      refine zr_toe (by simp only [pk_mul, nI_add]; rfl) ?_
                      refine zr_iconst C d_M_bind_230 (n := 231) rfl (v := nI 3) (by decide) ?_
                      refine zr_iadd C d_M_bind_231 (n := 232) rfl ?_
                      refine zr_toe (by simp only [pk_mul, nI_add]; rfl) ?_
                      refine zr_ialdN C d_M_bind_232 (n := 233) rfl s9 rfl (by omega) (by decide) ?_
                      refine zr_toe (y := nI a9.toNatClampNeg) (e3.trans hq.2.1) ?_
                      refine zr_callV4 C k_M_91 d_M_bind_233 (nx := 236) rfl hm rfl ⟨by decide, by decide⟩ (Nat.le_of_ble_eq_true rfl) ⟨by decide, by decide⟩ (sp_M_bindOverride l hM1 hR1 hok hv hZ ht hq.1 hq.2.2 hth hx4 (fun h2 S2 mv hbw => ?_))
                      rw [zc_bd, zb_bind_ok ⟨hth, zo_hf0 c2⟩] at hK
                      exact zr_iret C d_M_bind_236 rfl (hK _ _ (zm_mv_t (zm_mv_10 hM ho) mv) hbw) (Nat.zero_le _) (Nat.zero_le _)
                    · exact absurd c8 (by decide)
                  · exact absurd c7 (by decide)
                · replace c6 := zb_nzt c6
                  refine zr_bipush C d_M_bind_178 (n := 180) rfl (v := -5) (by decide) ?_
                  rw [zc_bd, zb_bind_ok ⟨hth, zo_hf0 c2⟩] at hK
                  have e8 : zb_kd (V v) 6 t nm a9.toNatClampNeg (zb_b1 (V v) t zc_Z) = (-5, zb_b1 (V v) t zc_Z) := zb_o_x (by rw [zo_hf_nz hth, c6])
                  rw [e8] at hK
                  exact zr_iret C d_M_bind_180 rfl (hK _ _ (zm_mv_10 hM ho) (fun q => absurd q zb_m5)) (Nat.zero_le _) (Nat.zero_le _)
              · exact absurd c5 (by decide)
            · exact absurd (by decide) c4
          · exact absurd (by decide) c3
        · replace c2 := zb_nzt c2
          refine zr_bipush C d_M_bind_97 (n := 99) rfl (v := -3) (by decide) ?_
          rw [zc_bd, zb_bind_no (fun q => absurd ((zo_hf1 c1 c2).symm.trans q.2) (by decide))] at hK
          exact zr_iret C d_M_bind_99 rfl (hK _ _ (zm_mv_10 hM ho) (fun q => absurd q zb_m3)) (Nat.zero_le _) (Nat.zero_le _)
  have L : ∀ (n i : Nat) (f : Nat → Int32), n + i = 7 → (∀ x, x < i → f (7 * v + x) = 0) → (∀ y, ¬ (7 * v ≤ y ∧ y < 7 * v + 7) → f y = S 10 y) → zk_V p l e rm_M_bind s m ar below meth c 8 D dA b base (MQ below (zk_Q K D dA b base) ar s rm_M_bind.cells rm_M_bind.slots (fun q : Nat => base ≤ q)) 0 0 48 [some (.ref (38 + 1)), some (.int (nI j)), some (.int (nI v)), some (.int (nI k)), some (.int (nI t)), some (.int (nI nm)), some (.int (nI (6 * v + t))), some (.int (nI (7 * v + i)))] [] (h.set 49 (.inl (0, 14, .inl f))) := by
    intro n
    induction n with
    | zero =>
      intro i f hi hz ho
      refine zr_iload C d_M_bind_48 (n := 50) rfl rfl ?_
      refine zr_bipush C d_M_bind_50 (n := 52) rfl (v := nI 7) (by decide) ?_
      refine zr_iload_n C d_M_bind_52 (n := 53) rfl rfl ?_
      refine zr_imul C d_M_bind_53 (n := 54) rfl ?_
      refine zr_toe (by simp only [pk_mul, nI_add]; rfl) ?_
      refine zr_bipush C d_M_bind_54 (n := 56) rfl (v := nI 7) (by decide) ?_
      refine zr_iadd C d_M_bind_56 (n := 57) rfl ?_
      refine zr_toe (by simp only [pk_mul, nI_add]; rfl) ?_
      refine zr_icmp_ge C d_M_bind_57 (n := 60) rfl (t := 74) (by decide) (fun c1 => ?_) (fun c1 => ?_)
      · refine zr_drop 7 ?_
        exact T f (fun x hx => hz x (by omega)) ho
      · exact absurd (zk_nle (by omega) (by omega) c1) (by omega)
    | succ n ih =>
      intro i f hi hz ho
      refine zr_iload C d_M_bind_48 (n := 50) rfl rfl ?_
      refine zr_bipush C d_M_bind_50 (n := 52) rfl (v := nI 7) (by decide) ?_
      refine zr_iload_n C d_M_bind_52 (n := 53) rfl rfl ?_
      refine zr_imul C d_M_bind_53 (n := 54) rfl ?_
      refine zr_toe (by simp only [pk_mul, nI_add]; rfl) ?_
      refine zr_bipush C d_M_bind_54 (n := 56) rfl (v := nI 7) (by decide) ?_
      refine zr_iadd C d_M_bind_56 (n := 57) rfl ?_
      refine zr_toe (by simp only [pk_mul, nI_add]; rfl) ?_
      refine zr_icmp_ge C d_M_bind_57 (n := 60) rfl (t := 74) (by decide) (fun c1 => ?_) (fun c1 => ?_)
      · exact absurd (zk_le (by omega) (by omega) c1) (by omega)
      · refine zr_aload_n C d_M_bind_60 (n := 61) rfl rfl ?_
        refine zr_get C f_M_41 d_M_bind_61 (n := 64) rfl (zk_g1 (by omega) hm) rfl ?_
        refine zr_iload C d_M_bind_64 (n := 66) rfl rfl ?_
        refine zr_iconst C d_M_bind_66 (n := 67) rfl (v := nI 0) (by decide) ?_
        refine zr_iastN C d_M_bind_67 (n := 68) rfl (zk_g0 s10) rfl (by omega) (by decide) ?_
        rw [zk_sset]
        refine zr_iinc C d_M_bind_68 (n := 71) rfl rfl (w := 1) (by decide) (nI_1 (7 * v + i)) (by decide) rfl ?_
        refine zr_goto C d_M_bind_71 (t := 48) (by decide) ?_
        exact ih (i + 1) _ (by omega) (fun x hx => by
          by_cases q : x = i
          · rw [q]; exact pk_us
          · exact (pk_un (by omega)).trans (hz x (by omega))) (fun y hy => (pk_un (by omega)).trans (ho y hy))
  refine zr_aload_n C d_M_bind_0 (n := 1) rfl rfl ?_
  refine zr_get C f_M_38 d_M_bind_1 (n := 4) rfl hm rfl ?_
  refine zr_iconst C d_M_bind_4 (n := 5) rfl (v := nI 4) (by decide) ?_
  refine zr_iload_n C d_M_bind_5 (n := 6) rfl rfl ?_
  refine zr_imul C d_M_bind_6 (n := 7) rfl ?_
  refine zr_toe (by simp only [pk_mul, nI_add]; rfl) ?_
  refine zr_ialdN C d_M_bind_7 (n := 8) rfl s9 rfl (by omega) (by decide) ?_
  refine zr_toe (y := nI k) e0 ?_
  refine zr_istore_n C d_M_bind_8 (n := 9) rfl (by decide) rfl ?_
  refine zr_aload_n C d_M_bind_9 (n := 10) rfl rfl ?_
  refine zr_get C f_M_38 d_M_bind_10 (n := 13) rfl hm rfl ?_
  refine zr_iconst C d_M_bind_13 (n := 14) rfl (v := nI 4) (by decide) ?_
  refine zr_iload_n C d_M_bind_14 (n := 15) rfl rfl ?_
  refine zr_imul C d_M_bind_15 (n := 16) rfl ?_
  refine zr_toe (by simp only [pk_mul, nI_add]; rfl) ?_
  refine zr_iconst C d_M_bind_16 (n := 17) rfl (v := nI 1) (by decide) ?_
  refine zr_iadd C d_M_bind_17 (n := 18) rfl ?_
  refine zr_toe (by simp only [pk_mul, nI_add]; rfl) ?_
  refine zr_ialdN C d_M_bind_18 (n := 19) rfl s9 rfl (by omega) (by decide) ?_
  refine zr_toe (y := nI t) e1 ?_
  refine zr_istore C d_M_bind_19 (n := 21) rfl (by decide) rfl ?_
  refine zr_aload_n C d_M_bind_21 (n := 22) rfl rfl ?_
  refine zr_get C f_M_38 d_M_bind_22 (n := 25) rfl hm rfl ?_
  refine zr_iconst C d_M_bind_25 (n := 26) rfl (v := nI 4) (by decide) ?_
  refine zr_iload_n C d_M_bind_26 (n := 27) rfl rfl ?_
  refine zr_imul C d_M_bind_27 (n := 28) rfl ?_
  refine zr_toe (by simp only [pk_mul, nI_add]; rfl) ?_
  refine zr_iconst C d_M_bind_28 (n := 29) rfl (v := nI 2) (by decide) ?_
  refine zr_iadd C d_M_bind_29 (n := 30) rfl ?_
  refine zr_toe (by simp only [pk_mul, nI_add]; rfl) ?_
  refine zr_ialdN C d_M_bind_30 (n := 31) rfl s9 rfl (by omega) (by decide) ?_
  refine zr_toe (y := nI nm) e2 ?_
  refine zr_istore C d_M_bind_31 (n := 33) rfl (by decide) rfl ?_
  refine zr_bipush C d_M_bind_33 (n := 35) rfl (v := nI 6) (by decide) ?_
  refine zr_iload_n C d_M_bind_35 (n := 36) rfl rfl ?_
  refine zr_imul C d_M_bind_36 (n := 37) rfl ?_
  refine zr_toe (by simp only [pk_mul, nI_add]; rfl) ?_
  refine zr_iload C d_M_bind_37 (n := 39) rfl rfl ?_
  refine zr_iadd C d_M_bind_39 (n := 40) rfl ?_
  refine zr_toe (by simp only [pk_mul, nI_add]; rfl) ?_
  refine zr_istore C d_M_bind_40 (n := 42) rfl (by decide) rfl ?_
  refine zr_bipush C d_M_bind_42 (n := 44) rfl (v := nI 7) (by decide) ?_
  refine zr_iload_n C d_M_bind_44 (n := 45) rfl rfl ?_
  refine zr_imul C d_M_bind_45 (n := 46) rfl ?_
  refine zr_toe (by simp only [pk_mul, nI_add]; rfl) ?_
  refine zr_istore C d_M_bind_46 (n := 48) rfl (by decide) rfl ?_
  have hG := L 7 0 (S 10) rfl (fun x hx => by omega) (fun y hy => rfl)
  rw [zk_sid s10] at hG
  exact hG
