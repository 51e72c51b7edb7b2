theorem zb_cj_th {O : zo_O} (hw : zo_wf O) {t nm : Nat} (ht : t < 6) (hnm : nm < 3) : ∀ n p j, n + p ≤ 4 → zb_cj O t nm n p = some j → j < 72 ∧ ¬ O 6 j = -1
  | 0, _, _, _, h => by cases h
  | n + 1, p, j, hn, h => by
    rw [zb_cj] at h
    rcases zo_fm_th hw ht hnm (pa := p) (by omega) (an := -1) with e | ⟨i, hi, e, -, h6⟩
    · rw [e, zb_pl_n] at h
      exact zb_cj_th hw ht hnm n (p + 1) j (by omega) h
    · rw [e, zb_pl_s (by omega)] at h
      dsimp only at h
      by_cases h8 : zb_nz (O 6 i) (nI 8) = true
      · rw [if_pos h8] at h
        exact zb_cj_th hw ht hnm n (p + 1) j (by omega) h
      · rw [if_neg h8] at h
        cases h
        exact ⟨hi, h6⟩
/-- of a call that compiles the answer is a number below 4 -/
theorem zc_bd_7 {O : zo_O} (hok : zo_ok O) {k t nm ag : Nat} (ht : t < 6) (hnm : nm < 3) (hag : ag < 4) (hk : k = 2 ∨ k = 3) (he : zc_bd O k t nm ag 0 = 0) : ∃ a, a < 4 ∧ zc_bd O k t nm ag 7 = nI a := by
  unfold zc_bd at he ⊢
  by_cases h : zo_th O t = true ∧ zo_hf O t (nI 8) = false
  · rw [zb_bind_ok h] at he ⊢
    have key : ∀ k, (zb_fin (zb_cr O k (zb_b1 O t zc_Z) (zb_cJ O t nm ag))) 0 = 0 → ∃ a, a < 4 ∧ (zb_fin (zb_cr O k (zb_b1 O t zc_Z) (zb_cJ O t nm ag))) 7 = nI a := by
      intro k he
      cases hr : zb_cJ O t nm ag with
      | none => rw [hr] at he; exact absurd he zb_m4
      | some j =>
        rw [hr] at he
        obtain ⟨hj, h6⟩ := zb_cj_th (zo_ok_wf hok) ht hnm _ _ j (by
          by_cases q : ag = 0
          · rw [if_pos q]; omega
          · rw [if_neg q]; omega) hr
        by_cases hx : k = 3 ∧ zb_nz (O 6 j) (nI 1) = false
        · have q : (zb_fin (zb_m O k j (zb_b1 O t zc_Z))) 0 = 0 := he
          rw [zb_m_no hx.1 hx.2] at q
          exact absurd q zb_m5
        · obtain ⟨a, ha, e⟩ := hok.2.2.2 j hj h6
          refine ⟨a, ha, ?_⟩
          show (zb_fin (zb_m O k j (zb_b1 O t zc_Z))) 7 = _
          rw [zb_m_yes hx]
          exact e
    rcases hk with rfl | rfl
    · have q : zb_fin (zb_cc O 2 t nm ag (zb_b1 O t zc_Z)) 0 = 0 := he
      rw [zb_cc_eq] at q
      have r := key 2 q
      rw [← zb_cc_eq] at r
      exact r
    · have q : zb_fin (zb_cc O 3 t nm ag (zb_b1 O t zc_Z)) 0 = 0 := he
      rw [zb_cc_eq] at q
      have r := key 3 q
      rw [← zb_cc_eq] at r
      exact r
  · rw [zb_bind_no h] at he
    exact absurd he zb_m3
/-- what compiles has its type there -/
theorem zc_bd_th {O : zo_O} {k t nm ag : Nat} (he : zc_bd O k t nm ag 0 = 0) : zo_th O t = true ∧ zo_hf O t (nI 8) = false := Classical.byContradiction fun h => by
  rw [zc_bd, zb_bind_no h] at he
  exact absurd he zb_m3
/-- of a field that compiles -/
theorem zc_bd_f {O : zo_O} (hok : zo_ok O) {k t nm ag : Nat} (hk : k < 2) (ht : t < 6) (hnm : nm < 4) (he : zc_bd O k t nm ag 0 = 0) : ∃ j, j < 24 ∧ ¬ O 3 j = -1 ∧ zc_bd O k t nm ag 2 = zk_b (zb_nz (O 3 j) (nI 16)) ∧ zc_bd O k t nm ag 3 = O 4 j ∧ zc_bd O k t nm ag 4 = O 5 j := by
  have hb := zc_bd_th he
  have key : ∀ k, zb_fin (zb_f O k (zb_b1 O t zc_Z) (zb_pl (zo_ff O nm (-1) 6 t))) 0 = 0 → ∃ j, j < 24 ∧ ¬ O 3 j = -1 ∧ zb_fin (zb_f O k (zb_b1 O t zc_Z) (zb_pl (zo_ff O nm (-1) 6 t))) 2 = zk_b (zb_nz (O 3 j) (nI 16)) ∧ zb_fin (zb_f O k (zb_b1 O t zc_Z) (zb_pl (zo_ff O nm (-1) 6 t))) 3 = O 4 j ∧ zb_fin (zb_f O k (zb_b1 O t zc_Z) (zb_pl (zo_ff O nm (-1) 6 t))) 4 = O 5 j := by
    intro k he
    rcases zo_ff_th (zo_ok_wf hok) hnm (kd := -1) 6 t ht with e | ⟨j, hj, e, h3⟩
    · rw [e, zb_pl_n, zb_f_n] at he
      exact absurd he zb_m4
    · rw [e, zb_pl_s (by omega)] at he ⊢
      by_cases h8 : zb_nz (O 3 j) (nI 8) = true
      · rw [zb_f_h h8] at he; exact absurd he zb_m4
      · have h8' : zb_nz (O 3 j) (nI 8) = false := by simpa using h8
        by_cases hx : k = 1 ∧ zb_nz (O 3 j) (nI 4) = true
        · rw [zb_f_x h8' hx] at he; exact absurd he zb_m5
        · refine ⟨j, hj, h3, ?_⟩
          rw [zb_f_y h8' hx]
          exact ⟨rfl, rfl, rfl⟩
  unfold zc_bd at he ⊢
  rw [zb_bind_ok hb] at he ⊢
  rcases (show k = 0 ∨ k = 1 by omega) with rfl | rfl
  · exact key 0 he
  · exact key 1 he
theorem zc_bd_2 {O : zo_O} {k t nm ag : Nat} (hk : k < 7) (h2 : 2 ≤ k) (he : zc_bd O k t nm ag 0 = 0) : zc_bd O k t nm ag 2 = 0 := ((zb_ind (O := O) (t := t) (nm := nm) (ag := ag) hk zc_Z zc_Z).2.2 he).2.2.1 h2 |>.2
/-- the kind of type a use was bound at -/
theorem zc_bd_1 {O : zo_O} {k t nm ag : Nat} (hk : k = 5 ∨ k = 6) (he : zc_bd O k t nm ag 0 = 0) : zc_bd O k t nm ag 1 = zk_b (zb_nz (O 0 t) (nI 1)) := by
  have hb := zc_bd_th he
  unfold zc_bd at he ⊢
  rw [zb_bind_ok hb] at he ⊢
  rw [← zo_hf_nz hb.1]
  rcases hk with rfl | rfl
  · rfl
  · have e : ∀ r, zb_fin (zb_o O t (zb_b1 O t zc_Z) r) 0 = 0 → zb_fin (zb_o O t (zb_b1 O t zc_Z) r) 1 = zk_b (zo_hf O t (nI 1)) := by
      intro r he
      by_cases h4 : zo_hf O t (nI 4) = true
      · rw [zb_o_x h4] at he; exact absurd he zb_m5
      · have h4' : zo_hf O t (nI 4) = false := by simpa using h4
        cases r with
        | none => rw [zb_o_n h4'] at he; exact absurd he zb_m4
        | some j =>
          by_cases h8 : zb_nz (O 6 j) (nI 8) = true
          · rw [zb_o_h h4' h8] at he; exact absurd he zb_m4
          · rw [zb_o_y h4' (by simpa using h8)]
            by_cases h5 : zb_nz (O 6 j) (nI 5) = true
            · rw [if_pos h5]; rfl
            · rw [if_neg h5]; rfl
    exact e _ he
theorem zb_sv_n {O : zo_O} {t : Nat} {B : Nat → Int32} {r : Option Nat} (h : zo_th O t = false) : zb_sv O t B r = false := by
  unfold zb_sv
  rw [if_neg (by rw [h]; decide)]
theorem zb_sv_0 {O : zo_O} {t : Nat} {B : Nat → Int32} : zb_sv O t B none = false := by
  unfold zb_sv
  by_cases h : zo_th O t = true
  · rw [if_pos h]
  · rw [if_neg h]
theorem zb_sv_s {O : zo_O} {t j : Nat} {B : Nat → Int32} (h : zo_th O t = true) : zb_sv O t B (some j) = (zb_nz (O 3 j) (nI 16) && decide (O 4 j = B 3 ∧ O 5 j = B 4)) := by rw [zb_sv, if_pos h]
theorem zb_ff_s {O : zo_O} {k j : Nat} {B : Nat → Int32} : zb_ff O k B (some j) = if zb_nz (O 3 j) (nI 8) = true ∨ (k = 1 ∧ zb_nz (O 3 j) (nI 4) = true) then -8 else if zk_b (zb_nz (O 3 j) (nI 1)) = B 5 then nI 0 else -9 := rfl
theorem zb_fc_x {O : zo_O} {t : Nat} {B : Nat → Int32} {r : Option Nat} (h : ¬ zk_b (zo_hf O t (nI 1)) = B 1) : zb_fc O t B r = -9 := by
  unfold zb_fc
  rw [if_neg h]
theorem zb_fc_n {O : zo_O} {t : Nat} {B : Nat → Int32} (h : zk_b (zo_hf O t (nI 1)) = B 1) : zb_fc O t B none = -7 := by rw [zb_fc, if_pos h]
theorem zb_fc_s {O : zo_O} {t j : Nat} {B : Nat → Int32} (h : zk_b (zo_hf O t (nI 1)) = B 1) : zb_fc O t B (some j) = if zb_nz (O 6 j) (nI 8) = true then -8 else if zk_b (zb_nz (O 6 j) (nI 1)) = B 5 then (if nI (j / 12) = B 8 then nI 0 else nI 1) else -9 := by rw [zb_fc, if_pos h]
theorem zb_fo_n {O : zo_O} {t : Nat} {B : Nat → Int32} (h : zb_sb O t B = false) : zb_fo O t B none = nI 3 := by rw [zb_fo, if_neg (by rw [h]; decide)]
theorem zb_fo_s {O : zo_O} {t j : Nat} {B : Nat → Int32} (h : zb_sb O t B = false) : zb_fo O t B (some j) = if zb_nz (O 6 j) (nI 8) = true then nI 3 else if zb_nz (O 6 j) (nI 5) = true then -9 else if O 7 j = B 7 then nI 0 else nI 3 := by rw [zb_fo, if_neg (by rw [h]; decide)]
abbrev rm_M_linkValue : Room := { frames := 1, cells := 0, slots := 0, locals := 28 }
set_option maxHeartbeats 4000000 in
set_option maxRecDepth 100000 in
/-- linkValue -/
theorem sp_M_linkValue (l : Launch) {h : zk_H} {V : Nat → zo_O} {S : zo_O} {us : Nat} (hM : zm_at h S us) (hR : zm_R V S) (hok : ∀ v, v < 2 → zo_ok (V v)) {t nm : Nat} {B : Nat → Int32} (ht : t < 6) (hnm : nm < 4) (w1 : S 10 1 = B 3) (w5 : S 10 5 = B 4) {K : Option Value → zk_H → Prop} (hK : ∀ (h' : zk_H) (S' : zo_O), zm_mv h h' S S' us 0 → K (some (.int (if zb_sv (V 1) t B (zb_pl (zo_ff (V 1) nm (-1) 6 t)) = true then nI 0 else nI 2))) h') : zk_S l y_M_linkValue b_M_linkValue 5 (some .int) rm_M_linkValue [.ref (38 + 1), .int (nI t), .int (nI nm)] h K := by
  obtain ⟨hm, s0, s1, s2, s3, s4, s5, s6, s7, s8, s9, s10, s11⟩ := id hM
  refine zk_S_of R_M "linkValue" (by decide) rfl rfl [some (.ref (38 + 1)), some (.int (nI t)), some (.int (nI nm)), none, none] 2 rfl (Nat.le_of_ble_eq_true rfl) (fun p e s m ar below meth c D dA b base C => ?_)
  cases q8 : zo_th (V 1) t with
  | false =>
    refine zr_aload_n C d_M_linkValue_0 (n := 1) rfl rfl ?_
    refine zr_get C f_M_7 d_M_linkValue_1 (n := 4) rfl hm rfl ?_
    refine zr_bipush C d_M_linkValue_4 (n := 6) rfl (v := nI 6) (by decide) ?_
    refine zr_iload_n C d_M_linkValue_6 (n := 7) rfl rfl ?_
    refine zr_iadd C d_M_linkValue_7 (n := 8) rfl ?_
    refine zr_toe (by simp only [pk_mul, nI_add]; rfl) ?_
    refine zr_zaldN C d_M_linkValue_8 (n := 9) rfl s0 rfl (by omega) (by decide) ?_
    refine zr_toe (y := zk_b (zo_th (V 1) t)) ((hR 1 (by decide)).1 t (by omega)).1 ?_
    refine zr_if_eq C d_M_linkValue_9 (n := 12) rfl (t := 23) (by decide) (fun c1 => ?_) (fun c1 => ?_)
    · replace c1 := zk_bz c1
      refine zr_iconst C d_M_linkValue_23 (n := 24) rfl (v := -1) (by decide) ?_
      refine zr_istore_n C d_M_linkValue_24 (n := 25) rfl (by decide) rfl ?_
      refine zr_iload_n C d_M_linkValue_25 (n := 26) rfl rfl ?_
      refine zr_if_lt C d_M_linkValue_26 (n := 29) rfl (t := 75) (by decide) (fun c2 => ?_) (fun c2 => ?_)
      · refine zr_iconst C d_M_linkValue_75 (n := 76) rfl (v := nI 0) (by decide) ?_
        refine zr_istore C d_M_linkValue_76 (n := 78) rfl (by decide) rfl ?_
        refine zr_iload C d_M_linkValue_78 (n := 80) rfl rfl ?_
        refine zr_if_eq C d_M_linkValue_80 (n := 83) rfl (t := 87) (by decide) (fun c3 => ?_) (fun c3 => ?_)
        · refine zr_iconst C d_M_linkValue_87 (n := 88) rfl (v := nI 2) (by decide) ?_
          rw [zb_sv_n q8, if_neg (by decide)] at hK
          exact zr_iret C d_M_linkValue_88 rfl (hK _ _ (zm_mv_r hM)) (Nat.zero_le _) (Nat.zero_le _)
        · exact absurd rfl c3
      · exact absurd (by decide) c2
    · replace c1 := zk_bn c1
      exact absurd (q8.symm.trans c1) (by decide)
  | true =>
    rcases zo_ff_th (zo_ok_wf (hok 1 (by decide))) hnm (kd := -1) 6 t ht with e9 | ⟨j, hj, e9, hne⟩
    · refine zr_aload_n C d_M_linkValue_0 (n := 1) rfl rfl ?_
      refine zr_get C f_M_7 d_M_linkValue_1 (n := 4) rfl hm rfl ?_
      refine zr_bipush C d_M_linkValue_4 (n := 6) rfl (v := nI 6) (by decide) ?_
      refine zr_iload_n C d_M_linkValue_6 (n := 7) rfl rfl ?_
      refine zr_iadd C d_M_linkValue_7 (n := 8) rfl ?_
      refine zr_toe (by simp only [pk_mul, nI_add]; rfl) ?_
      refine zr_zaldN C d_M_linkValue_8 (n := 9) rfl s0 rfl (by omega) (by decide) ?_
      refine zr_toe (y := zk_b (zo_th (V 1) t)) ((hR 1 (by decide)).1 t (by omega)).1 ?_
      refine zr_if_eq C d_M_linkValue_9 (n := 12) rfl (t := 23) (by decide) (fun c1 => ?_) (fun c1 => ?_)
      · replace c1 := zk_bz c1
        exact absurd (q8.symm.trans c1) (by decide)
      · replace c1 := zk_bn c1
        refine zr_aload_n C d_M_linkValue_12 (n := 13) rfl rfl ?_
        refine zr_iconst C d_M_linkValue_13 (n := 14) rfl (v := nI 1) (by decide) ?_
        refine zr_iload_n C d_M_linkValue_14 (n := 15) rfl rfl ?_
        refine zr_iload_n C d_M_linkValue_15 (n := 16) rfl rfl ?_
        refine zr_iconst C d_M_linkValue_16 (n := 17) rfl (v := -1) (by decide) ?_
        refine zr_callV4 C k_M_69 d_M_linkValue_17 (nx := 20) rfl hm rfl ⟨by decide, by decide⟩ (Nat.le_of_ble_eq_true rfl) ⟨by decide, by decide⟩ (sp_M_findField l hM hR hok (v := 1) (by decide) ht hnm q8 (Or.inl rfl) (fun f => ?_))
        refine zr_toe (y := -1) (by rw [e9, zm_p_n]) ?_
        refine zr_goto C d_M_linkValue_20 (t := 24) (by decide) ?_
        refine zr_istore_n C d_M_linkValue_24 (n := 25) rfl (by decide) rfl ?_
        refine zr_iload_n C d_M_linkValue_25 (n := 26) rfl rfl ?_
        refine zr_if_lt C d_M_linkValue_26 (n := 29) rfl (t := 75) (by decide) (fun c2 => ?_) (fun c2 => ?_)
        · refine zr_iconst C d_M_linkValue_75 (n := 76) rfl (v := nI 0) (by decide) ?_
          refine zr_istore C d_M_linkValue_76 (n := 78) rfl (by decide) rfl ?_
          refine zr_iload C d_M_linkValue_78 (n := 80) rfl rfl ?_
          refine zr_if_eq C d_M_linkValue_80 (n := 83) rfl (t := 87) (by decide) (fun c3 => ?_) (fun c3 => ?_)
          · refine zr_iconst C d_M_linkValue_87 (n := 88) rfl (v := nI 2) (by decide) ?_
            rw [e9, zb_pl_n, zb_sv_0, if_neg (by decide)] at hK
            exact zr_iret C d_M_linkValue_88 rfl (hK _ _ (zm_mv_11 hM)) (Nat.zero_le _) (Nat.zero_le _)
          · exact absurd rfl c3
        · exact absurd (by decide) c2
    · refine zr_aload_n C d_M_linkValue_0 (n := 1) rfl rfl ?_
      refine zr_get C f_M_7 d_M_linkValue_1 (n := 4) rfl hm rfl ?_
      refine zr_bipush C d_M_linkValue_4 (n := 6) rfl (v := nI 6) (by decide) ?_
      refine zr_iload_n C d_M_linkValue_6 (n := 7) rfl rfl ?_
      refine zr_iadd C d_M_linkValue_7 (n := 8) rfl ?_
      refine zr_toe (by simp only [pk_mul, nI_add]; rfl) ?_
      refine zr_zaldN C d_M_linkValue_8 (n := 9) rfl s0 rfl (by omega) (by decide) ?_
      refine zr_toe (y := zk_b (zo_th (V 1) t)) ((hR 1 (by decide)).1 t (by omega)).1 ?_
      refine zr_if_eq C d_M_linkValue_9 (n := 12) rfl (t := 23) (by decide) (fun c1 => ?_) (fun c1 => ?_)
      · replace c1 := zk_bz c1
        exact absurd (q8.symm.trans c1) (by decide)
      · replace c1 := zk_bn c1
        refine zr_aload_n C d_M_linkValue_12 (n := 13) rfl rfl ?_
        refine zr_iconst C d_M_linkValue_13 (n := 14) rfl (v := nI 1) (by decide) ?_
        refine zr_iload_n C d_M_linkValue_14 (n := 15) rfl rfl ?_
        refine zr_iload_n C d_M_linkValue_15 (n := 16) rfl rfl ?_
        refine zr_iconst C d_M_linkValue_16 (n := 17) rfl (v := -1) (by decide) ?_
        refine zr_callV4 C k_M_69 d_M_linkValue_17 (nx := 20) rfl hm rfl ⟨by decide, by decide⟩ (Nat.le_of_ble_eq_true rfl) ⟨by decide, by decide⟩ (sp_M_findField l hM hR hok (v := 1) (by decide) ht hnm q8 (Or.inl rfl) (fun f => ?_))
        refine zr_toe (y := nI (24 * 1 + j)) (by rw [e9, zm_p_s (by omega)]) ?_
        refine zr_goto C d_M_linkValue_20 (t := 24) (by decide) ?_
        refine zr_istore_n C d_M_linkValue_24 (n := 25) rfl (by decide) rfl ?_
        refine zr_iload_n C d_M_linkValue_25 (n := 26) rfl rfl ?_
        refine zr_if_lt C d_M_linkValue_26 (n := 29) rfl (t := 75) (by decide) (fun c2 => ?_) (fun c2 => ?_)
        · exact absurd c2 (nI_pos (by omega))
        · refine zr_aload_n C d_M_linkValue_29 (n := 30) rfl rfl ?_
          refine zr_get C f_M_26 d_M_linkValue_30 (n := 33) rfl (zk_g1 (by omega) hm) rfl ?_
          refine zr_iload_n C d_M_linkValue_33 (n := 34) rfl rfl ?_
          refine zr_ialdN C d_M_linkValue_34 (n := 35) rfl (zk_g1 (by omega) s5) rfl (by omega) (by decide) ?_
          refine zr_toe (y := V 1 3 j) (((hR 1 (by decide)).2.1 j (by omega)).2 hne).2.1 ?_
          refine zr_bipush C d_M_linkValue_35 (n := 37) rfl (v := nI 16) (by decide) ?_
          refine zr_iand C d_M_linkValue_37 (n := 38) rfl ?_
          refine zr_if_eq C d_M_linkValue_38 (n := 41) rfl (t := 75) (by decide) (fun c3 => ?_) (fun c3 => ?_)
          · replace c3 := zb_nzf c3
            refine zr_iconst C d_M_linkValue_75 (n := 76) rfl (v := nI 0) (by decide) ?_
            refine zr_istore C d_M_linkValue_76 (n := 78) rfl (by decide) rfl ?_
            refine zr_iload C d_M_linkValue_78 (n := 80) rfl rfl ?_
            refine zr_if_eq C d_M_linkValue_80 (n := 83) rfl (t := 87) (by decide) (fun c4 => ?_) (fun c4 => ?_)
            · refine zr_iconst C d_M_linkValue_87 (n := 88) rfl (v := nI 2) (by decide) ?_
              rw [e9, zb_pl_s (by omega), zb_sv_s q8] at hK
              rw [if_neg (by simp [c3])] at hK
              exact zr_iret C d_M_linkValue_88 rfl (hK _ _ (zm_mv_11 hM)) (Nat.zero_le _) (Nat.zero_le _)
            · exact absurd rfl c4
          · replace c3 := zb_nzt c3
            refine zr_aload_n C d_M_linkValue_41 (n := 42) rfl rfl ?_
            refine zr_get C f_M_23 d_M_linkValue_42 (n := 45) rfl (zk_g1 (by omega) hm) rfl ?_
            refine zr_iload_n C d_M_linkValue_45 (n := 46) rfl rfl ?_
            refine zr_ialdN C d_M_linkValue_46 (n := 47) rfl (zk_g1 (by omega) s4) rfl (by omega) (by decide) ?_
            refine zr_toe (y := V 1 4 j) (((hR 1 (by decide)).2.1 j (by omega)).2 hne).1 ?_
            refine zr_aload_n C d_M_linkValue_47 (n := 48) rfl rfl ?_
            refine zr_get C f_M_41 d_M_linkValue_48 (n := 51) rfl (zk_g1 (by omega) hm) rfl ?_
            refine zr_iconst C d_M_linkValue_51 (n := 52) rfl (v := nI 1) (by decide) ?_
            refine zr_ialdN C d_M_linkValue_52 (n := 53) rfl (zk_g1 (by omega) s10) (j := 1) rfl (by decide) (by decide) ?_
            refine zr_toe (y := B 3) w1 ?_
            refine zr_icmp_ne C d_M_linkValue_53 (n := 56) rfl (t := 75) (by decide) (fun c5 => ?_) (fun c5 => ?_)
            · refine zr_iconst C d_M_linkValue_75 (n := 76) rfl (v := nI 0) (by decide) ?_
              refine zr_istore C d_M_linkValue_76 (n := 78) rfl (by decide) rfl ?_
              refine zr_iload C d_M_linkValue_78 (n := 80) rfl rfl ?_
              refine zr_if_eq C d_M_linkValue_80 (n := 83) rfl (t := 87) (by decide) (fun c6 => ?_) (fun c6 => ?_)
              · refine zr_iconst C d_M_linkValue_87 (n := 88) rfl (v := nI 2) (by decide) ?_
                rw [e9, zb_pl_s (by omega), zb_sv_s q8] at hK
                rw [if_neg (by simp [c3, c5])] at hK
                exact zr_iret C d_M_linkValue_88 rfl (hK _ _ (zm_mv_11 hM)) (Nat.zero_le _) (Nat.zero_le _)
              · exact absurd rfl c6
            · refine zr_aload_n C d_M_linkValue_56 (n := 57) rfl rfl ?_
              refine zr_get C f_M_29 d_M_linkValue_57 (n := 60) rfl (zk_g1 (by omega) hm) rfl ?_
              refine zr_iload_n C d_M_linkValue_60 (n := 61) rfl rfl ?_
              refine zr_ialdN C d_M_linkValue_61 (n := 62) rfl (zk_g1 (by omega) s6) rfl (by omega) (by decide) ?_
              refine zr_toe (y := V 1 5 j) ((((hR 1 (by decide)).2.1 j (by omega)).2 hne).2.2 c3) ?_
              refine zr_aload_n C d_M_linkValue_62 (n := 63) rfl rfl ?_
              refine zr_get C f_M_41 d_M_linkValue_63 (n := 66) rfl (zk_g1 (by omega) hm) rfl ?_
              refine zr_iconst C d_M_linkValue_66 (n := 67) rfl (v := nI 5) (by decide) ?_
              refine zr_ialdN C d_M_linkValue_67 (n := 68) rfl (zk_g1 (by omega) s10) (j := 5) rfl (by decide) (by decide) ?_
              refine zr_toe (y := B 4) w5 ?_
              refine zr_icmp_ne C d_M_linkValue_68 (n := 71) rfl (t := 75) (by decide) (fun c7 => ?_) (fun c7 => ?_)
              · refine zr_iconst C d_M_linkValue_75 (n := 76) rfl (v := nI 0) (by decide) ?_
                refine zr_istore C d_M_linkValue_76 (n := 78) rfl (by decide) rfl ?_
                refine zr_iload C d_M_linkValue_78 (n := 80) rfl rfl ?_
                refine zr_if_eq C d_M_linkValue_80 (n := 83) rfl (t := 87) (by decide) (fun c8 => ?_) (fun c8 => ?_)
                · refine zr_iconst C d_M_linkValue_87 (n := 88) rfl (v := nI 2) (by decide) ?_
                  rw [e9, zb_pl_s (by omega), zb_sv_s q8] at hK
                  rw [if_neg (by simp [c3, c5, c7])] at hK
                  exact zr_iret C d_M_linkValue_88 rfl (hK _ _ (zm_mv_11 hM)) (Nat.zero_le _) (Nat.zero_le _)
                · exact absurd rfl c8
              · refine zr_iconst C d_M_linkValue_71 (n := 72) rfl (v := nI 1) (by decide) ?_
                refine zr_goto C d_M_linkValue_72 (t := 76) (by decide) ?_
                refine zr_istore C d_M_linkValue_76 (n := 78) rfl (by decide) rfl ?_
                refine zr_iload C d_M_linkValue_78 (n := 80) rfl rfl ?_
                refine zr_if_eq C d_M_linkValue_80 (n := 83) rfl (t := 87) (by decide) (fun c9 => ?_) (fun c9 => ?_)
                · exact absurd c9 (by decide)
                · refine zr_iconst C d_M_linkValue_83 (n := 84) rfl (v := nI 0) (by decide) ?_
                  refine zr_goto C d_M_linkValue_84 (t := 88) (by decide) ?_
                  rw [e9, zb_pl_s (by omega), zb_sv_s q8] at hK
                  rw [if_pos (by simp [c3, c5, c7])] at hK
                  exact zr_iret C d_M_linkValue_88 rfl (hK _ _ (zm_mv_11 hM)) (Nat.zero_le _) (Nat.zero_le _)
abbrev rm_M_linkField : Room := { frames := 1, cells := 0, slots := 0, locals := 28 }
set_option maxHeartbeats 4000000 in
set_option maxRecDepth 100000 in
/-- linkField -/
theorem sp_M_linkField (l : Launch) {h : zk_H} {V : Nat → zo_O} {S : zo_O} {us : Nat} (hM : zm_at h S us) (hR : zm_R V S) (hok : ∀ v, v < 2 → zo_ok (V v)) {k t nm : Nat} {B : Nat → Int32} (hk : k < 2) (ht : t < 6) (hnm : nm < 4) (hth : zo_th (V 1) t = true) (w1 : S 10 1 = B 3) (w3 : S 10 3 = B 5) (hB3 : ¬ B 3 < 0) {K : Option Value → zk_H → Prop} (hK : ∀ (h' : zk_H) (S' : zo_O), zm_mv h h' S S' us 0 → K (some (.int (zb_ff (V 1) k B (zb_pl (zo_ff (V 1) nm (B 3) 6 t))))) h') : zk_S l y_M_linkField b_M_linkField 5 (some .int) rm_M_linkField [.ref (38 + 1), .int (nI k), .int (nI t), .int (nI nm)] h K := by
  obtain ⟨hm, s0, s1, s2, s3, s4, s5, s6, s7, s8, s9, s10, s11⟩ := id hM
  refine zk_S_of R_M "linkField" (by decide) rfl rfl [some (.ref (38 + 1)), some (.int (nI k)), some (.int (nI t)), some (.int (nI nm)), none] 1 rfl (Nat.le_of_ble_eq_true rfl) (fun p e s m ar below meth c D dA b base C => ?_)
  rcases zo_ff_th (zo_ok_wf (hok 1 (by decide))) hnm (kd := B 3) 6 t ht with e9 | ⟨j, hj, e9, hne⟩
  · refine zr_aload_n C d_M_linkField_0 (n := 1) rfl rfl ?_
    refine zr_iconst C d_M_linkField_1 (n := 2) rfl (v := nI 1) (by decide) ?_
    refine zr_iload_n C d_M_linkField_2 (n := 3) rfl rfl ?_
    refine zr_iload_n C d_M_linkField_3 (n := 4) rfl rfl ?_
    refine zr_aload_n C d_M_linkField_4 (n := 5) rfl rfl ?_
    refine zr_get C f_M_41 d_M_linkField_5 (n := 8) rfl hm rfl ?_
    refine zr_iconst C d_M_linkField_8 (n := 9) rfl (v := nI 1) (by decide) ?_
    refine zr_ialdN C d_M_linkField_9 (n := 10) rfl s10 (j := 1) rfl (by decide) (by decide) ?_
    refine zr_toe (y := B 3) w1 ?_
    refine zr_callV4 C k_M_69 d_M_linkField_10 (nx := 13) rfl hm rfl ⟨by decide, by decide⟩ (Nat.le_of_ble_eq_true rfl) ⟨by decide, by decide⟩ (sp_M_findField l hM hR hok (v := 1) (by decide) ht hnm hth (Or.inr hB3) (fun f => ?_))
    refine zr_toe (y := -1) (by rw [e9, zm_p_n]) ?_
    refine zr_istore C d_M_linkField_13 (n := 15) rfl (by decide) rfl ?_
    refine zr_iload C d_M_linkField_15 (n := 17) rfl rfl ?_
    refine zr_if_ge C d_M_linkField_17 (n := 20) rfl (t := 23) (by decide) (fun c1 => ?_) (fun c1 => ?_)
    · exact absurd c1 (by decide)
    · refine zr_bipush C d_M_linkField_20 (n := 22) rfl (v := -7) (by decide) ?_
      rw [e9, zb_pl_n] at hK
      exact zr_iret C d_M_linkField_22 rfl (hK _ _ (zm_mv_11 hM)) (Nat.zero_le _) (Nat.zero_le _)
  · refine zr_aload_n C d_M_linkField_0 (n := 1) rfl rfl ?_
    refine zr_iconst C d_M_linkField_1 (n := 2) rfl (v := nI 1) (by decide) ?_
    refine zr_iload_n C d_M_linkField_2 (n := 3) rfl rfl ?_
    refine zr_iload_n C d_M_linkField_3 (n := 4) rfl rfl ?_
    refine zr_aload_n C d_M_linkField_4 (n := 5) rfl rfl ?_
    refine zr_get C f_M_41 d_M_linkField_5 (n := 8) rfl hm rfl ?_
    refine zr_iconst C d_M_linkField_8 (n := 9) rfl (v := nI 1) (by decide) ?_
    refine zr_ialdN C d_M_linkField_9 (n := 10) rfl s10 (j := 1) rfl (by decide) (by decide) ?_
    refine zr_toe (y := B 3) w1 ?_
    refine zr_callV4 C k_M_69 d_M_linkField_10 (nx := 13) rfl hm rfl ⟨by decide, by decide⟩ (Nat.le_of_ble_eq_true rfl) ⟨by decide, by decide⟩ (sp_M_findField l hM hR hok (v := 1) (by decide) ht hnm hth (Or.inr hB3) (fun f => ?_))
    refine zr_toe (y := nI (24 * 1 + j)) (by rw [e9, zm_p_s (by omega)]) ?_
    refine zr_istore C d_M_linkField_13 (n := 15) rfl (by decide) rfl ?_
    refine zr_iload C d_M_linkField_15 (n := 17) rfl rfl ?_
    refine zr_if_ge C d_M_linkField_17 (n := 20) rfl (t := 23) (by decide) (fun c1 => ?_) (fun c1 => ?_)
    · refine zr_aload_n C d_M_linkField_23 (n := 24) rfl rfl ?_
      refine zr_get C f_M_26 d_M_linkField_24 (n := 27) rfl (zk_g1 (by omega) hm) rfl ?_
      refine zr_iload C d_M_linkField_27 (n := 29) rfl rfl ?_
      refine zr_ialdN C d_M_linkField_29 (n := 30) rfl (zk_g1 (by omega) s5) rfl (by omega) (by decide) ?_
      refine zr_toe (y := V 1 3 j) (((hR 1 (by decide)).2.1 j (by omega)).2 hne).2.1 ?_
      refine zr_bipush C d_M_linkField_30 (n := 32) rfl (v := nI 8) (by decide) ?_
      refine zr_iand C d_M_linkField_32 (n := 33) rfl ?_
      refine zr_if_ne C d_M_linkField_33 (n := 36) rfl (t := 53) (by decide) (fun c2 => ?_) (fun c2 => ?_)
      · replace c2 := zb_nzt c2
        refine zr_bipush C d_M_linkField_53 (n := 55) rfl (v := -8) (by decide) ?_
        rw [e9, zb_pl_s (by omega), zb_ff_s] at hK
        rw [if_pos (by simp [c2])] at hK
        exact zr_iret C d_M_linkField_55 rfl (hK _ _ (zm_mv_11 hM)) (Nat.zero_le _) (Nat.zero_le _)
      · replace c2 := zb_nzf c2
        refine zr_iload_n C d_M_linkField_36 (n := 37) rfl rfl ?_
        refine zr_iconst C d_M_linkField_37 (n := 38) rfl (v := nI 1) (by decide) ?_
        refine zr_icmp_ne C d_M_linkField_38 (n := 41) rfl (t := 56) (by decide) (fun c3 => ?_) (fun c3 => ?_)
        · replace c3 := zk_ne (by omega) (by omega) c3
          refine zr_aload_n C d_M_linkField_56 (n := 57) rfl rfl ?_
          refine zr_get C f_M_26 d_M_linkField_57 (n := 60) rfl (zk_g1 (by omega) hm) rfl ?_
          refine zr_iload C d_M_linkField_60 (n := 62) rfl rfl ?_
          refine zr_ialdN C d_M_linkField_62 (n := 63) rfl (zk_g1 (by omega) s5) rfl (by omega) (by decide) ?_
          refine zr_toe (y := V 1 3 j) (((hR 1 (by decide)).2.1 j (by omega)).2 hne).2.1 ?_
          refine zr_iconst C d_M_linkField_63 (n := 64) rfl (v := nI 1) (by decide) ?_
          refine zr_callS2 C k_M_73 d_M_linkField_64 (nx := 67) rfl ⟨by decide, by decide⟩ (Nat.le_of_ble_eq_true rfl) ⟨by decide, by decide⟩ (sp_M_bit l ?_)
          refine zr_aload_n C d_M_linkField_67 (n := 68) rfl rfl ?_
          refine zr_get C f_M_41 d_M_linkField_68 (n := 71) rfl (zk_g1 (by omega) hm) rfl ?_
          refine zr_iconst C d_M_linkField_71 (n := 72) rfl (v := nI 3) (by decide) ?_
          refine zr_ialdN C d_M_linkField_72 (n := 73) rfl (zk_g1 (by omega) s10) (j := 3) rfl (by decide) (by decide) ?_
          refine zr_toe (y := B 5) w3 ?_
          refine zr_icmp_ne C d_M_linkField_73 (n := 76) rfl (t := 80) (by decide) (fun c4 => ?_) (fun c4 => ?_)
          · refine zr_bipush C d_M_linkField_80 (n := 82) rfl (v := -9) (by decide) ?_
            rw [e9, zb_pl_s (by omega), zb_ff_s] at hK
            rw [if_neg (by simp [c2, c3, c4])] at hK
            rw [if_neg c4] at hK
            exact zr_iret C d_M_linkField_82 rfl (hK _ _ (zm_mv_11 hM)) (Nat.zero_le _) (Nat.zero_le _)
          · refine zr_iconst C d_M_linkField_76 (n := 77) rfl (v := nI 0) (by decide) ?_
            refine zr_goto C d_M_linkField_77 (t := 82) (by decide) ?_
            rw [e9, zb_pl_s (by omega), zb_ff_s] at hK
            rw [if_neg (by simp [c2, c3, c4])] at hK
            rw [if_pos c4] at hK
            exact zr_iret C d_M_linkField_82 rfl (hK _ _ (zm_mv_11 hM)) (Nat.zero_le _) (Nat.zero_le _)
        · replace c3 := zk_eq (by omega) (by omega) c3
          refine zr_aload_n C d_M_linkField_41 (n := 42) rfl rfl ?_
          refine zr_get C f_M_26 d_M_linkField_42 (n := 45) rfl (zk_g1 (by omega) hm) rfl ?_
          refine zr_iload C d_M_linkField_45 (n := 47) rfl rfl ?_
          refine zr_ialdN C d_M_linkField_47 (n := 48) rfl (zk_g1 (by omega) s5) rfl (by omega) (by decide) ?_
          refine zr_toe (y := V 1 3 j) (((hR 1 (by decide)).2.1 j (by omega)).2 hne).2.1 ?_
          refine zr_iconst C d_M_linkField_48 (n := 49) rfl (v := nI 4) (by decide) ?_
          refine zr_iand C d_M_linkField_49 (n := 50) rfl ?_
          refine zr_if_eq C d_M_linkField_50 (n := 53) rfl (t := 56) (by decide) (fun c5 => ?_) (fun c5 => ?_)
          · replace c5 := zb_nzf c5
            refine zr_aload_n C d_M_linkField_56 (n := 57) rfl rfl ?_
            refine zr_get C f_M_26 d_M_linkField_57 (n := 60) rfl (zk_g1 (by omega) hm) rfl ?_
            refine zr_iload C d_M_linkField_60 (n := 62) rfl rfl ?_
            refine zr_ialdN C d_M_linkField_62 (n := 63) rfl (zk_g1 (by omega) s5) rfl (by omega) (by decide) ?_
            refine zr_toe (y := V 1 3 j) (((hR 1 (by decide)).2.1 j (by omega)).2 hne).2.1 ?_
            refine zr_iconst C d_M_linkField_63 (n := 64) rfl (v := nI 1) (by decide) ?_
            refine zr_callS2 C k_M_73 d_M_linkField_64 (nx := 67) rfl ⟨by decide, by decide⟩ (Nat.le_of_ble_eq_true rfl) ⟨by decide, by decide⟩ (sp_M_bit l ?_)
            refine zr_aload_n C d_M_linkField_67 (n := 68) rfl rfl ?_
            refine zr_get C f_M_41 d_M_linkField_68 (n := 71) rfl (zk_g1 (by omega) hm) rfl ?_
            refine zr_iconst C d_M_linkField_71 (n := 72) rfl (v := nI 3) (by decide) ?_
            refine zr_ialdN C d_M_linkField_72 (n := 73) rfl (zk_g1 (by omega) s10) (j := 3) rfl (by decide) (by decide) ?_
            refine zr_toe (y := B 5) w3 ?_
            refine zr_icmp_ne C d_M_linkField_73 (n := 76) rfl (t := 80) (by decide) (fun c6 => ?_) (fun c6 => ?_)
            · refine zr_bipush C d_M_linkField_80 (n := 82) rfl (v := -9) (by decide) ?_
              rw [e9, zb_pl_s (by omega), zb_ff_s] at hK
              rw [if_neg (by simp [c2, c3, c5, c6])] at hK
              rw [if_neg c6] at hK
              exact zr_iret C d_M_linkField_82 rfl (hK _ _ (zm_mv_11 hM)) (Nat.zero_le _) (Nat.zero_le _)
            · refine zr_iconst C d_M_linkField_76 (n := 77) rfl (v := nI 0) (by decide) ?_
              refine zr_goto C d_M_linkField_77 (t := 82) (by decide) ?_
              rw [e9, zb_pl_s (by omega), zb_ff_s] at hK
              rw [if_neg (by simp [c2, c3, c5, c6])] at hK
              rw [if_pos c6] at hK
              exact zr_iret C d_M_linkField_82 rfl (hK _ _ (zm_mv_11 hM)) (Nat.zero_le _) (Nat.zero_le _)
          · replace c5 := zb_nzt c5
            refine zr_bipush C d_M_linkField_53 (n := 55) rfl (v := -8) (by decide) ?_
            rw [e9, zb_pl_s (by omega), zb_ff_s] at hK
            rw [if_pos (by simp [c2, c3, c5])] at hK
            exact zr_iret C d_M_linkField_55 rfl (hK _ _ (zm_mv_11 hM)) (Nat.zero_le _) (Nat.zero_le _)
    · exact absurd c1 (by first | exact fun q => q (nI_nn (by omega)) | (intro q; exact absurd (Int32.not_le.mp q) (nI_pos (by omega))))
abbrev rm_M_linkCall : Room := { frames := 2, cells := 0, slots := 0, locals := 55 }
set_option maxHeartbeats 4000000 in
set_option maxRecDepth 100000 in
/-- linkCall -/
theorem sp_M_linkCall (l : Launch) {h : zk_H} {V : Nat → zo_O} {S : zo_O} {us : Nat} (hM : zm_at h S us) (hR : zm_R V S) (hok : ∀ v, v < 2 → zo_ok (V v)) {t nm pa : Nat} {B : Nat → Int32} (ht : t < 6) (hnm : nm < 3) (hpa : pa < 4) (hth : zo_th (V 1) t = true) (w1 : S 10 1 = nI pa) (w2 : S 10 2 = B 7) (w3 : S 10 3 = B 5) (w4 : S 10 4 = B 1) (w6 : S 10 6 = B 8) (h7 : ∃ a, a < 4 ∧ B 7 = nI a) {K : Option Value → zk_H → Prop} (hK : ∀ (h' : zk_H) (S' : zo_O), zm_mv h h' S S' us 0 → K (some (.int (zb_fc (V 1) t B (zb_pl (zo_fm (V 1) t nm pa (B 7)))))) h') : zk_S l y_M_linkCall b_M_linkCall 4 (some .int) rm_M_linkCall [.ref (38 + 1), .int (nI t), .int (nI nm)] h K := by
  obtain ⟨hm, s0, s1, s2, s3, s4, s5, s6, s7, s8, s9, s10, s11⟩ := id hM
  refine zk_S_of R_M "linkCall" (by decide) rfl rfl [some (.ref (38 + 1)), some (.int (nI t)), some (.int (nI nm)), none] 1 rfl (Nat.le_of_ble_eq_true rfl) (fun p e s m ar below meth c D dA b base C => ?_)
  rcases zo_fm_th (zo_ok_wf (hok 1 (by decide))) ht hnm hpa (an := B 7) with e9 | ⟨j, hj, e9, hjp, hne⟩
  · refine zr_aload_n C d_M_linkCall_0 (n := 1) rfl rfl ?_
    refine zr_get C f_M_13 d_M_linkCall_1 (n := 4) rfl hm rfl ?_
    refine zr_bipush C d_M_linkCall_4 (n := 6) rfl (v := nI 6) (by decide) ?_
    refine zr_iload_n C d_M_linkCall_6 (n := 7) rfl rfl ?_
    refine zr_iadd C d_M_linkCall_7 (n := 8) rfl ?_
    refine zr_toe (by simp only [pk_mul, nI_add]; rfl) ?_
    refine zr_ialdN C d_M_linkCall_8 (n := 9) rfl s1 rfl (by omega) (by decide) ?_
    refine zr_toe (y := V 1 0 t) (((hR 1 (by decide)).1 t (by omega)).2 hth).1 ?_
    refine zr_iconst C d_M_linkCall_9 (n := 10) rfl (v := nI 1) (by decide) ?_
    refine zr_callS2 C k_M_73 d_M_linkCall_10 (nx := 13) rfl ⟨by decide, by decide⟩ (Nat.le_of_ble_eq_true rfl) ⟨by decide, by decide⟩ (sp_M_bit l ?_)
    refine zr_aload_n C d_M_linkCall_13 (n := 14) rfl rfl ?_
    refine zr_get C f_M_41 d_M_linkCall_14 (n := 17) rfl hm rfl ?_
    refine zr_iconst C d_M_linkCall_17 (n := 18) rfl (v := nI 4) (by decide) ?_
    refine zr_ialdN C d_M_linkCall_18 (n := 19) rfl s10 (j := 4) rfl (by decide) (by decide) ?_
    refine zr_toe (y := B 1) w4 ?_
    refine zr_icmp_eq C d_M_linkCall_19 (n := 22) rfl (t := 25) (by decide) (fun c1 => ?_) (fun c1 => ?_)
    · refine zr_aload_n C d_M_linkCall_25 (n := 26) rfl rfl ?_
      refine zr_iconst C d_M_linkCall_26 (n := 27) rfl (v := nI 1) (by decide) ?_
      refine zr_iload_n C d_M_linkCall_27 (n := 28) rfl rfl ?_
      refine zr_iload_n C d_M_linkCall_28 (n := 29) rfl rfl ?_
      refine zr_aload_n C d_M_linkCall_29 (n := 30) rfl rfl ?_
      refine zr_get C f_M_41 d_M_linkCall_30 (n := 33) rfl hm rfl ?_
      refine zr_iconst C d_M_linkCall_33 (n := 34) rfl (v := nI 1) (by decide) ?_
      refine zr_ialdN C d_M_linkCall_34 (n := 35) rfl s10 (j := 1) rfl (by decide) (by decide) ?_
      refine zr_toe (y := nI pa) w1 ?_
      refine zr_aload_n C d_M_linkCall_35 (n := 36) rfl rfl ?_
      refine zr_get C f_M_41 d_M_linkCall_36 (n := 39) rfl hm rfl ?_
      refine zr_iconst C d_M_linkCall_39 (n := 40) rfl (v := nI 2) (by decide) ?_
      refine zr_ialdN C d_M_linkCall_40 (n := 41) rfl s10 (j := 2) rfl (by decide) (by decide) ?_
      refine zr_toe (y := B 7) w2 ?_
      refine zr_callV5 C k_M_77 d_M_linkCall_41 (nx := 44) rfl hm rfl ⟨by decide, by decide⟩ (Nat.le_of_ble_eq_true rfl) ⟨by decide, by decide⟩ (sp_M_findMethod l hM hR hok (v := 1) (by decide) ht hnm hpa hth (Or.inr h7) ?_)
      refine zr_toe (y := -1) (by rw [e9, zm_p_n]) ?_
      refine zr_istore_n C d_M_linkCall_44 (n := 45) rfl (by decide) rfl ?_
      refine zr_iload_n C d_M_linkCall_45 (n := 46) rfl rfl ?_
      refine zr_if_ge C d_M_linkCall_46 (n := 49) rfl (t := 52) (by decide) (fun c2 => ?_) (fun c2 => ?_)
      · exact absurd c2 (by decide)
      · refine zr_bipush C d_M_linkCall_49 (n := 51) rfl (v := -7) (by decide) ?_
        rw [e9, zb_pl_n, zb_fc_n (by rw [zo_hf_nz hth]; exact c1)] at hK
        exact zr_iret C d_M_linkCall_51 rfl (hK _ _ (zm_mv_r hM)) (Nat.zero_le _) (Nat.zero_le _)
    · refine zr_bipush C d_M_linkCall_22 (n := 24) rfl (v := -9) (by decide) ?_
      rw [zb_fc_x (by rw [zo_hf_nz hth]; exact c1)] at hK
      exact zr_iret C d_M_linkCall_24 rfl (hK _ _ (zm_mv_r hM)) (Nat.zero_le _) (Nat.zero_le _)
  · refine zr_aload_n C d_M_linkCall_0 (n := 1) rfl rfl ?_
    refine zr_get C f_M_13 d_M_linkCall_1 (n := 4) rfl hm rfl ?_
    refine zr_bipush C d_M_linkCall_4 (n := 6) rfl (v := nI 6) (by decide) ?_
    refine zr_iload_n C d_M_linkCall_6 (n := 7) rfl rfl ?_
    refine zr_iadd C d_M_linkCall_7 (n := 8) rfl ?_
    refine zr_toe (by simp only [pk_mul, nI_add]; rfl) ?_
    refine zr_ialdN C d_M_linkCall_8 (n := 9) rfl s1 rfl (by omega) (by decide) ?_
    refine zr_toe (y := V 1 0 t) (((hR 1 (by decide)).1 t (by omega)).2 hth).1 ?_
    refine zr_iconst C d_M_linkCall_9 (n := 10) rfl (v := nI 1) (by decide) ?_
    refine zr_callS2 C k_M_73 d_M_linkCall_10 (nx := 13) rfl ⟨by decide, by decide⟩ (Nat.le_of_ble_eq_true rfl) ⟨by decide, by decide⟩ (sp_M_bit l ?_)
    refine zr_aload_n C d_M_linkCall_13 (n := 14) rfl rfl ?_
    refine zr_get C f_M_41 d_M_linkCall_14 (n := 17) rfl hm rfl ?_
    refine zr_iconst C d_M_linkCall_17 (n := 18) rfl (v := nI 4) (by decide) ?_
    refine zr_ialdN C d_M_linkCall_18 (n := 19) rfl s10 (j := 4) rfl (by decide) (by decide) ?_
    refine zr_toe (y := B 1) w4 ?_
    refine zr_icmp_eq C d_M_linkCall_19 (n := 22) rfl (t := 25) (by decide) (fun c1 => ?_) (fun c1 => ?_)
    · refine zr_aload_n C d_M_linkCall_25 (n := 26) rfl rfl ?_
      refine zr_iconst C d_M_linkCall_26 (n := 27) rfl (v := nI 1) (by decide) ?_
      refine zr_iload_n C d_M_linkCall_27 (n := 28) rfl rfl ?_
      refine zr_iload_n C d_M_linkCall_28 (n := 29) rfl rfl ?_
      refine zr_aload_n C d_M_linkCall_29 (n := 30) rfl rfl ?_
      refine zr_get C f_M_41 d_M_linkCall_30 (n := 33) rfl hm rfl ?_
      refine zr_iconst C d_M_linkCall_33 (n := 34) rfl (v := nI 1) (by decide) ?_
      refine zr_ialdN C d_M_linkCall_34 (n := 35) rfl s10 (j := 1) rfl (by decide) (by decide) ?_
      refine zr_toe (y := nI pa) w1 ?_
      refine zr_aload_n C d_M_linkCall_35 (n := 36) rfl rfl ?_
      refine zr_get C f_M_41 d_M_linkCall_36 (n := 39) rfl hm rfl ?_
      refine zr_iconst C d_M_linkCall_39 (n := 40) rfl (v := nI 2) (by decide) ?_
      refine zr_ialdN C d_M_linkCall_40 (n := 41) rfl s10 (j := 2) rfl (by decide) (by decide) ?_
      refine zr_toe (y := B 7) w2 ?_
      refine zr_callV5 C k_M_77 d_M_linkCall_41 (nx := 44) rfl hm rfl ⟨by decide, by decide⟩ (Nat.le_of_ble_eq_true rfl) ⟨by decide, by decide⟩ (sp_M_findMethod l hM hR hok (v := 1) (by decide) ht hnm hpa hth (Or.inr h7) ?_)
      refine zr_toe (y := nI (72 * 1 + j)) (by rw [e9, zm_p_s (by omega)]) ?_
      refine zr_istore_n C d_M_linkCall_44 (n := 45) rfl (by decide) rfl ?_
      refine zr_iload_n C d_M_linkCall_45 (n := 46) rfl rfl ?_
      refine zr_if_ge C d_M_linkCall_46 (n := 49) rfl (t := 52) (by decide) (fun c2 => ?_) (fun c2 => ?_)
      · refine zr_aload_n C d_M_linkCall_52 (n := 53) rfl rfl ?_
        refine zr_get C f_M_35 d_M_linkCall_53 (n := 56) rfl hm rfl ?_
        refine zr_iload_n C d_M_linkCall_56 (n := 57) rfl rfl ?_
        refine zr_ialdN C d_M_linkCall_57 (n := 58) rfl s8 rfl (by omega) (by decide) ?_
        refine zr_toe (y := V 1 6 j) (((hR 1 (by decide)).2.2 j (by omega)).2 hne).2 ?_
        refine zr_bipush C d_M_linkCall_58 (n := 60) rfl (v := nI 8) (by decide) ?_
        refine zr_iand C d_M_linkCall_60 (n := 61) rfl ?_
        refine zr_if_eq C d_M_linkCall_61 (n := 64) rfl (t := 67) (by decide) (fun c3 => ?_) (fun c3 => ?_)
        · replace c3 := zb_nzf c3
          refine zr_aload_n C d_M_linkCall_67 (n := 68) rfl rfl ?_
          refine zr_get C f_M_35 d_M_linkCall_68 (n := 71) rfl hm rfl ?_
          refine zr_iload_n C d_M_linkCall_71 (n := 72) rfl rfl ?_
          refine zr_ialdN C d_M_linkCall_72 (n := 73) rfl s8 rfl (by omega) (by decide) ?_
          refine zr_toe (y := V 1 6 j) (((hR 1 (by decide)).2.2 j (by omega)).2 hne).2 ?_
          refine zr_iconst C d_M_linkCall_73 (n := 74) rfl (v := nI 1) (by decide) ?_
          refine zr_callS2 C k_M_73 d_M_linkCall_74 (nx := 77) rfl ⟨by decide, by decide⟩ (Nat.le_of_ble_eq_true rfl) ⟨by decide, by decide⟩ (sp_M_bit l ?_)
          refine zr_aload_n C d_M_linkCall_77 (n := 78) rfl rfl ?_
          refine zr_get C f_M_41 d_M_linkCall_78 (n := 81) rfl hm rfl ?_
          refine zr_iconst C d_M_linkCall_81 (n := 82) rfl (v := nI 3) (by decide) ?_
          refine zr_ialdN C d_M_linkCall_82 (n := 83) rfl s10 (j := 3) rfl (by decide) (by decide) ?_
          refine zr_toe (y := B 5) w3 ?_
          refine zr_icmp_eq C d_M_linkCall_83 (n := 86) rfl (t := 89) (by decide) (fun c4 => ?_) (fun c4 => ?_)
          · refine zr_iload_n C d_M_linkCall_89 (n := 90) rfl rfl ?_
            refine zr_bipush C d_M_linkCall_90 (n := 92) rfl (v := nI 12) (by decide) ?_
            refine zr_idiv C d_M_linkCall_92 (n := 93) rfl (by decide) ?_
            refine zr_toe (y := nI ((72 * 1 + j) / 12)) (pk_div (by omega) (by decide) (by decide)) ?_
            refine zr_bipush C d_M_linkCall_93 (n := 95) rfl (v := nI 6) (by decide) ?_
            refine zr_irem C d_M_linkCall_95 (n := 96) rfl (by decide) ?_
            refine zr_toe (y := nI ((72 * 1 + j) / 12 % 6)) (pk_rem (by omega) (by decide) (by decide)) ?_
            refine zr_toe (y := nI (j / 12)) (congrArg nI (by omega)) ?_
            refine zr_aload_n C d_M_linkCall_96 (n := 97) rfl rfl ?_
            refine zr_get C f_M_41 d_M_linkCall_97 (n := 100) rfl hm rfl ?_
            refine zr_bipush C d_M_linkCall_100 (n := 102) rfl (v := nI 6) (by decide) ?_
            refine zr_ialdN C d_M_linkCall_102 (n := 103) rfl s10 (j := 6) rfl (by decide) (by decide) ?_
            refine zr_toe (y := B 8) w6 ?_
            refine zr_icmp_ne C d_M_linkCall_103 (n := 106) rfl (t := 110) (by decide) (fun c5 => ?_) (fun c5 => ?_)
            · refine zr_iconst C d_M_linkCall_110 (n := 111) rfl (v := nI 1) (by decide) ?_
              rw [e9, zb_pl_s (by omega), zb_fc_s (by rw [zo_hf_nz hth]; exact c1)] at hK
              rw [if_neg (by rw [c3]; decide)] at hK
              rw [if_pos c4] at hK
              rw [if_neg c5] at hK
              exact zr_iret C d_M_linkCall_111 rfl (hK _ _ (zm_mv_r hM)) (Nat.zero_le _) (Nat.zero_le _)
            · refine zr_iconst C d_M_linkCall_106 (n := 107) rfl (v := nI 0) (by decide) ?_
              refine zr_goto C d_M_linkCall_107 (t := 111) (by decide) ?_
              rw [e9, zb_pl_s (by omega), zb_fc_s (by rw [zo_hf_nz hth]; exact c1)] at hK
              rw [if_neg (by rw [c3]; decide)] at hK
              rw [if_pos c4] at hK
              rw [if_pos c5] at hK
              exact zr_iret C d_M_linkCall_111 rfl (hK _ _ (zm_mv_r hM)) (Nat.zero_le _) (Nat.zero_le _)
          · refine zr_bipush C d_M_linkCall_86 (n := 88) rfl (v := -9) (by decide) ?_
            rw [e9, zb_pl_s (by omega), zb_fc_s (by rw [zo_hf_nz hth]; exact c1)] at hK
            rw [if_neg (by rw [c3]; decide)] at hK
            rw [if_neg c4] at hK
            exact zr_iret C d_M_linkCall_88 rfl (hK _ _ (zm_mv_r hM)) (Nat.zero_le _) (Nat.zero_le _)
        · replace c3 := zb_nzt c3
          refine zr_bipush C d_M_linkCall_64 (n := 66) rfl (v := -8) (by decide) ?_
          rw [e9, zb_pl_s (by omega), zb_fc_s (by rw [zo_hf_nz hth]; exact c1)] at hK
          rw [if_pos c3] at hK
          exact zr_iret C d_M_linkCall_66 rfl (hK _ _ (zm_mv_r hM)) (Nat.zero_le _) (Nat.zero_le _)
      · exact absurd c2 (by first | exact fun q => q (nI_nn (by omega)) | (intro q; exact absurd (Int32.not_le.mp q) (nI_pos (by omega))))
    · refine zr_bipush C d_M_linkCall_22 (n := 24) rfl (v := -9) (by decide) ?_
      rw [zb_fc_x (by rw [zo_hf_nz hth]; exact c1)] at hK
      exact zr_iret C d_M_linkCall_24 rfl (hK _ _ (zm_mv_r hM)) (Nat.zero_le _) (Nat.zero_le _)
abbrev rm_M_linkOverride : Room := { frames := 2, cells := 0, slots := 0, locals := 55 }
set_option maxHeartbeats 4000000 in
set_option maxRecDepth 100000 in
/-- linkOverride -/
theorem sp_M_linkOverride (l : Launch) {h : zk_H} {V : Nat → zo_O} {S : zo_O} {us : Nat} (hM : zm_at h S us) (hR : zm_R V S) (hok : ∀ v, v < 2 → zo_ok (V v)) {t nm ag : Nat} {B : Nat → Int32} (ht : t < 6) (hnm : nm < 3) (hag : ag < 4) (hth : zo_th (V 1) t = true) (hsb : zb_sb (V 1) t B = false) (w1 : S 10 1 = nI ag) (w2 : S 10 2 = B 7) {K : Option Value → zk_H → Prop} (hK : ∀ (h' : zk_H) (S' : zo_O), zm_mv h h' S S' us 0 → K (some (.int (zb_fo (V 1) t B (zb_pl (zo_fm (V 1) t nm ag (-1)))))) h') : zk_S l y_M_linkOverride b_M_linkOverride 5 (some .int) rm_M_linkOverride [.ref (38 + 1), .int (nI t), .int (nI nm)] h K := by
  obtain ⟨hm, s0, s1, s2, s3, s4, s5, s6, s7, s8, s9, s10, s11⟩ := id hM
  refine zk_S_of R_M "linkOverride" (by decide) rfl rfl [some (.ref (38 + 1)), some (.int (nI t)), some (.int (nI nm)), none, none] 2 rfl (Nat.le_of_ble_eq_true rfl) (fun p e s m ar below meth c D dA b base C => ?_)
  rcases zo_fm_th (zo_ok_wf (hok 1 (by decide))) ht hnm hag (an := -1) with e9 | ⟨j, hj, e9, hjp, hne⟩
  · refine zr_aload_n C d_M_linkOverride_0 (n := 1) rfl rfl ?_
    refine zr_iconst C d_M_linkOverride_1 (n := 2) rfl (v := nI 1) (by decide) ?_
    refine zr_iload_n C d_M_linkOverride_2 (n := 3) rfl rfl ?_
    refine zr_iload_n C d_M_linkOverride_3 (n := 4) rfl rfl ?_
    refine zr_aload_n C d_M_linkOverride_4 (n := 5) rfl rfl ?_
    refine zr_get C f_M_41 d_M_linkOverride_5 (n := 8) rfl hm rfl ?_
    refine zr_iconst C d_M_linkOverride_8 (n := 9) rfl (v := nI 1) (by decide) ?_
    refine zr_ialdN C d_M_linkOverride_9 (n := 10) rfl s10 (j := 1) rfl (by decide) (by decide) ?_
    refine zr_toe (y := nI ag) w1 ?_
    refine zr_iconst C d_M_linkOverride_10 (n := 11) rfl (v := -1) (by decide) ?_
    refine zr_callV5 C k_M_77 d_M_linkOverride_11 (nx := 14) rfl hm rfl ⟨by decide, by decide⟩ (Nat.le_of_ble_eq_true rfl) ⟨by decide, by decide⟩ (sp_M_findMethod l hM hR hok (v := 1) (by decide) ht hnm hag hth (Or.inl rfl) ?_)
    refine zr_toe (y := -1) (by rw [e9, zm_p_n]) ?_
    refine zr_istore_n C d_M_linkOverride_14 (n := 15) rfl (by decide) rfl ?_
    refine zr_iload_n C d_M_linkOverride_15 (n := 16) rfl rfl ?_
    refine zr_if_lt C d_M_linkOverride_16 (n := 19) rfl (t := 35) (by decide) (fun c1 => ?_) (fun c1 => ?_)
    · refine zr_iconst C d_M_linkOverride_35 (n := 36) rfl (v := nI 0) (by decide) ?_
      refine zr_istore C d_M_linkOverride_36 (n := 38) rfl (by decide) rfl ?_
      refine zr_iload C d_M_linkOverride_38 (n := 40) rfl rfl ?_
      refine zr_if_eq C d_M_linkOverride_40 (n := 43) rfl (t := 57) (by decide) (fun c2 => ?_) (fun c2 => ?_)
      · refine zr_iload C d_M_linkOverride_57 (n := 59) rfl rfl ?_
        refine zr_if_eq C d_M_linkOverride_59 (n := 62) rfl (t := 81) (by decide) (fun c3 => ?_) (fun c3 => ?_)
        · refine zr_iconst C d_M_linkOverride_81 (n := 82) rfl (v := nI 3) (by decide) ?_
          rw [e9, zb_pl_n, zb_fo_n hsb] at hK
          exact zr_iret C d_M_linkOverride_82 rfl (hK _ _ (zm_mv_r hM)) (Nat.zero_le _) (Nat.zero_le _)
        · exact absurd rfl c3
      · exact absurd rfl c2
    · exact absurd (by decide) c1
  · refine zr_aload_n C d_M_linkOverride_0 (n := 1) rfl rfl ?_
    refine zr_iconst C d_M_linkOverride_1 (n := 2) rfl (v := nI 1) (by decide) ?_
    refine zr_iload_n C d_M_linkOverride_2 (n := 3) rfl rfl ?_
    refine zr_iload_n C d_M_linkOverride_3 (n := 4) rfl rfl ?_
    refine zr_aload_n C d_M_linkOverride_4 (n := 5) rfl rfl ?_
    refine zr_get C f_M_41 d_M_linkOverride_5 (n := 8) rfl hm rfl ?_
    refine zr_iconst C d_M_linkOverride_8 (n := 9) rfl (v := nI 1) (by decide) ?_
    refine zr_ialdN C d_M_linkOverride_9 (n := 10) rfl s10 (j := 1) rfl (by decide) (by decide) ?_
    refine zr_toe (y := nI ag) w1 ?_
    refine zr_iconst C d_M_linkOverride_10 (n := 11) rfl (v := -1) (by decide) ?_
    refine zr_callV5 C k_M_77 d_M_linkOverride_11 (nx := 14) rfl hm rfl ⟨by decide, by decide⟩ (Nat.le_of_ble_eq_true rfl) ⟨by decide, by decide⟩ (sp_M_findMethod l hM hR hok (v := 1) (by decide) ht hnm hag hth (Or.inl rfl) ?_)
    refine zr_toe (y := nI (72 * 1 + j)) (by rw [e9, zm_p_s (by omega)]) ?_
    refine zr_istore_n C d_M_linkOverride_14 (n := 15) rfl (by decide) rfl ?_
    refine zr_iload_n C d_M_linkOverride_15 (n := 16) rfl rfl ?_
    refine zr_if_lt C d_M_linkOverride_16 (n := 19) rfl (t := 35) (by decide) (fun c1 => ?_) (fun c1 => ?_)
    · exact absurd c1 (nI_pos (by omega))
    · refine zr_aload_n C d_M_linkOverride_19 (n := 20) rfl rfl ?_
      refine zr_get C f_M_35 d_M_linkOverride_20 (n := 23) rfl hm rfl ?_
      refine zr_iload_n C d_M_linkOverride_23 (n := 24) rfl rfl ?_
      refine zr_ialdN C d_M_linkOverride_24 (n := 25) rfl s8 rfl (by omega) (by decide) ?_
      refine zr_toe (y := V 1 6 j) (((hR 1 (by decide)).2.2 j (by omega)).2 hne).2 ?_
      refine zr_bipush C d_M_linkOverride_25 (n := 27) rfl (v := nI 8) (by decide) ?_
      refine zr_iand C d_M_linkOverride_27 (n := 28) rfl ?_
      refine zr_if_ne C d_M_linkOverride_28 (n := 31) rfl (t := 35) (by decide) (fun c2 => ?_) (fun c2 => ?_)
      · replace c2 := zb_nzt c2
        refine zr_iconst C d_M_linkOverride_35 (n := 36) rfl (v := nI 0) (by decide) ?_
        refine zr_istore C d_M_linkOverride_36 (n := 38) rfl (by decide) rfl ?_
        refine zr_iload C d_M_linkOverride_38 (n := 40) rfl rfl ?_
        refine zr_if_eq C d_M_linkOverride_40 (n := 43) rfl (t := 57) (by decide) (fun c3 => ?_) (fun c3 => ?_)
        · refine zr_iload C d_M_linkOverride_57 (n := 59) rfl rfl ?_
          refine zr_if_eq C d_M_linkOverride_59 (n := 62) rfl (t := 81) (by decide) (fun c4 => ?_) (fun c4 => ?_)
          · refine zr_iconst C d_M_linkOverride_81 (n := 82) rfl (v := nI 3) (by decide) ?_
            rw [e9, zb_pl_s (by omega), zb_fo_s hsb] at hK
            rw [if_pos c2] at hK
            exact zr_iret C d_M_linkOverride_82 rfl (hK _ _ (zm_mv_r hM)) (Nat.zero_le _) (Nat.zero_le _)
          · exact absurd rfl c4
        · exact absurd rfl c3
      · replace c2 := zb_nzf c2
        refine zr_iconst C d_M_linkOverride_31 (n := 32) rfl (v := nI 1) (by decide) ?_
        refine zr_goto C d_M_linkOverride_32 (t := 36) (by decide) ?_
        refine zr_istore C d_M_linkOverride_36 (n := 38) rfl (by decide) rfl ?_
        refine zr_iload C d_M_linkOverride_38 (n := 40) rfl rfl ?_
        refine zr_if_eq C d_M_linkOverride_40 (n := 43) rfl (t := 57) (by decide) (fun c5 => ?_) (fun c5 => ?_)
        · exact absurd c5 (by decide)
        · refine zr_aload_n C d_M_linkOverride_43 (n := 44) rfl rfl ?_
          refine zr_get C f_M_35 d_M_linkOverride_44 (n := 47) rfl hm rfl ?_
          refine zr_iload_n C d_M_linkOverride_47 (n := 48) rfl rfl ?_
          refine zr_ialdN C d_M_linkOverride_48 (n := 49) rfl s8 rfl (by omega) (by decide) ?_
          refine zr_toe (y := V 1 6 j) (((hR 1 (by decide)).2.2 j (by omega)).2 hne).2 ?_
          refine zr_iconst C d_M_linkOverride_49 (n := 50) rfl (v := nI 5) (by decide) ?_
          refine zr_iand C d_M_linkOverride_50 (n := 51) rfl ?_
          refine zr_if_eq C d_M_linkOverride_51 (n := 54) rfl (t := 57) (by decide) (fun c6 => ?_) (fun c6 => ?_)
          · replace c6 := zb_nzf c6
            refine zr_iload C d_M_linkOverride_57 (n := 59) rfl rfl ?_
            refine zr_if_eq C d_M_linkOverride_59 (n := 62) rfl (t := 81) (by decide) (fun c7 => ?_) (fun c7 => ?_)
            · exact absurd c7 (by decide)
            · refine zr_aload_n C d_M_linkOverride_62 (n := 63) rfl rfl ?_
              refine zr_get C f_M_32 d_M_linkOverride_63 (n := 66) rfl hm rfl ?_
              refine zr_iload_n C d_M_linkOverride_66 (n := 67) rfl rfl ?_
              refine zr_ialdN C d_M_linkOverride_67 (n := 68) rfl s7 rfl (by omega) (by decide) ?_
              refine zr_toe (y := V 1 7 j) (((hR 1 (by decide)).2.2 j (by omega)).2 hne).1 ?_
              refine zr_aload_n C d_M_linkOverride_68 (n := 69) rfl rfl ?_
              refine zr_get C f_M_41 d_M_linkOverride_69 (n := 72) rfl hm rfl ?_
              refine zr_iconst C d_M_linkOverride_72 (n := 73) rfl (v := nI 2) (by decide) ?_
              refine zr_ialdN C d_M_linkOverride_73 (n := 74) rfl s10 (j := 2) rfl (by decide) (by decide) ?_
              refine zr_toe (y := B 7) w2 ?_
              refine zr_icmp_ne C d_M_linkOverride_74 (n := 77) rfl (t := 81) (by decide) (fun c8 => ?_) (fun c8 => ?_)
              · refine zr_iconst C d_M_linkOverride_81 (n := 82) rfl (v := nI 3) (by decide) ?_
                rw [e9, zb_pl_s (by omega), zb_fo_s hsb] at hK
                rw [if_neg (by rw [c2]; decide)] at hK
                rw [if_neg (by rw [c6]; decide), if_neg c8] at hK
                exact zr_iret C d_M_linkOverride_82 rfl (hK _ _ (zm_mv_r hM)) (Nat.zero_le _) (Nat.zero_le _)
              · refine zr_iconst C d_M_linkOverride_77 (n := 78) rfl (v := nI 0) (by decide) ?_
                refine zr_goto C d_M_linkOverride_78 (t := 82) (by decide) ?_
                rw [e9, zb_pl_s (by omega), zb_fo_s hsb] at hK
                rw [if_neg (by rw [c2]; decide)] at hK
                rw [if_neg (by rw [c6]; decide), if_pos c8] at hK
                exact zr_iret C d_M_linkOverride_82 rfl (hK _ _ (zm_mv_r hM)) (Nat.zero_le _) (Nat.zero_le _)
          · replace c6 := zb_nzt c6
            refine zr_bipush C d_M_linkOverride_54 (n := 56) rfl (v := -9) (by decide) ?_
            rw [e9, zb_pl_s (by omega), zb_fo_s hsb] at hK
            rw [if_neg (by rw [c2]; decide)] at hK
            rw [if_pos c6] at hK
            exact zr_iret C d_M_linkOverride_56 rfl (hK _ _ (zm_mv_r hM)) (Nat.zero_le _) (Nat.zero_le _)
