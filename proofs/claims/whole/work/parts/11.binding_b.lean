def zb_cc (O : zo_O) (k t nm ag : Nat) (B : Nat → Int32) : Int32 × (Nat → Int32) := zb_cL O k t nm B (if ag = 0 then 1 else 4 - ag) ag
theorem zo_at_set {h : zk_H} {o i : Nat} {O : zo_O} {x : zk_E} (hO : zo_at h o O) (hio : i < o ∨ o + 8 < i) : zo_at (h.set i x) o O := by
  obtain ⟨ho, a0, a1, a2, a3, a4, a5, a6, a7⟩ := hO
  exact ⟨zk_g1 (by omega) ho, zk_g1 (by omega) a0, zk_g1 (by omega) a1, zk_g1 (by omega) a2, zk_g1 (by omega) a3, zk_g1 (by omega) a4, zk_g1 (by omega) a5, zk_g1 (by omega) a6, zk_g1 (by omega) a7⟩
def zb_b1 (O : zo_O) (t : Nat) (B : Nat → Int32) : Nat → Int32 := upd (upd B 2 (nI 0)) 1 (zk_b (zo_hf O t (nI 1)))
def zb_fin (q : Int32 × (Nat → Int32)) : Nat → Int32 := upd q.2 0 q.1
def zb_if (c : Bool) (x y : Int32) : Int32 := if c = true then x else y
def zb_kd (O : zo_O) (k t nm ag : Nat) (B : Nat → Int32) : Int32 × (Nat → Int32) := match k with
  | 0 => zb_f O 0 B (zb_pl (zo_ff O nm (-1) 6 t))
  | 1 => zb_f O 1 B (zb_pl (zo_ff O nm (-1) 6 t))
  | 2 => zb_cc O 2 t nm ag B
  | 3 => zb_cc O 3 t nm ag B
  | 4 => (zb_if (zo_hf O t (nI 3)) (-5) (nI 0), B)
  | 5 => (zb_if (zo_hf O t (nI 4)) (-5) (nI 0), B)
  | _ => zb_o O t B (zb_pl (zo_fm O t nm ag (-1)))
def zb_bind (O : zo_O) (k t nm ag : Nat) (B : Nat → Int32) : Nat → Int32 := if zo_th O t = true ∧ zo_hf O t (nI 8) = false then zb_fin (zb_kd O k t nm ag (zb_b1 O t B)) else upd (zb_b1 O t B) 0 (-3)
theorem zb_bind_no {O : zo_O} {k t nm ag : Nat} {B : Nat → Int32} (h : ¬ (zo_th O t = true ∧ zo_hf O t (nI 8) = false)) : zb_bind O k t nm ag B = upd (zb_b1 O t B) 0 (-3) := by rw [zb_bind, if_neg h]
theorem zb_bind_ok {O : zo_O} {k t nm ag : Nat} {B : Nat → Int32} (h : zo_th O t = true ∧ zo_hf O t (nI 8) = false) : zb_bind O k t nm ag B = zb_fin (zb_kd O k t nm ag (zb_b1 O t B)) := by rw [zb_bind, if_pos h]
abbrev rm_B_bindField : Room := { frames := 9, cells := 0, slots := 0, locals := 242 }
set_option maxHeartbeats 4000000 in
set_option maxRecDepth 100000 in
/-- bindField -/
theorem sp_B_bindField (l : Launch) {h : zk_H} {i u o : Nat} {B : Nat → Int32} {k t nm : Nat} {a : Int32} {O : zo_O} (hB : h[i]? = some (zb_c B)) (hU : h[u]? = some (zu_c k t nm a)) (hO : zo_at h o O) (hw : zo_wf O) (hiu : i ≠ u) (hio : i < o ∨ o + 8 < i) (ht : t < 6) (hk : k < 7) (hnm : nm < 4) {K : Option Value → zk_H → Prop} (hK : K (some (.int (zb_f O k B (zb_pl (zo_ff O nm (-1) 6 t))).1)) (h.set i (zb_c (zb_f O k B (zb_pl (zo_ff O nm (-1) 6 t))).2))) : zk_S l y_B_bindField b_B_bindField 5 (some .int) rm_B_bindField [.ref (i + 1), .ref (u + 1), .ref (o + 1)] h K := by
  obtain ⟨ho, a0, a1, a2, a3, a4, a5, a6, a7⟩ := id hO
  refine zk_S_of R_B "bindField" (by decide) rfl rfl [some (.ref (i + 1)), some (.ref (u + 1)), some (.ref (o + 1)), none, none] 2 rfl (Nat.le_of_ble_eq_true rfl) (fun p e s m ar below meth c D dA b base C => ?_)
  rcases zo_ff_pl hw hnm (kd := -1) 6 t ht with e | ⟨j, hj, e⟩
  · refine zr_aload_n C d_B_bindField_0 (n := 1) rfl rfl ?_
    refine zr_aload_n C d_B_bindField_1 (n := 2) rfl rfl ?_
    refine zr_getN C f_B_15 d_B_bindField_2 (n := 5) rfl hU rfl ?_
    refine zr_aload_n C d_B_bindField_5 (n := 6) rfl rfl ?_
    refine zr_getN C f_B_58 d_B_bindField_6 (n := 9) rfl hU rfl ?_
    refine zr_iconst C d_B_bindField_9 (n := 10) rfl (v := -1) (by decide) ?_
    refine zr_callV3 C k_B_61 d_B_bindField_10 (nx := 13) rfl ho rfl ⟨by decide, by decide⟩ (Nat.le_of_ble_eq_true rfl) ⟨by decide, by decide⟩ (sp_O_findField l hO hw ht hnm ?_)
    refine zr_toe (y := -1) e ?_
    refine zr_istore_n C d_B_bindField_13 (n := 14) rfl (by decide) rfl ?_
    refine zr_iload_n C d_B_bindField_14 (n := 15) rfl rfl ?_
    refine zr_iconst C d_B_bindField_15 (n := 16) rfl (v := -1) (by decide) ?_
    refine zr_icmp_eq C d_B_bindField_16 (n := 19) rfl (t := 31) (by decide) (fun c1 => ?_) (fun c1 => ?_)
    · refine zr_bipush C d_B_bindField_31 (n := 33) rfl (v := -4) (by decide) ?_
      rw [e, zb_pl_n, zb_f_n] at hK
      have hK : K (some (.int (-4))) (h.set i (zb_c B)) := hK
      rw [zk_ss hB] at hK
      exact zr_iret C d_B_bindField_33 rfl hK (Nat.zero_le _) (Nat.zero_le _)
    · exact absurd rfl c1
  · refine zr_aload_n C d_B_bindField_0 (n := 1) rfl rfl ?_
    refine zr_aload_n C d_B_bindField_1 (n := 2) rfl rfl ?_
    refine zr_getN C f_B_15 d_B_bindField_2 (n := 5) rfl hU rfl ?_
    refine zr_aload_n C d_B_bindField_5 (n := 6) rfl rfl ?_
    refine zr_getN C f_B_58 d_B_bindField_6 (n := 9) rfl hU rfl ?_
    refine zr_iconst C d_B_bindField_9 (n := 10) rfl (v := -1) (by decide) ?_
    refine zr_callV3 C k_B_61 d_B_bindField_10 (nx := 13) rfl ho rfl ⟨by decide, by decide⟩ (Nat.le_of_ble_eq_true rfl) ⟨by decide, by decide⟩ (sp_O_findField l hO hw ht hnm ?_)
    refine zr_toe (y := nI j) e ?_
    refine zr_istore_n C d_B_bindField_13 (n := 14) rfl (by decide) rfl ?_
    refine zr_iload_n C d_B_bindField_14 (n := 15) rfl rfl ?_
    refine zr_iconst C d_B_bindField_15 (n := 16) rfl (v := -1) (by decide) ?_
    refine zr_icmp_eq C d_B_bindField_16 (n := 19) rfl (t := 31) (by decide) (fun c1 => ?_) (fun c1 => ?_)
    · exact absurd c1 (zk_nm1 (by omega))
    · refine zr_aload_n C d_B_bindField_19 (n := 20) rfl rfl ?_
      refine zr_getN C f_B_65 d_B_bindField_20 (n := 23) rfl ho rfl ?_
      refine zr_iload_n C d_B_bindField_23 (n := 24) rfl rfl ?_
      refine zr_ialdN C d_B_bindField_24 (n := 25) rfl a3 rfl (by omega) (by decide) ?_
      refine zr_bipush C d_B_bindField_25 (n := 27) rfl (v := nI 8) (by decide) ?_
      refine zr_iand C d_B_bindField_27 (n := 28) rfl ?_
      refine zr_if_eq C d_B_bindField_28 (n := 31) rfl (t := 34) (by decide) (fun c2 => ?_) (fun c2 => ?_)
      · replace c2 := zb_nzf c2
        refine zr_aload_n C d_B_bindField_34 (n := 35) rfl rfl ?_
        refine zr_getN C f_B_65 d_B_bindField_35 (n := 38) rfl ho rfl ?_
        refine zr_iload_n C d_B_bindField_38 (n := 39) rfl rfl ?_
        refine zr_ialdN C d_B_bindField_39 (n := 40) rfl a3 rfl (by omega) (by decide) ?_
        refine zr_istore C d_B_bindField_40 (n := 42) rfl (by decide) rfl ?_
        refine zr_aload_n C d_B_bindField_42 (n := 43) rfl rfl ?_
        refine zr_getN C f_B_39 d_B_bindField_43 (n := 46) rfl hU rfl ?_
        refine zr_iconst C d_B_bindField_46 (n := 47) rfl (v := nI 1) (by decide) ?_
        refine zr_icmp_ne C d_B_bindField_47 (n := 50) rfl (t := 60) (by decide) (fun c3 => ?_) (fun c3 => ?_)
        · replace c3 := zk_ne (by omega) (by omega) c3
          refine zr_aload_n C d_B_bindField_60 (n := 61) rfl rfl ?_
          refine zr_iload C d_B_bindField_61 (n := 63) rfl rfl ?_
          refine zr_bipush C d_B_bindField_63 (n := 65) rfl (v := nI 16) (by decide) ?_
          refine zr_iand C d_B_bindField_65 (n := 66) rfl ?_
          refine zr_if_eq C d_B_bindField_66 (n := 69) rfl (t := 73) (by decide) (fun c4 => ?_) (fun c4 => ?_)
          · replace c4 := zb_nzf c4
            refine zr_iconst C d_B_bindField_73 (n := 74) rfl (v := nI 0) (by decide) ?_
            refine zr_toe (y := zk_b (zb_nz (O 3 j) (nI 16))) (by rw [c4]; rfl) ?_
            refine zr_put C f_B_9 Y_B rfl rfl d_B_bindField_74 (n := 77) rfl hB (Nat.le_of_ble_eq_true rfl) (fun _ _ => zk_nb _) (fun _ _ => zk_fb _) ?_
            refine zr_aload_n C d_B_bindField_77 (n := 78) rfl rfl ?_
            refine zr_aload_n C d_B_bindField_78 (n := 79) rfl rfl ?_
            refine zr_getN C f_B_69 d_B_bindField_79 (n := 82) rfl (zk_g1 (by omega) ho) rfl ?_
            refine zr_iload_n C d_B_bindField_82 (n := 83) rfl rfl ?_
            refine zr_ialdN C d_B_bindField_83 (n := 84) rfl (zk_g1 (by omega) a4) rfl (by omega) (by decide) ?_
            refine zr_put C f_B_72 Y_B rfl rfl d_B_bindField_84 (n := 87) rfl (zk_g0 hB) (Nat.le_of_ble_eq_true rfl) (fun _ _ => rfl) (fun _ _ => rfl) ?_
            rw [zk_sset]
            refine zr_aload_n C d_B_bindField_87 (n := 88) rfl rfl ?_
            refine zr_aload_n C d_B_bindField_88 (n := 89) rfl rfl ?_
            refine zr_getN C f_B_74 d_B_bindField_89 (n := 92) rfl (zk_g1 (by omega) ho) rfl ?_
            refine zr_iload_n C d_B_bindField_92 (n := 93) rfl rfl ?_
            refine zr_ialdN C d_B_bindField_93 (n := 94) rfl (zk_g1 (by omega) a5) rfl (by omega) (by decide) ?_
            refine zr_put C f_B_77 Y_B rfl rfl d_B_bindField_94 (n := 97) rfl (zk_g0 hB) (Nat.le_of_ble_eq_true rfl) (fun _ _ => rfl) (fun _ _ => rfl) ?_
            rw [zk_sset]
            refine zr_aload_n C d_B_bindField_97 (n := 98) rfl rfl ?_
            refine zr_iload C d_B_bindField_98 (n := 100) rfl rfl ?_
            refine zr_iconst C d_B_bindField_100 (n := 101) rfl (v := nI 1) (by decide) ?_
            refine zr_iand C d_B_bindField_101 (n := 102) rfl ?_
            refine zr_if_eq C d_B_bindField_102 (n := 105) rfl (t := 109) (by decide) (fun c5 => ?_) (fun c5 => ?_)
            · replace c5 := zb_nzf c5
              refine zr_iconst C d_B_bindField_109 (n := 110) rfl (v := nI 0) (by decide) ?_
              refine zr_toe (y := zk_b (zb_nz (O 3 j) (nI 1))) (by rw [c5]; rfl) ?_
              refine zr_put C f_B_80 Y_B rfl rfl d_B_bindField_110 (n := 113) rfl (zk_g0 hB) (Nat.le_of_ble_eq_true rfl) (fun _ _ => zk_nb _) (fun _ _ => zk_fb _) ?_
              rw [zk_sset]
              refine zr_iconst C d_B_bindField_113 (n := 114) rfl (v := nI 0) (by decide) ?_
              rw [e, zb_pl_s (by omega)] at hK
              rw [zb_f_y c2 (by simp [c3, c4, c5])] at hK
              exact zr_iret C d_B_bindField_114 rfl hK (Nat.zero_le _) (Nat.zero_le _)
            · replace c5 := zb_nzt c5
              refine zr_iconst C d_B_bindField_105 (n := 106) rfl (v := nI 1) (by decide) ?_
              refine zr_goto C d_B_bindField_106 (t := 110) (by decide) ?_
              refine zr_toe (y := zk_b (zb_nz (O 3 j) (nI 1))) (by rw [c5]; rfl) ?_
              refine zr_put C f_B_80 Y_B rfl rfl d_B_bindField_110 (n := 113) rfl (zk_g0 hB) (Nat.le_of_ble_eq_true rfl) (fun _ _ => zk_nb _) (fun _ _ => zk_fb _) ?_
              rw [zk_sset]
              refine zr_iconst C d_B_bindField_113 (n := 114) rfl (v := nI 0) (by decide) ?_
              rw [e, zb_pl_s (by omega)] at hK
              rw [zb_f_y c2 (by simp [c3, c4, c5])] at hK
              exact zr_iret C d_B_bindField_114 rfl hK (Nat.zero_le _) (Nat.zero_le _)
          · replace c4 := zb_nzt c4
            refine zr_iconst C d_B_bindField_69 (n := 70) rfl (v := nI 1) (by decide) ?_
            refine zr_goto C d_B_bindField_70 (t := 74) (by decide) ?_
            refine zr_toe (y := zk_b (zb_nz (O 3 j) (nI 16))) (by rw [c4]; rfl) ?_
            refine zr_put C f_B_9 Y_B rfl rfl d_B_bindField_74 (n := 77) rfl hB (Nat.le_of_ble_eq_true rfl) (fun _ _ => zk_nb _) (fun _ _ => zk_fb _) ?_
            refine zr_aload_n C d_B_bindField_77 (n := 78) rfl rfl ?_
            refine zr_aload_n C d_B_bindField_78 (n := 79) rfl rfl ?_
            refine zr_getN C f_B_69 d_B_bindField_79 (n := 82) rfl (zk_g1 (by omega) ho) rfl ?_
            refine zr_iload_n C d_B_bindField_82 (n := 83) rfl rfl ?_
            refine zr_ialdN C d_B_bindField_83 (n := 84) rfl (zk_g1 (by omega) a4) rfl (by omega) (by decide) ?_
            refine zr_put C f_B_72 Y_B rfl rfl d_B_bindField_84 (n := 87) rfl (zk_g0 hB) (Nat.le_of_ble_eq_true rfl) (fun _ _ => rfl) (fun _ _ => rfl) ?_
            rw [zk_sset]
            refine zr_aload_n C d_B_bindField_87 (n := 88) rfl rfl ?_
            refine zr_aload_n C d_B_bindField_88 (n := 89) rfl rfl ?_
            refine zr_getN C f_B_74 d_B_bindField_89 (n := 92) rfl (zk_g1 (by omega) ho) rfl ?_
            refine zr_iload_n C d_B_bindField_92 (n := 93) rfl rfl ?_
            refine zr_ialdN C d_B_bindField_93 (n := 94) rfl (zk_g1 (by omega) a5) rfl (by omega) (by decide) ?_
            refine zr_put C f_B_77 Y_B rfl rfl d_B_bindField_94 (n := 97) rfl (zk_g0 hB) (Nat.le_of_ble_eq_true rfl) (fun _ _ => rfl) (fun _ _ => rfl) ?_
            rw [zk_sset]
            refine zr_aload_n C d_B_bindField_97 (n := 98) rfl rfl ?_
            refine zr_iload C d_B_bindField_98 (n := 100) rfl rfl ?_
            refine zr_iconst C d_B_bindField_100 (n := 101) rfl (v := nI 1) (by decide) ?_
            refine zr_iand C d_B_bindField_101 (n := 102) rfl ?_
            refine zr_if_eq C d_B_bindField_102 (n := 105) rfl (t := 109) (by decide) (fun c6 => ?_) (fun c6 => ?_)
            · replace c6 := zb_nzf c6
              refine zr_iconst C d_B_bindField_109 (n := 110) rfl (v := nI 0) (by decide) ?_
              refine zr_toe (y := zk_b (zb_nz (O 3 j) (nI 1))) (by rw [c6]; rfl) ?_
              refine zr_put C f_B_80 Y_B rfl rfl d_B_bindField_110 (n := 113) rfl (zk_g0 hB) (Nat.le_of_ble_eq_true rfl) (fun _ _ => zk_nb _) (fun _ _ => zk_fb _) ?_
              rw [zk_sset]
              refine zr_iconst C d_B_bindField_113 (n := 114) rfl (v := nI 0) (by decide) ?_
              rw [e, zb_pl_s (by omega)] at hK
              rw [zb_f_y c2 (by simp [c3, c4, c6])] at hK
              exact zr_iret C d_B_bindField_114 rfl hK (Nat.zero_le _) (Nat.zero_le _)
            · replace c6 := zb_nzt c6
              refine zr_iconst C d_B_bindField_105 (n := 106) rfl (v := nI 1) (by decide) ?_
              refine zr_goto C d_B_bindField_106 (t := 110) (by decide) ?_
              refine zr_toe (y := zk_b (zb_nz (O 3 j) (nI 1))) (by rw [c6]; rfl) ?_
              refine zr_put C f_B_80 Y_B rfl rfl d_B_bindField_110 (n := 113) rfl (zk_g0 hB) (Nat.le_of_ble_eq_true rfl) (fun _ _ => zk_nb _) (fun _ _ => zk_fb _) ?_
              rw [zk_sset]
              refine zr_iconst C d_B_bindField_113 (n := 114) rfl (v := nI 0) (by decide) ?_
              rw [e, zb_pl_s (by omega)] at hK
              rw [zb_f_y c2 (by simp [c3, c4, c6])] at hK
              exact zr_iret C d_B_bindField_114 rfl hK (Nat.zero_le _) (Nat.zero_le _)
        · replace c3 := zk_eq (by omega) (by omega) c3
          refine zr_iload C d_B_bindField_50 (n := 52) rfl rfl ?_
          refine zr_iconst C d_B_bindField_52 (n := 53) rfl (v := nI 4) (by decide) ?_
          refine zr_iand C d_B_bindField_53 (n := 54) rfl ?_
          refine zr_if_eq C d_B_bindField_54 (n := 57) rfl (t := 60) (by decide) (fun c7 => ?_) (fun c7 => ?_)
          · replace c7 := zb_nzf c7
            refine zr_aload_n C d_B_bindField_60 (n := 61) rfl rfl ?_
            refine zr_iload C d_B_bindField_61 (n := 63) rfl rfl ?_
            refine zr_bipush C d_B_bindField_63 (n := 65) rfl (v := nI 16) (by decide) ?_
            refine zr_iand C d_B_bindField_65 (n := 66) rfl ?_
            refine zr_if_eq C d_B_bindField_66 (n := 69) rfl (t := 73) (by decide) (fun c8 => ?_) (fun c8 => ?_)
            · replace c8 := zb_nzf c8
              refine zr_iconst C d_B_bindField_73 (n := 74) rfl (v := nI 0) (by decide) ?_
              refine zr_toe (y := zk_b (zb_nz (O 3 j) (nI 16))) (by rw [c8]; rfl) ?_
              refine zr_put C f_B_9 Y_B rfl rfl d_B_bindField_74 (n := 77) rfl hB (Nat.le_of_ble_eq_true rfl) (fun _ _ => zk_nb _) (fun _ _ => zk_fb _) ?_
              refine zr_aload_n C d_B_bindField_77 (n := 78) rfl rfl ?_
              refine zr_aload_n C d_B_bindField_78 (n := 79) rfl rfl ?_
              refine zr_getN C f_B_69 d_B_bindField_79 (n := 82) rfl (zk_g1 (by omega) ho) rfl ?_
              refine zr_iload_n C d_B_bindField_82 (n := 83) rfl rfl ?_
              refine zr_ialdN C d_B_bindField_83 (n := 84) rfl (zk_g1 (by omega) a4) rfl (by omega) (by decide) ?_
              refine zr_put C f_B_72 Y_B rfl rfl d_B_bindField_84 (n := 87) rfl (zk_g0 hB) (Nat.le_of_ble_eq_true rfl) (fun _ _ => rfl) (fun _ _ => rfl) ?_
              rw [zk_sset]
              refine zr_aload_n C d_B_bindField_87 (n := 88) rfl rfl ?_
              refine zr_aload_n C d_B_bindField_88 (n := 89) rfl rfl ?_
              refine zr_getN C f_B_74 d_B_bindField_89 (n := 92) rfl (zk_g1 (by omega) ho) rfl ?_
              refine zr_iload_n C d_B_bindField_92 (n := 93) rfl rfl ?_
              refine zr_ialdN C d_B_bindField_93 (n := 94) rfl (zk_g1 (by omega) a5) rfl (by omega) (by decide) ?_
              refine zr_put C f_B_77 Y_B rfl rfl d_B_bindField_94 (n := 97) rfl (zk_g0 hB) (Nat.le_of_ble_eq_true rfl) (fun _ _ => rfl) (fun _ _ => rfl) ?_
              rw [zk_sset]
              refine zr_aload_n C d_B_bindField_97 (n := 98) rfl rfl ?_
              refine zr_iload C d_B_bindField_98 (n := 100) rfl rfl ?_
              refine zr_iconst C d_B_bindField_100 (n := 101) rfl (v := nI 1) (by decide) ?_
              refine zr_iand C d_B_bindField_101 (n := 102) rfl ?_
              refine zr_if_eq C d_B_bindField_102 (n := 105) rfl (t := 109) (by decide) (fun c9 => ?_) (fun c9 => ?_)
              · replace c9 := zb_nzf c9
                refine zr_iconst C d_B_bindField_109 (n := 110) rfl (v := nI 0) (by decide) ?_
                refine zr_toe (y := zk_b (zb_nz (O 3 j) (nI 1))) (by rw [c9]; rfl) ?_
                refine zr_put C f_B_80 Y_B rfl rfl d_B_bindField_110 (n := 113) rfl (zk_g0 hB) (Nat.le_of_ble_eq_true rfl) (fun _ _ => zk_nb _) (fun _ _ => zk_fb _) ?_
                rw [zk_sset]
                refine zr_iconst C d_B_bindField_113 (n := 114) rfl (v := nI 0) (by decide) ?_
                rw [e, zb_pl_s (by omega)] at hK
                rw [zb_f_y c2 (by simp [c3, c7, c8, c9])] at hK
                exact zr_iret C d_B_bindField_114 rfl hK (Nat.zero_le _) (Nat.zero_le _)
              · replace c9 := zb_nzt c9
                refine zr_iconst C d_B_bindField_105 (n := 106) rfl (v := nI 1) (by decide) ?_
                refine zr_goto C d_B_bindField_106 (t := 110) (by decide) ?_
                refine zr_toe (y := zk_b (zb_nz (O 3 j) (nI 1))) (by rw [c9]; rfl) ?_
                refine zr_put C f_B_80 Y_B rfl rfl d_B_bindField_110 (n := 113) rfl (zk_g0 hB) (Nat.le_of_ble_eq_true rfl) (fun _ _ => zk_nb _) (fun _ _ => zk_fb _) ?_
                rw [zk_sset]
                refine zr_iconst C d_B_bindField_113 (n := 114) rfl (v := nI 0) (by decide) ?_
                rw [e, zb_pl_s (by omega)] at hK
                rw [zb_f_y c2 (by simp [c3, c7, c8, c9])] at hK
                exact zr_iret C d_B_bindField_114 rfl hK (Nat.zero_le _) (Nat.zero_le _)
            · replace c8 := zb_nzt c8
              refine zr_iconst C d_B_bindField_69 (n := 70) rfl (v := nI 1) (by decide) ?_
              refine zr_goto C d_B_bindField_70 (t := 74) (by decide) ?_
              refine zr_toe (y := zk_b (zb_nz (O 3 j) (nI 16))) (by rw [c8]; rfl) ?_
              refine zr_put C f_B_9 Y_B rfl rfl d_B_bindField_74 (n := 77) rfl hB (Nat.le_of_ble_eq_true rfl) (fun _ _ => zk_nb _) (fun _ _ => zk_fb _) ?_
              refine zr_aload_n C d_B_bindField_77 (n := 78) rfl rfl ?_
              refine zr_aload_n C d_B_bindField_78 (n := 79) rfl rfl ?_
              refine zr_getN C f_B_69 d_B_bindField_79 (n := 82) rfl (zk_g1 (by omega) ho) rfl ?_
              refine zr_iload_n C d_B_bindField_82 (n := 83) rfl rfl ?_
              refine zr_ialdN C d_B_bindField_83 (n := 84) rfl (zk_g1 (by omega) a4) rfl (by omega) (by decide) ?_
              refine zr_put C f_B_72 Y_B rfl rfl d_B_bindField_84 (n := 87) rfl (zk_g0 hB) (Nat.le_of_ble_eq_true rfl) (fun _ _ => rfl) (fun _ _ => rfl) ?_
              rw [zk_sset]
              refine zr_aload_n C d_B_bindField_87 (n := 88) rfl rfl ?_
              refine zr_aload_n C d_B_bindField_88 (n := 89) rfl rfl ?_
              refine zr_getN C f_B_74 d_B_bindField_89 (n := 92) rfl (zk_g1 (by omega) ho) rfl ?_
              refine zr_iload_n C d_B_bindField_92 (n := 93) rfl rfl ?_
              refine zr_ialdN C d_B_bindField_93 (n := 94) rfl (zk_g1 (by omega) a5) rfl (by omega) (by decide) ?_
              refine zr_put C f_B_77 Y_B rfl rfl d_B_bindField_94 (n := 97) rfl (zk_g0 hB) (Nat.le_of_ble_eq_true rfl) (fun _ _ => rfl) (fun _ _ => rfl) ?_
              rw [zk_sset]
              refine zr_aload_n C d_B_bindField_97 (n := 98) rfl rfl ?_
              refine zr_iload C d_B_bindField_98 (n := 100) rfl rfl ?_
              refine zr_iconst C d_B_bindField_100 (n := 101) rfl (v := nI 1) (by decide) ?_
              refine zr_iand C d_B_bindField_101 (n := 102) rfl ?_
              refine zr_if_eq C d_B_bindField_102 (n := 105) rfl (t := 109) (by decide) (fun c10 => ?_) (fun c10 => ?_)
              · replace c10 := zb_nzf c10
                refine zr_iconst C d_B_bindField_109 (n := 110) rfl (v := nI 0) (by decide) ?_
                refine zr_toe (y := zk_b (zb_nz (O 3 j) (nI 1))) (by rw [c10]; rfl) ?_
                refine zr_put C f_B_80 Y_B rfl rfl d_B_bindField_110 (n := 113) rfl (zk_g0 hB) (Nat.le_of_ble_eq_true rfl) (fun _ _ => zk_nb _) (fun _ _ => zk_fb _) ?_
                rw [zk_sset]
                refine zr_iconst C d_B_bindField_113 (n := 114) rfl (v := nI 0) (by decide) ?_
                rw [e, zb_pl_s (by omega)] at hK
                rw [zb_f_y c2 (by simp [c3, c7, c8, c10])] at hK
                exact zr_iret C d_B_bindField_114 rfl hK (Nat.zero_le _) (Nat.zero_le _)
              · replace c10 := zb_nzt c10
                refine zr_iconst C d_B_bindField_105 (n := 106) rfl (v := nI 1) (by decide) ?_
                refine zr_goto C d_B_bindField_106 (t := 110) (by decide) ?_
                refine zr_toe (y := zk_b (zb_nz (O 3 j) (nI 1))) (by rw [c10]; rfl) ?_
                refine zr_put C f_B_80 Y_B rfl rfl d_B_bindField_110 (n := 113) rfl (zk_g0 hB) (Nat.le_of_ble_eq_true rfl) (fun _ _ => zk_nb _) (fun _ _ => zk_fb _) ?_
                rw [zk_sset]
                refine zr_iconst C d_B_bindField_113 (n := 114) rfl (v := nI 0) (by decide) ?_
                rw [e, zb_pl_s (by omega)] at hK
                rw [zb_f_y c2 (by simp [c3, c7, c8, c10])] at hK
                exact zr_iret C d_B_bindField_114 rfl hK (Nat.zero_le _) (Nat.zero_le _)
          · replace c7 := zb_nzt c7
            refine zr_bipush C d_B_bindField_57 (n := 59) rfl (v := -5) (by decide) ?_
            rw [e, zb_pl_s (by omega)] at hK
            rw [zb_f_x c2 ⟨c3, c7⟩] at hK
            have hK : K (some (.int (-5))) (h.set i (zb_c B)) := hK
            rw [zk_ss hB] at hK
            exact zr_iret C d_B_bindField_59 rfl hK (Nat.zero_le _) (Nat.zero_le _)
      · replace c2 := zb_nzt c2
        refine zr_bipush C d_B_bindField_31 (n := 33) rfl (v := -4) (by decide) ?_
        rw [e, zb_pl_s (by omega)] at hK
        rw [zb_f_h c2] at hK
        have hK : K (some (.int (-4))) (h.set i (zb_c B)) := hK
        rw [zk_ss hB] at hK
        exact zr_iret C d_B_bindField_33 rfl hK (Nat.zero_le _) (Nat.zero_le _)
abbrev rm_B_bindCall : Room := { frames := 3, cells := 0, slots := 0, locals := 72 }
set_option maxHeartbeats 4000000 in
set_option maxRecDepth 100000 in
/-- bindCall -/
theorem sp_B_bindCall (l : Launch) {h : zk_H} {i u o : Nat} {B : Nat → Int32} {k t nm : Nat} {ag : Nat} {O : zo_O} (hB : h[i]? = some (zb_c B)) (hU : h[u]? = some (zu_c k t nm (nI ag))) (hO : zo_at h o O) (hw : zo_wf O) (hiu : i ≠ u) (hio : i < o ∨ o + 8 < i) (ht : t < 6) (hk : k < 7) (hnm : nm < 3) (ha : ag < 4) {K : Option Value → zk_H → Prop} (hK : K (some (.int (zb_cc O k t nm ag B).1)) (h.set i (zb_c (zb_cc O k t nm ag B).2))) : zk_S l y_B_bindCall b_B_bindCall 6 (some .int) rm_B_bindCall [.ref (i + 1), .ref (u + 1), .ref (o + 1)] h K := by
  obtain ⟨ho, a0, a1, a2, a3, a4, a5, a6, a7⟩ := id hO
  refine zk_S_of R_B "bindCall" (by decide) rfl rfl [some (.ref (i + 1)), some (.ref (u + 1)), some (.ref (o + 1)), none, none, none] 3 rfl (Nat.le_of_ble_eq_true rfl) (fun p e s m ar below meth c D dA b base C => ?_)
  have L : ∀ (la n pp : Nat), la ≤ 3 → pp + n = la + 1 → K (some (.int (zb_cL O k t nm B n pp).1)) (h.set i (zb_c (zb_cL O k t nm B n pp).2)) → zk_V p l e rm_B_bindCall s m ar below meth c 6 D dA b base (MQ below (zk_Q K D dA b base) ar s rm_B_bindCall.cells rm_B_bindCall.slots (fun q : Nat => base ≤ q)) 0 0 19 [some (.ref (i + 1)), some (.ref (u + 1)), some (.ref (o + 1)), some (.int (nI la)), some (.int (nI pp)), none] [] h := by
    intro la n
    induction n with
    | zero =>
      intro pp hla hp hK
      rw [zb_cL] at hK
      have hK : K (some (.int (-4))) (h.set i (zb_c B)) := hK
      rw [zk_ss hB] at hK
      refine zr_iload C d_B_bindCall_19 (n := 21) rfl rfl ?_
      refine zr_iload_n C d_B_bindCall_21 (n := 22) rfl rfl ?_
      refine zr_icmp_gt C d_B_bindCall_22 (n := 25) rfl (t := 76) (by decide) (fun c1 => ?_) (fun c1 => ?_)
      · refine zr_bipush C d_B_bindCall_76 (n := 78) rfl (v := -4) (by decide) ?_
        exact zr_iret C d_B_bindCall_78 rfl hK (Nat.zero_le _) (Nat.zero_le _)
      · exact absurd (zk_nlt (by omega) (by omega) c1) (by omega)
    | succ n ih =>
      intro pp hla hp hK
      rcases zo_fm_pl hw ht hnm (pa := pp) (by omega) (an := -1) with e | ⟨j, hj, e, hjp⟩
      · refine zr_iload C d_B_bindCall_19 (n := 21) rfl rfl ?_
        refine zr_iload_n C d_B_bindCall_21 (n := 22) rfl rfl ?_
        refine zr_icmp_gt C d_B_bindCall_22 (n := 25) rfl (t := 76) (by decide) (fun c1 => ?_) (fun c1 => ?_)
        · exact absurd (zk_lt (by omega) (by omega) c1) (by omega)
        · refine zr_aload_n C d_B_bindCall_25 (n := 26) rfl rfl ?_
          refine zr_aload_n C d_B_bindCall_26 (n := 27) rfl rfl ?_
          refine zr_getN C f_B_15 d_B_bindCall_27 (n := 30) rfl hU rfl ?_
          refine zr_aload_n C d_B_bindCall_30 (n := 31) rfl rfl ?_
          refine zr_getN C f_B_58 d_B_bindCall_31 (n := 34) rfl hU rfl ?_
          refine zr_iload C d_B_bindCall_34 (n := 36) rfl rfl ?_
          refine zr_iconst C d_B_bindCall_36 (n := 37) rfl (v := -1) (by decide) ?_
          refine zr_callV4 C k_B_86 d_B_bindCall_37 (nx := 40) rfl ho rfl ⟨by decide, by decide⟩ (Nat.le_of_ble_eq_true rfl) ⟨by decide, by decide⟩ (sp_O_findMethod l hO hw ht hnm (pa := pp) (by omega) ?_)
          refine zr_toe (y := -1) e ?_
          refine zr_istore C d_B_bindCall_40 (n := 42) rfl (by decide) rfl ?_
          refine zr_iload C d_B_bindCall_42 (n := 44) rfl rfl ?_
          refine zr_iconst C d_B_bindCall_44 (n := 45) rfl (v := -1) (by decide) ?_
          refine zr_icmp_eq C d_B_bindCall_45 (n := 48) rfl (t := 70) (by decide) (fun c2 => ?_) (fun c2 => ?_)
          · refine zr_iinc C d_B_bindCall_70 (n := 73) rfl rfl (w := 1) (by decide) (nI_1 pp) (by decide) rfl ?_
            refine zr_goto C d_B_bindCall_73 (t := 19) (by decide) ?_
            refine zr_drop 5 ?_
            exact ih (pp + 1) hla (by omega) (by rw [zb_cL_n (by rw [e]; exact zb_pl_n)] at hK; exact hK)
          · exact absurd rfl c2
      · refine zr_iload C d_B_bindCall_19 (n := 21) rfl rfl ?_
        refine zr_iload_n C d_B_bindCall_21 (n := 22) rfl rfl ?_
        refine zr_icmp_gt C d_B_bindCall_22 (n := 25) rfl (t := 76) (by decide) (fun c1 => ?_) (fun c1 => ?_)
        · exact absurd (zk_lt (by omega) (by omega) c1) (by omega)
        · refine zr_aload_n C d_B_bindCall_25 (n := 26) rfl rfl ?_
          refine zr_aload_n C d_B_bindCall_26 (n := 27) rfl rfl ?_
          refine zr_getN C f_B_15 d_B_bindCall_27 (n := 30) rfl hU rfl ?_
          refine zr_aload_n C d_B_bindCall_30 (n := 31) rfl rfl ?_
          refine zr_getN C f_B_58 d_B_bindCall_31 (n := 34) rfl hU rfl ?_
          refine zr_iload C d_B_bindCall_34 (n := 36) rfl rfl ?_
          refine zr_iconst C d_B_bindCall_36 (n := 37) rfl (v := -1) (by decide) ?_
          refine zr_callV4 C k_B_86 d_B_bindCall_37 (nx := 40) rfl ho rfl ⟨by decide, by decide⟩ (Nat.le_of_ble_eq_true rfl) ⟨by decide, by decide⟩ (sp_O_findMethod l hO hw ht hnm (pa := pp) (by omega) ?_)
          refine zr_toe (y := nI j) e ?_
          refine zr_istore C d_B_bindCall_40 (n := 42) rfl (by decide) rfl ?_
          refine zr_iload C d_B_bindCall_42 (n := 44) rfl rfl ?_
          refine zr_iconst C d_B_bindCall_44 (n := 45) rfl (v := -1) (by decide) ?_
          refine zr_icmp_eq C d_B_bindCall_45 (n := 48) rfl (t := 70) (by decide) (fun c2 => ?_) (fun c2 => ?_)
          · exact absurd c2 (zk_nm1 (by omega))
          · refine zr_aload_n C d_B_bindCall_48 (n := 49) rfl rfl ?_
            refine zr_getN C f_B_90 d_B_bindCall_49 (n := 52) rfl ho rfl ?_
            refine zr_iload C d_B_bindCall_52 (n := 54) rfl rfl ?_
            refine zr_ialdN C d_B_bindCall_54 (n := 55) rfl a6 rfl (by omega) (by decide) ?_
            refine zr_bipush C d_B_bindCall_55 (n := 57) rfl (v := nI 8) (by decide) ?_
            refine zr_iand C d_B_bindCall_57 (n := 58) rfl ?_
            refine zr_if_ne C d_B_bindCall_58 (n := 61) rfl (t := 70) (by decide) (fun c3 => ?_) (fun c3 => ?_)
            · replace c3 := zb_nzt c3
              refine zr_iinc C d_B_bindCall_70 (n := 73) rfl rfl (w := 1) (by decide) (nI_1 pp) (by decide) rfl ?_
              refine zr_goto C d_B_bindCall_73 (t := 19) (by decide) ?_
              refine zr_drop 5 ?_
              exact ih (pp + 1) hla (by omega) (by rw [zb_cL_h (by rw [e]; exact zb_pl_s (by omega)) c3] at hK; exact hK)
            · replace c3 := zb_nzf c3
              refine zr_aload_n C d_B_bindCall_61 (n := 62) rfl rfl ?_
              refine zr_aload_n C d_B_bindCall_62 (n := 63) rfl rfl ?_
              refine zr_aload_n C d_B_bindCall_63 (n := 64) rfl rfl ?_
              refine zr_iload C d_B_bindCall_64 (n := 66) rfl rfl ?_
              refine zr_callV3 C k_B_93 d_B_bindCall_66 (nx := 69) rfl hB rfl ⟨by decide, by decide⟩ (Nat.le_of_ble_eq_true rfl) ⟨by decide, by decide⟩ (sp_B_bindMethod l hB hU hO hiu hio ht hk hj ?_)
              exact zr_iret C d_B_bindCall_69 rfl (by rw [zb_cL_y (by rw [e]; exact zb_pl_s (by omega)) c3] at hK; exact hK) (Nat.zero_le _) (Nat.zero_le _)
  refine zr_aload_n C d_B_bindCall_0 (n := 1) rfl rfl ?_
  refine zr_getN C f_B_83 d_B_bindCall_1 (n := 4) rfl hU rfl ?_
  refine zr_if_ne C d_B_bindCall_4 (n := 7) rfl (t := 11) (by decide) (fun c1 => ?_) (fun c1 => ?_)
  · refine zr_iconst C d_B_bindCall_11 (n := 12) rfl (v := nI 3) (by decide) ?_
    refine zr_istore_n C d_B_bindCall_12 (n := 13) rfl (by decide) rfl ?_
    refine zr_aload_n C d_B_bindCall_13 (n := 14) rfl rfl ?_
    refine zr_getN C f_B_83 d_B_bindCall_14 (n := 17) rfl hU rfl ?_
    refine zr_istore C d_B_bindCall_17 (n := 19) rfl (by decide) rfl ?_
    exact L 3 (4 - ag) ag (by omega) (by have := ha; have : ¬ ag = 0 := fun q => c1 (by rw [q]; rfl); omega) (by rw [zb_cc, if_neg (fun q => c1 (by rw [q]; rfl))] at hK; exact hK)
  · refine zr_iconst C d_B_bindCall_7 (n := 8) rfl (v := nI 0) (by decide) ?_
    refine zr_goto C d_B_bindCall_8 (t := 12) (by decide) ?_
    refine zr_istore_n C d_B_bindCall_12 (n := 13) rfl (by decide) rfl ?_
    refine zr_aload_n C d_B_bindCall_13 (n := 14) rfl rfl ?_
    refine zr_getN C f_B_83 d_B_bindCall_14 (n := 17) rfl hU rfl ?_
    refine zr_istore C d_B_bindCall_17 (n := 19) rfl (by decide) rfl ?_
    have z0 : ag = 0 := zk_eq (by omega) (by omega) (c1.trans nI_0.symm)
    subst z0
    exact L 0 1 0 (by omega) rfl (by rw [zb_cc, if_pos rfl] at hK; exact hK)
abbrev rm_B_bindOverride : Room := { frames := 3, cells := 0, slots := 0, locals := 72 }
set_option maxHeartbeats 4000000 in
set_option maxRecDepth 100000 in
/-- bindOverride -/
theorem sp_B_bindOverride (l : Launch) {h : zk_H} {i u o : Nat} {B : Nat → Int32} {k t nm : Nat} {ag : Nat} {O : zo_O} (hB : h[i]? = some (zb_c B)) (hU : h[u]? = some (zu_c k t nm (nI ag))) (hO : zo_at h o O) (hw : zo_wf O) (hiu : i ≠ u) (hio : i < o ∨ o + 8 < i) (ht : t < 6) (hnm : nm < 3) (ha : ag < 4) {K : Option Value → zk_H → Prop} (hK : K (some (.int (zb_o O t B (zb_pl (zo_fm O t nm ag (-1)))).1)) (h.set i (zb_c (zb_o O t B (zb_pl (zo_fm O t nm ag (-1)))).2))) : zk_S l y_B_bindOverride b_B_bindOverride 4 (some .int) rm_B_bindOverride [.ref (i + 1), .ref (u + 1), .ref (o + 1)] h K := by
  obtain ⟨ho, a0, a1, a2, a3, a4, a5, a6, a7⟩ := id hO
  refine zk_S_of R_B "bindOverride" (by decide) rfl rfl [some (.ref (i + 1)), some (.ref (u + 1)), some (.ref (o + 1)), none] 1 rfl (Nat.le_of_ble_eq_true rfl) (fun p e s m ar below meth c D dA b base C => ?_)
  rcases zo_fm_pl hw ht hnm ha (an := -1) with e | ⟨j, hj, e, hjp⟩
  · refine zr_aload_n C d_B_bindOverride_0 (n := 1) rfl rfl ?_
    refine zr_aload_n C d_B_bindOverride_1 (n := 2) rfl rfl ?_
    refine zr_getN C f_B_15 d_B_bindOverride_2 (n := 5) rfl hU rfl ?_
    refine zr_callV1 C k_B_52 d_B_bindOverride_5 (nx := 8) rfl ho rfl ⟨by decide, by decide⟩ (Nat.le_of_ble_eq_true rfl) ⟨by decide, by decide⟩ (sp_O_isFinal l hO ht ?_)
    refine zr_if_eq C d_B_bindOverride_8 (n := 11) rfl (t := 14) (by decide) (fun c1 => ?_) (fun c1 => ?_)
    · replace c1 := zk_bz c1
      refine zr_aload_n C d_B_bindOverride_14 (n := 15) rfl rfl ?_
      refine zr_aload_n C d_B_bindOverride_15 (n := 16) rfl rfl ?_
      refine zr_getN C f_B_15 d_B_bindOverride_16 (n := 19) rfl hU rfl ?_
      refine zr_aload_n C d_B_bindOverride_19 (n := 20) rfl rfl ?_
      refine zr_getN C f_B_58 d_B_bindOverride_20 (n := 23) rfl hU rfl ?_
      refine zr_aload_n C d_B_bindOverride_23 (n := 24) rfl rfl ?_
      refine zr_getN C f_B_83 d_B_bindOverride_24 (n := 27) rfl hU rfl ?_
      refine zr_iconst C d_B_bindOverride_27 (n := 28) rfl (v := -1) (by decide) ?_
      refine zr_callV4 C k_B_86 d_B_bindOverride_28 (nx := 31) rfl ho rfl ⟨by decide, by decide⟩ (Nat.le_of_ble_eq_true rfl) ⟨by decide, by decide⟩ (sp_O_findMethod l hO hw ht hnm ha ?_)
      refine zr_toe (y := -1) e ?_
      refine zr_istore_n C d_B_bindOverride_31 (n := 32) rfl (by decide) rfl ?_
      refine zr_iload_n C d_B_bindOverride_32 (n := 33) rfl rfl ?_
      refine zr_iconst C d_B_bindOverride_33 (n := 34) rfl (v := -1) (by decide) ?_
      refine zr_icmp_eq C d_B_bindOverride_34 (n := 37) rfl (t := 49) (by decide) (fun c2 => ?_) (fun c2 => ?_)
      · refine zr_bipush C d_B_bindOverride_49 (n := 51) rfl (v := -4) (by decide) ?_
        rw [e, zb_pl_n, zb_o_n c1] at hK
        have hK : K (some (.int (-4))) (h.set i (zb_c B)) := hK
        rw [zk_ss hB] at hK
        exact zr_iret C d_B_bindOverride_51 rfl hK (Nat.zero_le _) (Nat.zero_le _)
      · exact absurd rfl c2
    · replace c1 := zk_bn c1
      refine zr_bipush C d_B_bindOverride_11 (n := 13) rfl (v := -5) (by decide) ?_
      rw [zb_o_x c1] at hK
      have hK : K (some (.int (-5))) (h.set i (zb_c B)) := hK
      rw [zk_ss hB] at hK
      exact zr_iret C d_B_bindOverride_13 rfl hK (Nat.zero_le _) (Nat.zero_le _)
  · refine zr_aload_n C d_B_bindOverride_0 (n := 1) rfl rfl ?_
    refine zr_aload_n C d_B_bindOverride_1 (n := 2) rfl rfl ?_
    refine zr_getN C f_B_15 d_B_bindOverride_2 (n := 5) rfl hU rfl ?_
    refine zr_callV1 C k_B_52 d_B_bindOverride_5 (nx := 8) rfl ho rfl ⟨by decide, by decide⟩ (Nat.le_of_ble_eq_true rfl) ⟨by decide, by decide⟩ (sp_O_isFinal l hO ht ?_)
    refine zr_if_eq C d_B_bindOverride_8 (n := 11) rfl (t := 14) (by decide) (fun c1 => ?_) (fun c1 => ?_)
    · replace c1 := zk_bz c1
      refine zr_aload_n C d_B_bindOverride_14 (n := 15) rfl rfl ?_
      refine zr_aload_n C d_B_bindOverride_15 (n := 16) rfl rfl ?_
      refine zr_getN C f_B_15 d_B_bindOverride_16 (n := 19) rfl hU rfl ?_
      refine zr_aload_n C d_B_bindOverride_19 (n := 20) rfl rfl ?_
      refine zr_getN C f_B_58 d_B_bindOverride_20 (n := 23) rfl hU rfl ?_
      refine zr_aload_n C d_B_bindOverride_23 (n := 24) rfl rfl ?_
      refine zr_getN C f_B_83 d_B_bindOverride_24 (n := 27) rfl hU rfl ?_
      refine zr_iconst C d_B_bindOverride_27 (n := 28) rfl (v := -1) (by decide) ?_
      refine zr_callV4 C k_B_86 d_B_bindOverride_28 (nx := 31) rfl ho rfl ⟨by decide, by decide⟩ (Nat.le_of_ble_eq_true rfl) ⟨by decide, by decide⟩ (sp_O_findMethod l hO hw ht hnm ha ?_)
      refine zr_toe (y := nI j) e ?_
      refine zr_istore_n C d_B_bindOverride_31 (n := 32) rfl (by decide) rfl ?_
      refine zr_iload_n C d_B_bindOverride_32 (n := 33) rfl rfl ?_
      refine zr_iconst C d_B_bindOverride_33 (n := 34) rfl (v := -1) (by decide) ?_
      refine zr_icmp_eq C d_B_bindOverride_34 (n := 37) rfl (t := 49) (by decide) (fun c2 => ?_) (fun c2 => ?_)
      · exact absurd c2 (zk_nm1 (by omega))
      · refine zr_aload_n C d_B_bindOverride_37 (n := 38) rfl rfl ?_
        refine zr_getN C f_B_90 d_B_bindOverride_38 (n := 41) rfl ho rfl ?_
        refine zr_iload_n C d_B_bindOverride_41 (n := 42) rfl rfl ?_
        refine zr_ialdN C d_B_bindOverride_42 (n := 43) rfl a6 rfl (by omega) (by decide) ?_
        refine zr_bipush C d_B_bindOverride_43 (n := 45) rfl (v := nI 8) (by decide) ?_
        refine zr_iand C d_B_bindOverride_45 (n := 46) rfl ?_
        refine zr_if_eq C d_B_bindOverride_46 (n := 49) rfl (t := 52) (by decide) (fun c3 => ?_) (fun c3 => ?_)
        · replace c3 := zb_nzf c3
          refine zr_aload_n C d_B_bindOverride_52 (n := 53) rfl rfl ?_
          refine zr_getN C f_B_90 d_B_bindOverride_53 (n := 56) rfl ho rfl ?_
          refine zr_iload_n C d_B_bindOverride_56 (n := 57) rfl rfl ?_
          refine zr_ialdN C d_B_bindOverride_57 (n := 58) rfl a6 rfl (by omega) (by decide) ?_
          refine zr_iconst C d_B_bindOverride_58 (n := 59) rfl (v := nI 5) (by decide) ?_
          refine zr_iand C d_B_bindOverride_59 (n := 60) rfl ?_
          refine zr_if_eq C d_B_bindOverride_60 (n := 63) rfl (t := 66) (by decide) (fun c4 => ?_) (fun c4 => ?_)
          · replace c4 := zb_nzf c4
            refine zr_aload_n C d_B_bindOverride_66 (n := 67) rfl rfl ?_
            refine zr_aload_n C d_B_bindOverride_67 (n := 68) rfl rfl ?_
            refine zr_getN C f_B_100 d_B_bindOverride_68 (n := 71) rfl ho rfl ?_
            refine zr_iload_n C d_B_bindOverride_71 (n := 72) rfl rfl ?_
            refine zr_ialdN C d_B_bindOverride_72 (n := 73) rfl a7 rfl (by omega) (by decide) ?_
            refine zr_put C f_B_103 Y_B rfl rfl d_B_bindOverride_73 (n := 76) rfl hB (Nat.le_of_ble_eq_true rfl) (fun _ _ => rfl) (fun _ _ => rfl) ?_
            refine zr_iconst C d_B_bindOverride_76 (n := 77) rfl (v := nI 0) (by decide) ?_
            rw [e, zb_pl_s (by omega)] at hK
            rw [zb_o_y c1 c3, if_neg (by rw [c4]; decide)] at hK
            exact zr_iret C d_B_bindOverride_77 rfl hK (Nat.zero_le _) (Nat.zero_le _)
          · replace c4 := zb_nzt c4
            refine zr_bipush C d_B_bindOverride_63 (n := 65) rfl (v := -5) (by decide) ?_
            rw [e, zb_pl_s (by omega)] at hK
            rw [zb_o_y c1 c3, if_pos c4] at hK
            have hK : K (some (.int (-5))) (h.set i (zb_c B)) := hK
            rw [zk_ss hB] at hK
            exact zr_iret C d_B_bindOverride_65 rfl hK (Nat.zero_le _) (Nat.zero_le _)
        · replace c3 := zb_nzt c3
          refine zr_bipush C d_B_bindOverride_49 (n := 51) rfl (v := -4) (by decide) ?_
          rw [e, zb_pl_s (by omega)] at hK
          rw [zb_o_h c1 c3] at hK
          have hK : K (some (.int (-4))) (h.set i (zb_c B)) := hK
          rw [zk_ss hB] at hK
          exact zr_iret C d_B_bindOverride_51 rfl hK (Nat.zero_le _) (Nat.zero_le _)
    · replace c1 := zk_bn c1
      refine zr_bipush C d_B_bindOverride_11 (n := 13) rfl (v := -5) (by decide) ?_
      rw [zb_o_x c1] at hK
      have hK : K (some (.int (-5))) (h.set i (zb_c B)) := hK
      rw [zk_ss hB] at hK
      exact zr_iret C d_B_bindOverride_13 rfl hK (Nat.zero_le _) (Nat.zero_le _)
abbrev rm_B_bind : Room := { frames := 10, cells := 0, slots := 0, locals := 266 }
set_option maxHeartbeats 4000000 in
set_option maxRecDepth 100000 in
/-- bind -/
theorem sp_B_bind (l : Launch) {h : zk_H} {i u o : Nat} {B : Nat → Int32} {k t nm : Nat} {ag : Nat} {a : Int32} {O : zo_O} (hB : h[i]? = some (zb_c B)) (hU : h[u]? = some (zu_c k t nm a)) (hO : zo_at h o O) (hw : zo_wf O) (hiu : i ≠ u) (hio : i < o ∨ o + 8 < i) (ht : t < 6) (hk : k < 7) (hnm : nm < 4) (hm : k = 2 ∨ k = 3 ∨ k = 6 → nm < 3 ∧ a = nI ag ∧ ag < 4) {K : Option Value → zk_H → Prop} (hK : K none (h.set i (zb_c (zb_bind O k t nm ag B)))) : zk_S l y_B_bind b_B_bind 3 none rm_B_bind [.ref (i + 1), .ref (u + 1), .ref (o + 1)] h K := by
  obtain ⟨ho, a0, a1, a2, a3, a4, a5, a6, a7⟩ := id hO
  refine zk_S_of R_B "bind" (by decide) rfl rfl [some (.ref (i + 1)), some (.ref (u + 1)), some (.ref (o + 1))] 0 rfl (Nat.le_of_ble_eq_true rfl) (fun p e s m ar below meth c D dA b base C => ?_)
  refine zr_aload_n C d_B_bind_0 (n := 1) rfl rfl ?_
  refine zr_iconst C d_B_bind_1 (n := 2) rfl (v := nI 0) (by decide) ?_
  refine zr_put C f_B_9 Y_B rfl rfl d_B_bind_2 (n := 5) rfl hB (Nat.le_of_ble_eq_true rfl) (fun _ _ => zk_nb false) (fun _ _ => zk_fb false) ?_
  refine zr_aload_n C d_B_bind_5 (n := 6) rfl rfl ?_
  refine zr_aload_n C d_B_bind_6 (n := 7) rfl rfl ?_
  refine zr_aload_n C d_B_bind_7 (n := 8) rfl rfl ?_
  refine zr_getN C f_B_15 d_B_bind_8 (n := 11) rfl (zk_g1 (by omega) hU) rfl ?_
  refine zr_callV1 C k_B_21 d_B_bind_11 (nx := 14) rfl (zk_g1 (by omega) ho) rfl ⟨by decide, by decide⟩ (Nat.le_of_ble_eq_true rfl) ⟨by decide, by decide⟩ (sp_O_isInterface l (zo_at_set hO hio) ht ?_)
  refine zr_put C f_B_27 Y_B rfl rfl d_B_bind_14 (n := 17) rfl (zk_g0 hB) (Nat.le_of_ble_eq_true rfl) (fun _ _ => zk_nb _) (fun _ _ => zk_fb _) ?_
  rw [zk_sset]
  refine zr_aload_n C d_B_bind_17 (n := 18) rfl rfl ?_
  refine zr_aload_n C d_B_bind_18 (n := 19) rfl rfl ?_
  refine zr_getN C f_B_15 d_B_bind_19 (n := 22) rfl (zk_g1 (by omega) hU) rfl ?_
  refine zr_callV1 C k_B_30 d_B_bind_22 (nx := 25) rfl (zk_g1 (by omega) ho) rfl ⟨by decide, by decide⟩ (Nat.le_of_ble_eq_true rfl) ⟨by decide, by decide⟩ (sp_O_isThere l (zo_at_set hO hio) ht ?_)
  refine zr_if_eq C d_B_bind_25 (n := 28) rfl (t := 39) (by decide) (fun c1 => ?_) (fun c1 => ?_)
  · replace c1 := zk_bz c1
    refine zr_aload_n C d_B_bind_39 (n := 40) rfl rfl ?_
    refine zr_bipush C d_B_bind_40 (n := 42) rfl (v := -3) (by decide) ?_
    refine zr_put C f_B_36 Y_B rfl rfl d_B_bind_42 (n := 45) rfl (zk_g0 hB) (Nat.le_of_ble_eq_true rfl) (fun _ _ => rfl) (fun _ _ => rfl) ?_
    rw [zk_sset]
    exact zr_vret C d_B_bind_45 (by rw [zb_bind_no (by simp [c1])] at hK; exact hK) (Nat.zero_le _) (Nat.zero_le _)
  · replace c1 := zk_bn c1
    refine zr_aload_n C d_B_bind_28 (n := 29) rfl rfl ?_
    refine zr_aload_n C d_B_bind_29 (n := 30) rfl rfl ?_
    refine zr_getN C f_B_15 d_B_bind_30 (n := 33) rfl (zk_g1 (by omega) hU) rfl ?_
    refine zr_callV1 C k_B_33 d_B_bind_33 (nx := 36) rfl (zk_g1 (by omega) ho) rfl ⟨by decide, by decide⟩ (Nat.le_of_ble_eq_true rfl) ⟨by decide, by decide⟩ (sp_O_isHidden l (zo_at_set hO hio) ht ?_)
    refine zr_if_eq C d_B_bind_36 (n := 39) rfl (t := 46) (by decide) (fun c2 => ?_) (fun c2 => ?_)
    · replace c2 := zk_bz c2
      refine zr_aload_n C d_B_bind_46 (n := 47) rfl rfl ?_
      refine zr_getN C f_B_39 d_B_bind_47 (n := 50) rfl (zk_g1 (by omega) hU) rfl ?_
      have hsw : k = 0 ∨ k = 1 ∨ k = 2 ∨ k = 3 ∨ k = 4 ∨ k = 5 ∨ k = 6 := by omega
      rcases hsw with rfl | rfl | rfl | rfl | rfl | rfl | rfl
      · refine zr_tableIn C d_B_bind_50 (by decide) (by decide) (off := 38) (by decide) (t := 88) (by decide) ?_
        refine zr_aload_n C d_B_bind_88 (n := 89) rfl rfl ?_
        refine zr_aload_n C d_B_bind_89 (n := 90) rfl rfl ?_
        refine zr_aload_n C d_B_bind_90 (n := 91) rfl rfl ?_
        refine zr_aload_n C d_B_bind_91 (n := 92) rfl rfl ?_
        refine zr_callV2 C k_B_42 d_B_bind_92 (nx := 95) rfl (zk_g0 hB) rfl ⟨by decide, by decide⟩ (Nat.le_of_ble_eq_true rfl) ⟨by decide, by decide⟩ (sp_B_bindField l (B := zb_b1 O t B) (zk_g0 hB) (zk_g1 hiu hU) (zo_at_set hO hio) hw hiu hio ht (by decide) hnm ?_)
        rw [zk_sset]
        refine zr_put C f_B_36 Y_B rfl rfl d_B_bind_95 (n := 98) rfl (zk_g0 hB) (Nat.le_of_ble_eq_true rfl) (fun _ _ => rfl) (fun _ _ => rfl) ?_
        rw [zk_sset]
        refine zr_goto C d_B_bind_98 (t := 172) (by decide) ?_
        exact zr_vret C d_B_bind_172 (by rw [zb_bind_ok ⟨c1, c2⟩] at hK; exact hK) (Nat.zero_le _) (Nat.zero_le _)
      · refine zr_tableIn C d_B_bind_50 (by decide) (by decide) (off := 38) (by decide) (t := 88) (by decide) ?_
        refine zr_aload_n C d_B_bind_88 (n := 89) rfl rfl ?_
        refine zr_aload_n C d_B_bind_89 (n := 90) rfl rfl ?_
        refine zr_aload_n C d_B_bind_90 (n := 91) rfl rfl ?_
        refine zr_aload_n C d_B_bind_91 (n := 92) rfl rfl ?_
        refine zr_callV2 C k_B_42 d_B_bind_92 (nx := 95) rfl (zk_g0 hB) rfl ⟨by decide, by decide⟩ (Nat.le_of_ble_eq_true rfl) ⟨by decide, by decide⟩ (sp_B_bindField l (B := zb_b1 O t B) (zk_g0 hB) (zk_g1 hiu hU) (zo_at_set hO hio) hw hiu hio ht (by decide) hnm ?_)
        rw [zk_sset]
        refine zr_put C f_B_36 Y_B rfl rfl d_B_bind_95 (n := 98) rfl (zk_g0 hB) (Nat.le_of_ble_eq_true rfl) (fun _ _ => rfl) (fun _ _ => rfl) ?_
        rw [zk_sset]
        refine zr_goto C d_B_bind_98 (t := 172) (by decide) ?_
        exact zr_vret C d_B_bind_172 (by rw [zb_bind_ok ⟨c1, c2⟩] at hK; exact hK) (Nat.zero_le _) (Nat.zero_le _)
      · refine zr_tableIn C d_B_bind_50 (by decide) (by decide) (off := 51) (by decide) (t := 101) (by decide) ?_
        have hm := hm (by decide)
        rw [hm.2.1] at hU
        refine zr_aload_n C d_B_bind_101 (n := 102) rfl rfl ?_
        refine zr_aload_n C d_B_bind_102 (n := 103) rfl rfl ?_
        refine zr_aload_n C d_B_bind_103 (n := 104) rfl rfl ?_
        refine zr_aload_n C d_B_bind_104 (n := 105) rfl rfl ?_
        refine zr_callV2 C k_B_46 d_B_bind_105 (nx := 108) rfl (zk_g0 hB) rfl ⟨by decide, by decide⟩ (Nat.le_of_ble_eq_true rfl) ⟨by decide, by decide⟩ (sp_B_bindCall l (B := zb_b1 O t B) (zk_g0 hB) (zk_g1 hiu hU) (zo_at_set hO hio) hw hiu hio ht (by decide) hm.1 hm.2.2 ?_)
        rw [zk_sset]
        refine zr_put C f_B_36 Y_B rfl rfl d_B_bind_108 (n := 111) rfl (zk_g0 hB) (Nat.le_of_ble_eq_true rfl) (fun _ _ => rfl) (fun _ _ => rfl) ?_
        rw [zk_sset]
        refine zr_goto C d_B_bind_111 (t := 172) (by decide) ?_
        exact zr_vret C d_B_bind_172 (by rw [zb_bind_ok ⟨c1, c2⟩] at hK; exact hK) (Nat.zero_le _) (Nat.zero_le _)
      · refine zr_tableIn C d_B_bind_50 (by decide) (by decide) (off := 51) (by decide) (t := 101) (by decide) ?_
        have hm := hm (by decide)
        rw [hm.2.1] at hU
        refine zr_aload_n C d_B_bind_101 (n := 102) rfl rfl ?_
        refine zr_aload_n C d_B_bind_102 (n := 103) rfl rfl ?_
        refine zr_aload_n C d_B_bind_103 (n := 104) rfl rfl ?_
        refine zr_aload_n C d_B_bind_104 (n := 105) rfl rfl ?_
        refine zr_callV2 C k_B_46 d_B_bind_105 (nx := 108) rfl (zk_g0 hB) rfl ⟨by decide, by decide⟩ (Nat.le_of_ble_eq_true rfl) ⟨by decide, by decide⟩ (sp_B_bindCall l (B := zb_b1 O t B) (zk_g0 hB) (zk_g1 hiu hU) (zo_at_set hO hio) hw hiu hio ht (by decide) hm.1 hm.2.2 ?_)
        rw [zk_sset]
        refine zr_put C f_B_36 Y_B rfl rfl d_B_bind_108 (n := 111) rfl (zk_g0 hB) (Nat.le_of_ble_eq_true rfl) (fun _ _ => rfl) (fun _ _ => rfl) ?_
        rw [zk_sset]
        refine zr_goto C d_B_bind_111 (t := 172) (by decide) ?_
        exact zr_vret C d_B_bind_172 (by rw [zb_bind_ok ⟨c1, c2⟩] at hK; exact hK) (Nat.zero_le _) (Nat.zero_le _)
      · refine zr_tableIn C d_B_bind_50 (by decide) (by decide) (off := 64) (by decide) (t := 114) (by decide) ?_
        refine zr_aload_n C d_B_bind_114 (n := 115) rfl rfl ?_
        refine zr_aload_n C d_B_bind_115 (n := 116) rfl rfl ?_
        refine zr_aload_n C d_B_bind_116 (n := 117) rfl rfl ?_
        refine zr_getN C f_B_15 d_B_bind_117 (n := 120) rfl (zk_g1 (by omega) hU) rfl ?_
        refine zr_callV1 C k_B_49 d_B_bind_120 (nx := 123) rfl (zk_g1 (by omega) ho) rfl ⟨by decide, by decide⟩ (Nat.le_of_ble_eq_true rfl) ⟨by decide, by decide⟩ (sp_O_isAbstract l (zo_at_set hO hio) ht ?_)
        refine zr_if_eq C d_B_bind_123 (n := 126) rfl (t := 131) (by decide) (fun c3 => ?_) (fun c3 => ?_)
        · replace c3 := zk_bz c3
          refine zr_iconst C d_B_bind_131 (n := 132) rfl (v := nI 0) (by decide) ?_
          refine zr_put C f_B_36 Y_B rfl rfl d_B_bind_132 (n := 135) rfl (zk_g0 hB) (Nat.le_of_ble_eq_true rfl) (fun _ _ => rfl) (fun _ _ => rfl) ?_
          rw [zk_sset]
          refine zr_goto C d_B_bind_135 (t := 172) (by decide) ?_
          exact zr_vret C d_B_bind_172 (by rw [zb_bind_ok ⟨c1, c2⟩] at hK; simp only [zb_kd, zb_if, c3, if_true, if_false, reduceCtorEq] at hK; exact hK) (Nat.zero_le _) (Nat.zero_le _)
        · replace c3 := zk_bn c3
          refine zr_bipush C d_B_bind_126 (n := 128) rfl (v := -5) (by decide) ?_
          refine zr_goto C d_B_bind_128 (t := 132) (by decide) ?_
          refine zr_put C f_B_36 Y_B rfl rfl d_B_bind_132 (n := 135) rfl (zk_g0 hB) (Nat.le_of_ble_eq_true rfl) (fun _ _ => rfl) (fun _ _ => rfl) ?_
          rw [zk_sset]
          refine zr_goto C d_B_bind_135 (t := 172) (by decide) ?_
          exact zr_vret C d_B_bind_172 (by rw [zb_bind_ok ⟨c1, c2⟩] at hK; simp only [zb_kd, zb_if, c3, if_true, if_false, reduceCtorEq] at hK; exact hK) (Nat.zero_le _) (Nat.zero_le _)
      · refine zr_tableIn C d_B_bind_50 (by decide) (by decide) (off := 88) (by decide) (t := 138) (by decide) ?_
        refine zr_aload_n C d_B_bind_138 (n := 139) rfl rfl ?_
        refine zr_aload_n C d_B_bind_139 (n := 140) rfl rfl ?_
        refine zr_aload_n C d_B_bind_140 (n := 141) rfl rfl ?_
        refine zr_getN C f_B_15 d_B_bind_141 (n := 144) rfl (zk_g1 (by omega) hU) rfl ?_
        refine zr_callV1 C k_B_52 d_B_bind_144 (nx := 147) rfl (zk_g1 (by omega) ho) rfl ⟨by decide, by decide⟩ (Nat.le_of_ble_eq_true rfl) ⟨by decide, by decide⟩ (sp_O_isFinal l (zo_at_set hO hio) ht ?_)
        refine zr_if_eq C d_B_bind_147 (n := 150) rfl (t := 155) (by decide) (fun c4 => ?_) (fun c4 => ?_)
        · replace c4 := zk_bz c4
          refine zr_iconst C d_B_bind_155 (n := 156) rfl (v := nI 0) (by decide) ?_
          refine zr_put C f_B_36 Y_B rfl rfl d_B_bind_156 (n := 159) rfl (zk_g0 hB) (Nat.le_of_ble_eq_true rfl) (fun _ _ => rfl) (fun _ _ => rfl) ?_
          rw [zk_sset]
          refine zr_goto C d_B_bind_159 (t := 172) (by decide) ?_
          exact zr_vret C d_B_bind_172 (by rw [zb_bind_ok ⟨c1, c2⟩] at hK; simp only [zb_kd, zb_if, c4, if_true, if_false, reduceCtorEq] at hK; exact hK) (Nat.zero_le _) (Nat.zero_le _)
        · replace c4 := zk_bn c4
          refine zr_bipush C d_B_bind_150 (n := 152) rfl (v := -5) (by decide) ?_
          refine zr_goto C d_B_bind_152 (t := 156) (by decide) ?_
          refine zr_put C f_B_36 Y_B rfl rfl d_B_bind_156 (n := 159) rfl (zk_g0 hB) (Nat.le_of_ble_eq_true rfl) (fun _ _ => rfl) (fun _ _ => rfl) ?_
          rw [zk_sset]
          refine zr_goto C d_B_bind_159 (t := 172) (by decide) ?_
          exact zr_vret C d_B_bind_172 (by rw [zb_bind_ok ⟨c1, c2⟩] at hK; simp only [zb_kd, zb_if, c4, if_true, if_false, reduceCtorEq] at hK; exact hK) (Nat.zero_le _) (Nat.zero_le _)
      · refine zr_tableOut C d_B_bind_50 (by decide) (t := 162) (by decide) ?_
        have hm := hm (by decide)
        rw [hm.2.1] at hU
        refine zr_aload_n C d_B_bind_162 (n := 163) rfl rfl ?_
        refine zr_aload_n C d_B_bind_163 (n := 164) rfl rfl ?_
        refine zr_aload_n C d_B_bind_164 (n := 165) rfl rfl ?_
        refine zr_aload_n C d_B_bind_165 (n := 166) rfl rfl ?_
        refine zr_callV2 C k_B_55 d_B_bind_166 (nx := 169) rfl (zk_g0 hB) rfl ⟨by decide, by decide⟩ (Nat.le_of_ble_eq_true rfl) ⟨by decide, by decide⟩ (sp_B_bindOverride l (B := zb_b1 O t B) (zk_g0 hB) (zk_g1 hiu hU) (zo_at_set hO hio) hw hiu hio ht hm.1 hm.2.2 ?_)
        rw [zk_sset]
        refine zr_put C f_B_36 Y_B rfl rfl d_B_bind_169 (n := 172) rfl (zk_g0 hB) (Nat.le_of_ble_eq_true rfl) (fun _ _ => rfl) (fun _ _ => rfl) ?_
        rw [zk_sset]
        exact zr_vret C d_B_bind_172 (by rw [zb_bind_ok ⟨c1, c2⟩] at hK; exact hK) (Nat.zero_le _) (Nat.zero_le _)
    · replace c2 := zk_bn c2
      refine zr_aload_n C d_B_bind_39 (n := 40) rfl rfl ?_
      refine zr_bipush C d_B_bind_40 (n := 42) rfl (v := -3) (by decide) ?_
      refine zr_put C f_B_36 Y_B rfl rfl d_B_bind_42 (n := 45) rfl (zk_g0 hB) (Nat.le_of_ble_eq_true rfl) (fun _ _ => rfl) (fun _ _ => rfl) ?_
      rw [zk_sset]
      exact zr_vret C d_B_bind_45 (by rw [zb_bind_no (by simp [c1, c2])] at hK; exact hK) (Nat.zero_le _) (Nat.zero_le _)
