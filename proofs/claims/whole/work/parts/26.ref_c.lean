theorem zb_up_len {x : Int32} : ∀ n i, (zb_up x n i).length ≤ n
  | 0, _ => Nat.le_refl 0
  | n + 1, i => by
    have h := zb_up_len (x := x) n (i + 1)
    unfold zb_up
    by_cases hb : zk_bit x i = true
    · rw [if_pos hb]; show _ + 1 ≤ _; omega
    · rw [if_neg hb]; omega
theorem zs_up_len (O : zo_O) (t : Nat) : (zs_up O t).length ≤ 1 := by
  unfold zs_up
  by_cases h : O 1 t = nI 6
  · rw [if_pos h]; exact Nat.zero_le _
  · rw [if_neg h]; exact Nat.le_refl _
theorem zs_m0 {l : List Nat} (h : zs_m l ≤ 0) : l = [] := by
  cases l with
  | nil => rfl
  | cons t r =>
    have h1 := zs_p1 t
    have h2 : zs_p t + zs_m r ≤ 0 := h
    omega
theorem zm_kind {V : Nat → zo_O} {S : zo_O} (hR : zm_R V S) (hok : ∀ v, v < 2 → zo_ok (V v)) {v : Nat} (hv : v < 2) {j : Nat} (hj : j < 24) : (S 4 (24 * v + j) < 0 ↔ V v 3 j = -1) ∧ (¬ V v 3 j = -1 → S 4 (24 * v + j) = V v 4 j) := by
  obtain ⟨h1, h2⟩ := (hR v hv).2.1 j hj
  refine ⟨⟨fun q => Classical.byContradiction fun n => ?_, fun q => by rw [h1 q]; decide⟩, fun n => (h2 n).1⟩
  have q2 := q
  rw [(h2 n).1] at q2
  rcases ((hok v hv).2.2.1 j hj n).1 with e | e
  · rw [e] at q2; exact nI_pos (by omega) q2
  · rw [e] at q2; exact nI_pos (by omega) q2
theorem zs_p6 : ∀ t, t < 6 → zs_p t + 0 ≤ 144 := by decide
theorem zs_one (F : Nat → Int32) (t : Nat) : zs_R F [t] = F t := by
  show (if F t = -1 then -1 else F t) = F t
  by_cases h : F t = -1
  · rw [if_pos h, h]
  · rw [if_neg h]
abbrev rm_M_findField : Room := { frames := 0, cells := 0, slots := 0, locals := 0 }
set_option maxHeartbeats 4000000 in
set_option maxRecDepth 100000 in
/-- findField -/
theorem sp_M_findField (l : Launch) {h : zk_H} {V : Nat → zo_O} {S : zo_O} {us : Nat} (hM : zm_at h S us) (hR : zm_R V S) (hok : ∀ v, v < 2 → zo_ok (V v)) {v : Nat} (hv : v < 2) {t nm : Nat} (ht : t < 6) (hnm : nm < 4) (hth : zo_th (V v) t = true) {kd : Int32} (hkd : kd = -1 ∨ ¬ kd < 0) {K : Option Value → zk_H → Prop} (hK : ∀ f : Nat → Int32, K (some (.int (zm_p (24 * v) (zo_ff (V v) nm kd 6 t)))) (h.set 50 (.inl (0, 200, .inl f)))) : zk_S l y_M_findField b_M_findField 9 (some .int) rm_M_findField [.ref (38 + 1), .int (nI v), .int (nI t), .int (nI nm), .int kd] h K := by
  obtain ⟨hm, s0, s1, s2, s3, s4, s5, s6, s7, s8, s9, s10, s11⟩ := id hM
  refine zk_S_of R_M "findField" (by decide) rfl rfl [some (.ref (38 + 1)), some (.int (nI v)), some (.int (nI t)), some (.int (nI nm)), some (.int kd), none, none, none, none] 4 rfl (Nat.le_of_ble_eq_true rfl) (fun p e s m ar below meth c D dA b base C => ?_)
  have L : ∀ (q : Nat) (ls : List Nat) (f : Nat → Int32), zs_m ls ≤ q → zs_m ls ≤ 144 → zs_th (V v) ls → zs_st f ls → (∀ f : Nat → Int32, K (some (.int (zm_p (24 * v) (zs_R (fun i => zo_ff (V v) nm kd 6 i) ls)))) (h.set 50 (.inl (0, 200, .inl f)))) → zk_V p l e rm_M_findField s m ar below meth c 9 D dA b base (MQ below (zk_Q K D dA b base) ar s rm_M_findField.cells rm_M_findField.slots (fun q : Nat => base ≤ q)) 0 0 10 [some (.ref (38 + 1)), some (.int (nI v)), some (.int (nI t)), some (.int (nI nm)), some (.int kd), some (.int (nI ls.length)), none, none, none] [] (h.set 50 (.inl (0, 200, .inl f))) := by
    intro q
    induction q with
    | zero =>
      intro ls f hq h4 hl hs hK
      have e0 := zs_m0 hq
      subst e0
      refine zr_iload C d_M_findField_10 (n := 12) rfl rfl ?_
      refine zr_if_le C d_M_findField_12 (n := 15) rfl (t := 146) (by decide) (fun c1 => ?_) (fun c1 => ?_)
      · refine zr_iconst C d_M_findField_146 (n := 147) rfl (v := -1) (by decide) ?_
        exact zr_iret C d_M_findField_147 zm_p_n.symm (hK f) (Nat.zero_le _) (Nat.zero_le _)
      · exact absurd (by decide) c1
    | succ q ih =>
      intro ls f hq h4 hl hs hK
      cases ls with
      | nil =>
        refine zr_iload C d_M_findField_10 (n := 12) rfl rfl ?_
        refine zr_if_le C d_M_findField_12 (n := 15) rfl (t := 146) (by decide) (fun c1 => ?_) (fun c1 => ?_)
        · refine zr_iconst C d_M_findField_146 (n := 147) rfl (v := -1) (by decide) ?_
          exact zr_iret C d_M_findField_147 zm_p_n.symm (hK f) (Nat.zero_le _) (Nat.zero_le _)
        · exact absurd (by decide) c1
      | cons t1 r =>
        obtain ⟨ht1, hth1⟩ := hl t1 List.mem_cons_self
        have hc := zs_cost (hok v hv) ht1 hth1
        have hp1 := zs_p1 t1
        have hmr : zs_p t1 + zs_m r ≤ 144 := h4
        have hmq : zs_p t1 + zs_m r ≤ q + 1 := hq
        have hrl := zs_m_len r
        have hbl := zs_up_len (V v) t1
        have L2 : ¬ (¬ V v 3 (t1 * 4 + nm) = -1 ∧ (kd = -1 ∨ V v 4 (t1 * 4 + nm) = kd)) → ∀ (cn : Nat) (z : Int32) (f : Nat → Int32), z = nI cn + (-1) → cn ≤ 6 → zs_st f (zb_up (V v 2 t1) (6 - cn) cn ++ (zs_up (V v) t1 ++ r)) → zk_V p l e rm_M_findField s m ar below meth c 9 D dA b base (MQ below (zk_Q K D dA b base) ar s rm_M_findField.cells rm_M_findField.slots (fun q : Nat => base ≤ q)) 0 0 102 [some (.ref (38 + 1)), some (.int (nI v)), some (.int (nI t)), some (.int (nI nm)), some (.int kd), some (.int (nI (zb_up (V v 2 t1) (6 - cn) cn ++ (zs_up (V v) t1 ++ r)).length)), some (.int (nI (6 * v + t1))), some (.int (nI (24 * v + (t1 * 4 + nm)))), some (.int z)] [] (h.set 50 (.inl (0, 200, .inl f))) := by
          intro hown cn
          induction cn with
          | zero =>
            intro z f hz hc6 hst
            subst hz
            refine zr_iload C d_M_findField_102 (n := 104) rfl rfl ?_
            refine zr_if_lt C d_M_findField_104 (n := 107) rfl (t := 143) (by decide) (fun c1 => ?_) (fun c1 => ?_)
            · refine zr_goto C d_M_findField_143 (t := 10) (by decide) ?_
              have hc : zs_m (zb_up (V v 2 t1) (6 - 0) 0 ++ zs_up (V v) t1) < zs_p t1 := hc
              refine zr_drop 6 ?_
              refine zr_drop 7 ?_
              refine zr_drop 8 ?_
              refine ih _ f ?_ ?_ (zs_th_step (hok v hv) hl) hst ?_
              · rw [← List.append_assoc, zs_m_app]; omega
              · rw [← List.append_assoc, zs_m_app]; omega
              · intro f2
                have e9 : zs_R (fun i => zo_ff (V v) nm kd 6 i) (t1 :: r) = zs_R (fun i => zo_ff (V v) nm kd 6 i) (zb_up (V v 2 t1) (6 - 0) 0 ++ (zs_up (V v) t1 ++ r)) := by
                  rw [← List.append_assoc, zs_R_app, ← zs_step (hok v hv) ht1 hth1 hown]
                  rfl
                rw [← e9]
                exact hK f2
            · exact absurd (by decide) c1
          | succ cn ih2 =>
            intro z f hz hc6 hst
            rw [pk_sn] at hz
            subst hz
            have e6 : 6 - cn = (6 - (cn + 1)) + 1 := by omega
            refine zr_iload C d_M_findField_102 (n := 104) rfl rfl ?_
            refine zr_if_lt C d_M_findField_104 (n := 107) rfl (t := 143) (by decide) (fun c1 => ?_) (fun c1 => ?_)
            · exact absurd c1 (nI_pos (by omega))
            · refine zr_aload_n C d_M_findField_107 (n := 108) rfl rfl ?_
              refine zr_get C f_M_20 d_M_findField_108 (n := 111) rfl (zk_g1 (by omega) hm) rfl ?_
              refine zr_iload C d_M_findField_111 (n := 113) rfl rfl ?_
              refine zr_ialdN C d_M_findField_113 (n := 114) rfl (zk_g1 (by omega) s3) rfl (by omega) (by decide) ?_
              refine zr_toe (y := V v 2 t1) (((hR v hv).1 t1 (by omega)).2 hth1).2.2 ?_
              refine zr_iload C d_M_findField_114 (n := 116) rfl rfl ?_
              refine zr_ishr C d_M_findField_116 (n := 117) rfl ?_
              refine zr_iconst C d_M_findField_117 (n := 118) rfl (v := nI 1) (by decide) ?_
              refine zr_iand C d_M_findField_118 (n := 119) rfl ?_
              refine zr_if_ne C d_M_findField_119 (n := 122) rfl (t := 125) (by decide) (fun c2 => ?_) (fun c2 => ?_)
              · replace c2 := zk_bt1 c2
                refine zr_aload_n C d_M_findField_125 (n := 126) rfl rfl ?_
                refine zr_get C f_M_44 d_M_findField_126 (n := 129) rfl (zk_g1 (by omega) hm) rfl ?_
                refine zr_iload C d_M_findField_129 (n := 131) rfl rfl ?_
                refine zr_iload C d_M_findField_131 (n := 133) rfl rfl ?_
                refine zr_iastN C d_M_findField_133 (n := 134) rfl (zk_g0 s11) rfl (by rw [List.length_append, List.length_append]; have := zb_up_len (x := V v 2 t1) (6 - (cn + 1)) (cn + 1); omega) (by decide) ?_
                rw [zk_sset]
                refine zr_iinc C d_M_findField_134 (n := 137) rfl rfl (w := 1) (by decide) (nI_1 _) (by decide) rfl ?_
                refine zr_iinc C d_M_findField_137 (n := 140) rfl rfl (w := -1) (by decide) rfl (by decide) rfl ?_
                refine zr_goto C d_M_findField_140 (t := 102) (by decide) ?_
                have eP : (zb_up (V v 2 t1) (6 - cn) cn ++ (zs_up (V v) t1 ++ r)) = cn :: (zb_up (V v 2 t1) (6 - (cn + 1)) (cn + 1) ++ (zs_up (V v) t1 ++ r)) := by rw [e6, zb_up, if_pos c2]; rfl
                have hG := ih2 (nI cn + (-1)) (upd f (zb_up (V v 2 t1) (6 - (cn + 1)) (cn + 1) ++ (zs_up (V v) t1 ++ r)).length (nI cn)) rfl (by omega) (by rw [eP]; exact ⟨pk_us, zs_st_u _ (Nat.le_refl _) hst⟩)
                rw [eP] at hG
                exact hG
              · replace c2 := zk_bt0 c2
                refine zr_goto C d_M_findField_122 (t := 137) (by decide) ?_
                refine zr_iinc C d_M_findField_137 (n := 140) rfl rfl (w := -1) (by decide) rfl (by decide) rfl ?_
                refine zr_goto C d_M_findField_140 (t := 102) (by decide) ?_
                have eP : (zb_up (V v 2 t1) (6 - cn) cn ++ (zs_up (V v) t1 ++ r)) = zb_up (V v 2 t1) (6 - (cn + 1)) (cn + 1) ++ (zs_up (V v) t1 ++ r) := by rw [e6, zb_up, if_neg (by rw [c2]; decide)]
                have hG := ih2 (nI cn + (-1)) f rfl (by omega) (by rw [eP]; exact hst)
                rw [eP] at hG
                exact hG
        have J : ¬ (¬ V v 3 (t1 * 4 + nm) = -1 ∧ (kd = -1 ∨ V v 4 (t1 * 4 + nm) = kd)) → zk_V p l e rm_M_findField s m ar below meth c 9 D dA b base (MQ below (zk_Q K D dA b base) ar s rm_M_findField.cells rm_M_findField.slots (fun q : Nat => base ≤ q)) 0 0 70 [some (.ref (38 + 1)), some (.int (nI v)), some (.int (nI t)), some (.int (nI nm)), some (.int kd), some (.int (nI r.length)), some (.int (nI (6 * v + t1))), some (.int (nI (24 * v + (t1 * 4 + nm)))), none] [] (h.set 50 (.inl (0, 200, .inl f))) := by
          intro hown
          refine zr_aload_n C d_M_findField_70 (n := 71) rfl rfl ?_
          refine zr_get C f_M_17 d_M_findField_71 (n := 74) rfl (zk_g1 (by omega) hm) rfl ?_
          refine zr_iload C d_M_findField_74 (n := 76) rfl rfl ?_
          refine zr_ialdN C d_M_findField_76 (n := 77) rfl (zk_g1 (by omega) s2) rfl (by omega) (by decide) ?_
          refine zr_toe (y := V v 1 t1) (((hR v hv).1 t1 (by omega)).2 hth1).2.1 ?_
          refine zr_bipush C d_M_findField_77 (n := 79) rfl (v := nI 6) (by decide) ?_
          refine zr_icmp_ge C d_M_findField_79 (n := 82) rfl (t := 99) (by decide) (fun c1 => ?_) (fun c1 => ?_)
          · replace c1 := (zo_up6 (zo_ok_wf (hok v hv)) ht1).mp c1
            refine zr_iconst C d_M_findField_99 (n := 100) rfl (v := nI 5) (by decide) ?_
            refine zr_istore C d_M_findField_100 (n := 102) rfl (by decide) rfl ?_
            have eB : (zs_up (V v) t1 ++ r) = r := by unfold zs_up; rw [if_pos c1]; rfl
            have hG := L2 hown 6 _ f (pk_sn 5).symm (by omega) (by rw [eB]; exact hs.2)
            rw [eB] at hG
            exact hG
          · replace c1 : ¬ V v 1 t1 = nI 6 := fun q => c1 ((zo_up6 (zo_ok_wf (hok v hv)) ht1).mpr q)
            obtain ⟨s0, hs0, hs0e⟩ := (zo_ok_wf (hok v hv) t1 ht1).resolve_left c1
            refine zr_aload_n C d_M_findField_82 (n := 83) rfl rfl ?_
            refine zr_get C f_M_44 d_M_findField_83 (n := 86) rfl (zk_g1 (by omega) hm) rfl ?_
            refine zr_iload C d_M_findField_86 (n := 88) rfl rfl ?_
            refine zr_aload_n C d_M_findField_88 (n := 89) rfl rfl ?_
            refine zr_get C f_M_17 d_M_findField_89 (n := 92) rfl (zk_g1 (by omega) hm) rfl ?_
            refine zr_iload C d_M_findField_92 (n := 94) rfl rfl ?_
            refine zr_ialdN C d_M_findField_94 (n := 95) rfl (zk_g1 (by omega) s2) rfl (by omega) (by decide) ?_
            refine zr_toe (y := V v 1 t1) (((hR v hv).1 t1 (by omega)).2 hth1).2.1 ?_
            refine zr_iastN C d_M_findField_95 (n := 96) rfl (zk_g0 s11) rfl (by omega) (by decide) ?_
            rw [zk_sset]
            refine zr_iinc C d_M_findField_96 (n := 99) rfl rfl (w := 1) (by decide) (nI_1 _) (by decide) rfl ?_
            refine zr_iconst C d_M_findField_99 (n := 100) rfl (v := nI 5) (by decide) ?_
            refine zr_istore C d_M_findField_100 (n := 102) rfl (by decide) rfl ?_
            have eB : (zs_up (V v) t1 ++ r) = s0 :: r := by unfold zs_up; rw [if_neg c1, hs0e, nI_clamp (by omega)]; rfl
            have hG := L2 hown 6 _ (upd f r.length (V v 1 t1)) (pk_sn 5).symm (by omega) (by rw [eB]; exact ⟨by rw [hs0e]; exact pk_us, zs_st_u _ (Nat.le_refl _) hs.2⟩)
            rw [eB] at hG
            exact hG
        refine zr_iload C d_M_findField_10 (n := 12) rfl rfl ?_
        refine zr_if_le C d_M_findField_12 (n := 15) rfl (t := 146) (by decide) (fun c1 => ?_) (fun c1 => ?_)
        · exact absurd c1 (nI_nle (n := r.length + 1) (by omega) (by omega))
        · refine zr_iinc C d_M_findField_15 (n := 18) rfl rfl (w := -1) (by decide) (pk_m1 r.length) (by decide) rfl ?_
          refine zr_bipush C d_M_findField_18 (n := 20) rfl (v := nI 6) (by decide) ?_
          refine zr_iload_n C d_M_findField_20 (n := 21) rfl rfl ?_
          refine zr_imul C d_M_findField_21 (n := 22) rfl ?_
          refine zr_toe (by simp only [pk_mul, nI_add]; rfl) ?_
          refine zr_aload_n C d_M_findField_22 (n := 23) rfl rfl ?_
          refine zr_get C f_M_44 d_M_findField_23 (n := 26) rfl (zk_g1 (by omega) hm) rfl ?_
          refine zr_iload C d_M_findField_26 (n := 28) rfl rfl ?_
          refine zr_ialdN C d_M_findField_28 (n := 29) rfl (zk_g0 s11) rfl (by omega) (by decide) ?_
          refine zr_toe (y := nI t1) hs.1 ?_
          refine zr_iadd C d_M_findField_29 (n := 30) rfl ?_
          refine zr_toe (by simp only [pk_mul, nI_add]; rfl) ?_
          refine zr_istore C d_M_findField_30 (n := 32) rfl (by decide) rfl ?_
          refine zr_iconst C d_M_findField_32 (n := 33) rfl (v := nI 4) (by decide) ?_
          refine zr_iload C d_M_findField_33 (n := 35) rfl rfl ?_
          refine zr_imul C d_M_findField_35 (n := 36) rfl ?_
          refine zr_toe (by simp only [pk_mul, nI_add]; rfl) ?_
          refine zr_iload_n C d_M_findField_36 (n := 37) rfl rfl ?_
          refine zr_iadd C d_M_findField_37 (n := 38) rfl ?_
          refine zr_toe (by simp only [pk_mul, nI_add]; rfl) ?_
          refine zr_toe (y := nI (24 * v + (t1 * 4 + nm))) (congrArg nI (by omega)) ?_
          refine zr_istore C d_M_findField_38 (n := 40) rfl (by decide) rfl ?_
          refine zr_aload_n C d_M_findField_40 (n := 41) rfl rfl ?_
          refine zr_get C f_M_23 d_M_findField_41 (n := 44) rfl (zk_g1 (by omega) hm) rfl ?_
          refine zr_iload C d_M_findField_44 (n := 46) rfl rfl ?_
          refine zr_ialdN C d_M_findField_46 (n := 47) rfl (zk_g1 (by omega) s4) rfl (by omega) (by decide) ?_
          refine zr_if_lt C d_M_findField_47 (n := 50) rfl (t := 70) (by decide) (fun c2 => ?_) (fun c2 => ?_)
          · replace c2 := (zm_kind hR hok hv (j := t1 * 4 + nm) (by omega)).1.mp c2
            exact J (by simp [c2])
          · replace c2 : ¬ V v 3 (t1 * 4 + nm) = -1 := fun q => c2 ((zm_kind hR hok hv (j := t1 * 4 + nm) (by omega)).1.mpr q)
            refine zr_iload C d_M_findField_50 (n := 52) rfl rfl ?_
            refine zr_if_lt C d_M_findField_52 (n := 55) rfl (t := 67) (by decide) (fun c3 => ?_) (fun c3 => ?_)
            · replace c3 : kd = -1 := by rcases hkd with q | q; exact q; exact absurd c3 q
              refine zr_iload C d_M_findField_67 (n := 69) rfl rfl ?_
              have e9 : zo_ff (V v) nm kd 6 t1 = nI (t1 * 4 + nm) := zo_ff_own (by simp [c2, c3])
              have e8 : zs_R (fun i => zo_ff (V v) nm kd 6 i) (t1 :: r) = nI (t1 * 4 + nm) := by
                show (if zo_ff (V v) nm kd 6 t1 = -1 then _ else zo_ff (V v) nm kd 6 t1) = _
                rw [if_neg (by rw [e9]; exact zk_nm1 (by omega)), e9]
              exact zr_iret C d_M_findField_69 (by rw [e8, zm_p_s (by omega)]) (hK f) (Nat.zero_le _) (Nat.zero_le _)
            · replace c3 : ¬ kd = -1 := fun q => c3 (by rw [q]; decide)
              refine zr_aload_n C d_M_findField_55 (n := 56) rfl rfl ?_
              refine zr_get C f_M_23 d_M_findField_56 (n := 59) rfl (zk_g1 (by omega) hm) rfl ?_
              refine zr_iload C d_M_findField_59 (n := 61) rfl rfl ?_
              refine zr_ialdN C d_M_findField_61 (n := 62) rfl (zk_g1 (by omega) s4) rfl (by omega) (by decide) ?_
              refine zr_iload C d_M_findField_62 (n := 64) rfl rfl ?_
              refine zr_icmp_ne C d_M_findField_64 (n := 67) rfl (t := 70) (by decide) (fun c4 => ?_) (fun c4 => ?_)
              · rw [(zm_kind hR hok hv (j := t1 * 4 + nm) (by omega)).2 c2] at c4
                exact J (by simp [c2, c3, c4])
              · rw [(zm_kind hR hok hv (j := t1 * 4 + nm) (by omega)).2 c2] at c4
                refine zr_iload C d_M_findField_67 (n := 69) rfl rfl ?_
                have e9 : zo_ff (V v) nm kd 6 t1 = nI (t1 * 4 + nm) := zo_ff_own (by simp [c2, c3, c4])
                have e8 : zs_R (fun i => zo_ff (V v) nm kd 6 i) (t1 :: r) = nI (t1 * 4 + nm) := by
                  show (if zo_ff (V v) nm kd 6 t1 = -1 then _ else zo_ff (V v) nm kd 6 t1) = _
                  rw [if_neg (by rw [e9]; exact zk_nm1 (by omega)), e9]
                exact zr_iret C d_M_findField_69 (by rw [e8, zm_p_s (by omega)]) (hK f) (Nat.zero_le _) (Nat.zero_le _)
  refine zr_iconst C d_M_findField_0 (n := 1) rfl (v := nI 1) (by decide) ?_
  refine zr_istore C d_M_findField_1 (n := 3) rfl (by decide) rfl ?_
  refine zr_aload_n C d_M_findField_3 (n := 4) rfl rfl ?_
  refine zr_get C f_M_44 d_M_findField_4 (n := 7) rfl hm rfl ?_
  refine zr_iconst C d_M_findField_7 (n := 8) rfl (v := nI 0) (by decide) ?_
  refine zr_iload_n C d_M_findField_8 (n := 9) rfl rfl ?_
  refine zr_iastN C d_M_findField_9 (n := 10) rfl s11 (j := 0) rfl (by decide) (by decide) ?_
  exact L 144 [t] _ (by show zs_p t + 0 ≤ 144; exact zs_p6 t ht) (by show zs_p t + 0 ≤ 144; exact zs_p6 t ht) (fun j hj => by rw [List.mem_singleton.mp hj]; exact ⟨ht, hth⟩) ⟨pk_us, trivial⟩ (fun f => by rw [show zs_R (fun i => zo_ff (V v) nm kd 6 i) [t] = zo_ff (V v) nm kd 6 t from zs_one _ _]; exact hK f)
