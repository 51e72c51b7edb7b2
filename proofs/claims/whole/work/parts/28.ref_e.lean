abbrev rm_M_bindMethod : Room := { frames := 0, cells := 0, slots := 0, locals := 0 }
set_option maxHeartbeats 4000000 in
set_option maxRecDepth 100000 in
/-- bindMethod -/
theorem sp_M_bindMethod (l : Launch) {h : zk_H} {V : Nat → zo_O} {S : zo_O} {us : Nat} (hM : zm_at h S us) (hR : zm_R V S) (hok : ∀ v, v < 2 → zo_ok (V v)) {v : Nat} (hv : v < 2) {j pa : Nat} (hj : j < 72) (hne : ¬ V v 6 j = -1) {K : Option Value → zk_H → Prop} (hK : K (some (.int (nI 0))) (h.set 49 (.inl (0, 14, .inl (upd (upd (upd (S 10) (7 * v + 1) (nI pa)) (7 * v + 2) (V v 7 j)) (7 * v + 6) (nI (j / 12))))))) : zk_S l y_M_bindMethod b_M_bindMethod 5 (some .int) rm_M_bindMethod [.ref (38 + 1), .int (nI v), .int (nI (72 * v + j)), .int (nI pa)] h K := by
  obtain ⟨hm, s0, s1, s2, s3, s4, s5, s6, s7, s8, s9, s10, s11⟩ := id hM
  refine zk_S_of R_M "bindMethod" (by decide) rfl rfl [some (.ref (38 + 1)), some (.int (nI v)), some (.int (nI (72 * v + j))), some (.int (nI pa)), none] 1 rfl (Nat.le_of_ble_eq_true rfl) (fun p e s m ar below meth c D dA b base C => ?_)
  refine zr_bipush C d_M_bindMethod_0 (n := 2) rfl (v := nI 7) (by decide) ?_
  refine zr_iload_n C d_M_bindMethod_2 (n := 3) rfl rfl ?_
  refine zr_imul C d_M_bindMethod_3 (n := 4) rfl ?_
  refine zr_toe (by simp only [pk_mul, nI_add]; rfl) ?_
  refine zr_istore C d_M_bindMethod_4 (n := 6) rfl (by decide) rfl ?_
  refine zr_aload_n C d_M_bindMethod_6 (n := 7) rfl rfl ?_
  refine zr_get C f_M_41 d_M_bindMethod_7 (n := 10) rfl hm rfl ?_
  refine zr_iload C d_M_bindMethod_10 (n := 12) rfl rfl ?_
  refine zr_iconst C d_M_bindMethod_12 (n := 13) rfl (v := nI 1) (by decide) ?_
  refine zr_iadd C d_M_bindMethod_13 (n := 14) rfl ?_
  refine zr_toe (by simp only [pk_mul, nI_add]; rfl) ?_
  refine zr_iload_n C d_M_bindMethod_14 (n := 15) rfl rfl ?_
  refine zr_iastN C d_M_bindMethod_15 (n := 16) rfl s10 rfl (by omega) (by decide) ?_
  refine zr_aload_n C d_M_bindMethod_16 (n := 17) rfl rfl ?_
  refine zr_get C f_M_41 d_M_bindMethod_17 (n := 20) rfl (zk_g1 (by omega) hm) rfl ?_
  refine zr_iload C d_M_bindMethod_20 (n := 22) rfl rfl ?_
  refine zr_iconst C d_M_bindMethod_22 (n := 23) rfl (v := nI 2) (by decide) ?_
  refine zr_iadd C d_M_bindMethod_23 (n := 24) rfl ?_
  refine zr_toe (by simp only [pk_mul, nI_add]; rfl) ?_
  refine zr_aload_n C d_M_bindMethod_24 (n := 25) rfl rfl ?_
  refine zr_get C f_M_32 d_M_bindMethod_25 (n := 28) rfl (zk_g1 (by omega) hm) rfl ?_
  refine zr_iload_n C d_M_bindMethod_28 (n := 29) rfl rfl ?_
  refine zr_ialdN C d_M_bindMethod_29 (n := 30) rfl (zk_g1 (by omega) s7) rfl (by omega) (by decide) ?_
  refine zr_toe (y := V v 7 j) (((hR v hv).2.2 j (by omega)).2 hne).1 ?_
  refine zr_iastN C d_M_bindMethod_30 (n := 31) rfl (zk_g0 s10) rfl (by omega) (by decide) ?_
  rw [zk_sset]
  refine zr_aload_n C d_M_bindMethod_31 (n := 32) rfl rfl ?_
  refine zr_get C f_M_41 d_M_bindMethod_32 (n := 35) rfl (zk_g1 (by omega) hm) rfl ?_
  refine zr_iload C d_M_bindMethod_35 (n := 37) rfl rfl ?_
  refine zr_bipush C d_M_bindMethod_37 (n := 39) rfl (v := nI 6) (by decide) ?_
  refine zr_iadd C d_M_bindMethod_39 (n := 40) rfl ?_
  refine zr_toe (by simp only [pk_mul, nI_add]; rfl) ?_
  refine zr_iload_n C d_M_bindMethod_40 (n := 41) rfl rfl ?_
  refine zr_bipush C d_M_bindMethod_41 (n := 43) rfl (v := nI 12) (by decide) ?_
  refine zr_idiv C d_M_bindMethod_43 (n := 44) rfl (by decide) ?_
  refine zr_toe (y := nI ((72 * v + j) / 12)) (pk_div (by omega) (by decide) (by decide)) ?_
  refine zr_bipush C d_M_bindMethod_44 (n := 46) rfl (v := nI 6) (by decide) ?_
  refine zr_irem C d_M_bindMethod_46 (n := 47) rfl (by decide) ?_
  refine zr_toe (y := nI ((72 * v + j) / 12 % 6)) (pk_rem (by omega) (by decide) (by decide)) ?_
  refine zr_toe (y := nI (j / 12)) (congrArg nI (by omega)) ?_
  refine zr_iastN C d_M_bindMethod_47 (n := 48) rfl (zk_g0 s10) rfl (by omega) (by decide) ?_
  rw [zk_sset]
  refine zr_iconst C d_M_bindMethod_48 (n := 49) rfl (v := nI 0) (by decide) ?_
  exact zr_iret C d_M_bindMethod_49 rfl hK (Nat.zero_le _) (Nat.zero_le _)
def zm_n (ag p : Nat) : Nat := if ag = 0 then (if p = 0 then 1 else 0) else 4 - p
theorem zm_n_s {ag p : Nat} (hp : p < 4) (h : ag = 0 → p = 0) : zm_n ag p = zm_n ag (p + 1) + 1 := by
  unfold zm_n
  by_cases h0 : ag = 0
  · rw [if_pos h0, if_pos (h h0), if_pos h0, if_neg (by omega)]
  · rw [if_neg h0, if_neg h0]; omega
theorem zm_n_0 {ag p : Nat} (h : ag = 0) (hp : 0 < p) : zm_n ag p = 0 := by rw [zm_n, if_pos h, if_neg (by omega)]
theorem zm_n_4 {ag : Nat} : zm_n ag 4 = 0 := by
  unfold zm_n
  by_cases h0 : ag = 0
  · rw [if_pos h0, if_neg (by omega)]
  · rw [if_neg h0]
theorem zm_n_a {ag : Nat} : zm_n ag ag = if ag = 0 then 1 else 4 - ag := by
  unfold zm_n
  by_cases h0 : ag = 0
  · rw [if_pos h0, if_pos h0, if_pos h0]
  · rw [if_neg h0, if_neg h0]
theorem zm_w6 {f : Nat → Int32} {a : Nat} {X Y Z W Q : Int32} (hZ : ∀ i, i < 7 → f (a + i) = 0) {g : Nat → Int32} (hg : g = upd (upd (upd (upd (upd f (a + 3) X) (a + 4) Y) (a + 1) Z) (a + 2) W) (a + 6) Q) : g (a + 0) = 0 ∧ g (a + 1) = Z ∧ g (a + 2) = W ∧ g (a + 3) = X ∧ g (a + 4) = Y ∧ g (a + 5) = 0 ∧ g (a + 6) = Q := by
  subst hg
  simp only [upd]
  refine ⟨?_, ?_, ?_, ?_, ?_, ?_, ?_⟩ <;> repeat (first | rw [if_pos trivial] | rw [if_pos (by omega)] | rw [if_neg (by omega)])
  · exact hZ 0 (by decide)
  · exact hZ 5 (by decide)
theorem zm_w3 {f : Nat → Int32} {a : Nat} {Z W Q : Int32} (hZ : ∀ i, i < 7 → f (a + i) = 0) {g : Nat → Int32} (hg : g = upd (upd (upd f (a + 1) Z) (a + 2) W) (a + 6) Q) : g (a + 0) = 0 ∧ g (a + 1) = Z ∧ g (a + 2) = W ∧ g (a + 3) = 0 ∧ g (a + 4) = 0 ∧ g (a + 5) = 0 := by
  subst hg
  simp only [upd]
  refine ⟨?_, ?_, ?_, ?_, ?_, ?_⟩ <;> repeat (first | rw [if_pos trivial] | rw [if_pos (by omega)] | rw [if_neg (by omega)])
  · exact hZ 0 (by decide)
  · exact hZ 3 (by decide)
  · exact hZ 4 (by decide)
  · exact hZ 5 (by decide)
theorem zm_o6 {f : Nat → Int32} {v : Nat} {X Y Z W Q : Int32} (i : Nat) (hi : ¬ (7 * v ≤ i ∧ i < 7 * v + 7)) : upd (upd (upd (upd (upd f (7 * v + 3) X) (7 * v + 4) Y) (7 * v + 1) Z) (7 * v + 2) W) (7 * v + 6) Q i = f i := by
  simp only [upd]
  repeat (first | rw [if_pos (by omega)] | rw [if_neg (by omega)])
theorem zm_o3 {f : Nat → Int32} {v : Nat} {Z W Q : Int32} (i : Nat) (hi : ¬ (7 * v ≤ i ∧ i < 7 * v + 7)) : upd (upd (upd f (7 * v + 1) Z) (7 * v + 2) W) (7 * v + 6) Q i = f i := by
  simp only [upd]
  repeat (first | rw [if_pos (by omega)] | rw [if_neg (by omega)])
theorem zm_bw_m {O : zo_O} {t j k ag a pa : Nat} (hk : k = 2 ∨ k = 3) (hpa : j % 4 = pa) {x : Bool} (hx : zo_hf O t (nI 1) = x) {f g : Nat → Int32} (hZ : ∀ i, i < 7 → f (a + i) = 0) (hg : g = upd (upd (upd (upd (upd f (a + 3) (zk_b (zb_nz (O 6 j) (nI 1)))) (a + 4) (zk_b x)) (a + 1) (nI pa)) (a + 2) (O 7 j)) (a + 6) (nI (j / 12))) : zm_bw k ag (zb_fin (nI 0, upd (upd (upd (upd (zb_b1 O t zc_Z) 5 (zk_b (zb_nz (O 6 j) (nI 1)))) 6 (nI (j % 4))) 7 (O 7 j)) 8 (nI (j / 12)))) (fun i => g (a + i)) := by
  obtain ⟨g0, g1, g2, g3, g4, g5, g6⟩ := zm_w6 hZ hg
  refine ⟨fun q => by omega, fun _ => ⟨g0, g1.trans (by rw [← hpa]; rfl), g2, g3, g4.trans (by rw [← hx]; rfl), g5, g6⟩, fun q => by omega, fun q => by omega, fun q => by omega⟩
theorem zm_bw_o {O : zo_O} {t j ag a : Nat} {f g : Nat → Int32} (hZ : ∀ i, i < 7 → f (a + i) = 0) (hg : g = upd (upd (upd f (a + 1) (nI ag)) (a + 2) (O 7 j)) (a + 6) (nI (j / 12))) : zm_bw 6 ag (zb_fin (nI 0, upd (zb_b1 O t zc_Z) 7 (O 7 j))) (fun i => g (a + i)) := by
  obtain ⟨g0, g1, g2, g3, g4, g5⟩ := zm_w3 hZ hg
  exact ⟨fun q => by omega, fun q => by omega, fun q => by omega, fun q => by omega, fun _ => ⟨g0, g1, g2, g3, g4, g5⟩⟩
theorem zo_hf_nz {O : zo_O} {t : Nat} {x : Int32} (h : zo_th O t = true) : zo_hf O t x = zb_nz (O 0 t) x := by
  cases q : zb_nz (O 0 t) x with
  | true => exact zo_hf1 h q
  | false => exact zo_hf0 q
abbrev rm_M_bindCall : Room := { frames := 2, cells := 0, slots := 0, locals := 55 }
set_option maxHeartbeats 4000000 in
set_option maxRecDepth 100000 in
/-- bindCall -/
theorem sp_M_bindCall (l : Launch) {h : zk_H} {V : Nat → zo_O} {S : zo_O} {us : Nat} (hM : zm_at h S us) (hR : zm_R V S) (hok : ∀ v, v < 2 → zo_ok (V v)) {v : Nat} (hv : v < 2) (hZ : ∀ i, i < 7 → S 10 (7 * v + i) = 0) {k t nm ag : Nat} (hk : k = 2 ∨ k = 3) (ht : t < 6) (hnm : nm < 3) (hag : ag < 4) (hth : zo_th (V v) t = true) {K : Option Value → zk_H → Prop} (hK : ∀ (h' : zk_H) (S' : zo_O), zm_mv h h' S S' us v → ((zb_cc (V v) k t nm ag (zb_b1 (V v) t zc_Z)).1 = 0 → zm_bw k ag (zb_fin (zb_cc (V v) k t nm ag (zb_b1 (V v) t zc_Z))) (fun i => S' 10 (7 * v + i))) → K (some (.int (zb_cc (V v) k t nm ag (zb_b1 (V v) t zc_Z)).1)) h') : zk_S l y_M_bindCall b_M_bindCall 8 (some .int) rm_M_bindCall [.ref (38 + 1), .int (nI v), .int (nI k), .int (nI t), .int (nI nm), .int (nI ag)] h K := by
  obtain ⟨hm, s0, s1, s2, s3, s4, s5, s6, s7, s8, s9, s10, s11⟩ := id hM
  refine zk_S_of R_M "bindCall" (by decide) rfl rfl [some (.ref (38 + 1)), some (.int (nI v)), some (.int (nI k)), some (.int (nI t)), some (.int (nI nm)), some (.int (nI ag)), none, none] 2 rfl (Nat.le_of_ble_eq_true rfl) (fun p e s m ar below meth c D dA b base C => ?_)
  have L : ∀ (r q : Nat), r + q = 4 → (∀ (h' : zk_H) (S' : zo_O), zm_mv h h' S S' us v → ((zb_cL (V v) k t nm (zb_b1 (V v) t zc_Z) (zm_n ag q) q).1 = 0 → zm_bw k ag (zb_fin (zb_cL (V v) k t nm (zb_b1 (V v) t zc_Z) (zm_n ag q) q)) (fun i => S' 10 (7 * v + i))) → K (some (.int (zb_cL (V v) k t nm (zb_b1 (V v) t zc_Z) (zm_n ag q) q).1)) h') → zk_V p l e rm_M_bindCall s m ar below meth c 8 D dA b base (MQ below (zk_Q K D dA b base) ar s rm_M_bindCall.cells rm_M_bindCall.slots (fun q : Nat => base ≤ q)) 0 0 4 [some (.ref (38 + 1)), some (.int (nI v)), some (.int (nI k)), some (.int (nI t)), some (.int (nI nm)), some (.int (nI ag)), some (.int (nI q)), none] [] h := by
    intro r
    induction r with
    | zero =>
      intro q hq hK
      refine zr_iload C d_M_bindCall_4 (n := 6) rfl rfl ?_
      refine zr_iconst C d_M_bindCall_6 (n := 7) rfl (v := nI 4) (by decide) ?_
      refine zr_icmp_ge C d_M_bindCall_7 (n := 10) rfl (t := 141) (by decide) (fun c1 => ?_) (fun c1 => ?_)
      · refine zr_bipush C d_M_bindCall_141 (n := 143) rfl (v := -4) (by decide) ?_
        have e4 : q = 4 := by omega
        subst e4
        rw [zm_n_4] at hK
        exact zr_iret C d_M_bindCall_143 rfl (hK _ _ (zm_mv_r hM) (fun q => absurd q zb_m4)) (Nat.zero_le _) (Nat.zero_le _)
      · exact absurd (zk_nle (by omega) (by omega) c1) (by omega)
    | succ r ih =>
      intro q hq hK
      rcases zo_fm_th (zo_ok_wf (hok v hv)) ht hnm (pa := q) (by omega) (an := -1) with e9 | ⟨j, hj, e9, hjp, hne⟩
      · refine zr_iload C d_M_bindCall_4 (n := 6) rfl rfl ?_
        refine zr_iconst C d_M_bindCall_6 (n := 7) rfl (v := nI 4) (by decide) ?_
        refine zr_icmp_ge C d_M_bindCall_7 (n := 10) rfl (t := 141) (by decide) (fun c1 => ?_) (fun c1 => ?_)
        · exact absurd (zk_le (by omega) (by omega) c1) (by omega)
        · replace c1 := zk_nle (by omega) (by omega) c1
          refine zr_iload C d_M_bindCall_10 (n := 12) rfl rfl ?_
          refine zr_if_ne C d_M_bindCall_12 (n := 15) rfl (t := 23) (by decide) (fun c2 => ?_) (fun c2 => ?_)
          · replace c2 := zk_ne (b := 0) (by omega) (by omega) c2
            refine zr_aload_n C d_M_bindCall_23 (n := 24) rfl rfl ?_
            refine zr_iload_n C d_M_bindCall_24 (n := 25) rfl rfl ?_
            refine zr_iload_n C d_M_bindCall_25 (n := 26) rfl rfl ?_
            refine zr_iload C d_M_bindCall_26 (n := 28) rfl rfl ?_
            refine zr_iload C d_M_bindCall_28 (n := 30) rfl rfl ?_
            refine zr_iconst C d_M_bindCall_30 (n := 31) rfl (v := -1) (by decide) ?_
            refine zr_callV5 C k_M_77 d_M_bindCall_31 (nx := 34) rfl hm rfl ⟨by decide, by decide⟩ (Nat.le_of_ble_eq_true rfl) ⟨by decide, by decide⟩ (sp_M_findMethod l hM hR hok hv ht hnm (by omega) hth (Or.inl rfl) ?_)
            refine zr_toe (y := -1) (by rw [e9, zm_p_n]) ?_
            refine zr_istore C d_M_bindCall_34 (n := 36) rfl (by decide) rfl ?_
            refine zr_iload C d_M_bindCall_36 (n := 38) rfl rfl ?_
            refine zr_if_lt C d_M_bindCall_38 (n := 41) rfl (t := 135) (by decide) (fun c3 => ?_) (fun c3 => ?_)
            · refine zr_iinc C d_M_bindCall_135 (n := 138) rfl rfl (w := 1) (by decide) (nI_1 q) (by decide) rfl ?_
              refine zr_goto C d_M_bindCall_138 (t := 4) (by decide) ?_
              refine zr_drop 7 ?_
              rw [zm_n_s (by omega) (fun q0 => absurd q0 c2), zb_cL_n (by rw [e9, zb_pl_n])] at hK
              exact ih (q + 1) (by omega) hK
            · exact absurd (by decide) c3
          · replace c2 := zk_eq (b := 0) (by omega) (by omega) c2
            refine zr_iload C d_M_bindCall_15 (n := 17) rfl rfl ?_
            refine zr_if_le C d_M_bindCall_17 (n := 20) rfl (t := 23) (by decide) (fun c4 => ?_) (fun c4 => ?_)
            · replace c4 := zk_le (b := 0) (by omega) (by omega) c4
              refine zr_aload_n C d_M_bindCall_23 (n := 24) rfl rfl ?_
              refine zr_iload_n C d_M_bindCall_24 (n := 25) rfl rfl ?_
              refine zr_iload_n C d_M_bindCall_25 (n := 26) rfl rfl ?_
              refine zr_iload C d_M_bindCall_26 (n := 28) rfl rfl ?_
              refine zr_iload C d_M_bindCall_28 (n := 30) rfl rfl ?_
              refine zr_iconst C d_M_bindCall_30 (n := 31) rfl (v := -1) (by decide) ?_
              refine zr_callV5 C k_M_77 d_M_bindCall_31 (nx := 34) rfl hm rfl ⟨by decide, by decide⟩ (Nat.le_of_ble_eq_true rfl) ⟨by decide, by decide⟩ (sp_M_findMethod l hM hR hok hv ht hnm (by omega) hth (Or.inl rfl) ?_)
              refine zr_toe (y := -1) (by rw [e9, zm_p_n]) ?_
              refine zr_istore C d_M_bindCall_34 (n := 36) rfl (by decide) rfl ?_
              refine zr_iload C d_M_bindCall_36 (n := 38) rfl rfl ?_
              refine zr_if_lt C d_M_bindCall_38 (n := 41) rfl (t := 135) (by decide) (fun c5 => ?_) (fun c5 => ?_)
              · refine zr_iinc C d_M_bindCall_135 (n := 138) rfl rfl (w := 1) (by decide) (nI_1 q) (by decide) rfl ?_
                refine zr_goto C d_M_bindCall_138 (t := 4) (by decide) ?_
                refine zr_drop 7 ?_
                rw [zm_n_s (by omega) (fun _ => by omega), zb_cL_n (by rw [e9, zb_pl_n])] at hK
                exact ih (q + 1) (by omega) hK
              · exact absurd (by decide) c5
            · replace c4 := zk_nle (b := 0) (by omega) (by omega) c4
              refine zr_goto C d_M_bindCall_20 (t := 135) (by decide) ?_
              refine zr_iinc C d_M_bindCall_135 (n := 138) rfl rfl (w := 1) (by decide) (nI_1 q) (by decide) rfl ?_
              refine zr_goto C d_M_bindCall_138 (t := 4) (by decide) ?_
              rw [zm_n_0 c2 (by omega)] at hK
              exact ih (q + 1) (by omega) (by rw [zm_n_0 (p := q + 1) c2 (by omega)]; exact hK)
      · refine zr_iload C d_M_bindCall_4 (n := 6) rfl rfl ?_
        refine zr_iconst C d_M_bindCall_6 (n := 7) rfl (v := nI 4) (by decide) ?_
        refine zr_icmp_ge C d_M_bindCall_7 (n := 10) rfl (t := 141) (by decide) (fun c1 => ?_) (fun c1 => ?_)
        · exact absurd (zk_le (by omega) (by omega) c1) (by omega)
        · replace c1 := zk_nle (by omega) (by omega) c1
          refine zr_iload C d_M_bindCall_10 (n := 12) rfl rfl ?_
          refine zr_if_ne C d_M_bindCall_12 (n := 15) rfl (t := 23) (by decide) (fun c2 => ?_) (fun c2 => ?_)
          · replace c2 := zk_ne (b := 0) (by omega) (by omega) c2
            refine zr_aload_n C d_M_bindCall_23 (n := 24) rfl rfl ?_
            refine zr_iload_n C d_M_bindCall_24 (n := 25) rfl rfl ?_
            refine zr_iload_n C d_M_bindCall_25 (n := 26) rfl rfl ?_
            refine zr_iload C d_M_bindCall_26 (n := 28) rfl rfl ?_
            refine zr_iload C d_M_bindCall_28 (n := 30) rfl rfl ?_
            refine zr_iconst C d_M_bindCall_30 (n := 31) rfl (v := -1) (by decide) ?_
            refine zr_callV5 C k_M_77 d_M_bindCall_31 (nx := 34) rfl hm rfl ⟨by decide, by decide⟩ (Nat.le_of_ble_eq_true rfl) ⟨by decide, by decide⟩ (sp_M_findMethod l hM hR hok hv ht hnm (by omega) hth (Or.inl rfl) ?_)
            refine zr_toe (y := nI (72 * v + j)) (by rw [e9, zm_p_s (by omega)]) ?_
            refine zr_istore C d_M_bindCall_34 (n := 36) rfl (by decide) rfl ?_
            refine zr_iload C d_M_bindCall_36 (n := 38) rfl rfl ?_
            refine zr_if_lt C d_M_bindCall_38 (n := 41) rfl (t := 135) (by decide) (fun c3 => ?_) (fun c3 => ?_)
            · exact absurd c3 (nI_pos (by omega))
            · refine zr_aload_n C d_M_bindCall_41 (n := 42) rfl rfl ?_
              refine zr_get C f_M_35 d_M_bindCall_42 (n := 45) rfl hm rfl ?_
              refine zr_iload C d_M_bindCall_45 (n := 47) rfl rfl ?_
              refine zr_ialdN C d_M_bindCall_47 (n := 48) rfl s8 rfl (by omega) (by decide) ?_
              refine zr_toe (y := V v 6 j) (((hR v hv).2.2 j (by omega)).2 hne).2 ?_
              refine zr_bipush C d_M_bindCall_48 (n := 50) rfl (v := nI 8) (by decide) ?_
              refine zr_iand C d_M_bindCall_50 (n := 51) rfl ?_
              refine zr_if_eq C d_M_bindCall_51 (n := 54) rfl (t := 57) (by decide) (fun c4 => ?_) (fun c4 => ?_)
              · replace c4 := zb_nzf c4
                refine zr_iload_n C d_M_bindCall_57 (n := 58) rfl rfl ?_
                refine zr_iconst C d_M_bindCall_58 (n := 59) rfl (v := nI 3) (by decide) ?_
                refine zr_icmp_ne C d_M_bindCall_59 (n := 62) rfl (t := 77) (by decide) (fun c5 => ?_) (fun c5 => ?_)
                · replace c5 := zk_ne (by omega) (by omega) c5
                  refine zr_aload_n C d_M_bindCall_77 (n := 78) rfl rfl ?_
                  refine zr_get C f_M_41 d_M_bindCall_78 (n := 81) rfl hm rfl ?_
                  refine zr_bipush C d_M_bindCall_81 (n := 83) rfl (v := nI 7) (by decide) ?_
                  refine zr_iload_n C d_M_bindCall_83 (n := 84) rfl rfl ?_
                  refine zr_imul C d_M_bindCall_84 (n := 85) rfl ?_
                  refine zr_toe (by simp only [pk_mul, nI_add]; rfl) ?_
                  refine zr_iconst C d_M_bindCall_85 (n := 86) rfl (v := nI 3) (by decide) ?_
                  refine zr_iadd C d_M_bindCall_86 (n := 87) rfl ?_
                  refine zr_toe (by simp only [pk_mul, nI_add]; rfl) ?_
                  refine zr_aload_n C d_M_bindCall_87 (n := 88) rfl rfl ?_
                  refine zr_get C f_M_35 d_M_bindCall_88 (n := 91) rfl hm rfl ?_
                  refine zr_iload C d_M_bindCall_91 (n := 93) rfl rfl ?_
                  refine zr_ialdN C d_M_bindCall_93 (n := 94) rfl s8 rfl (by omega) (by decide) ?_
                  refine zr_toe (y := V v 6 j) (((hR v hv).2.2 j (by omega)).2 hne).2 ?_
                  refine zr_iconst C d_M_bindCall_94 (n := 95) rfl (v := nI 1) (by decide) ?_
                  refine zr_callS2 C k_M_73 d_M_bindCall_95 (nx := 98) rfl ⟨by decide, by decide⟩ (Nat.le_of_ble_eq_true rfl) ⟨by decide, by decide⟩ (sp_M_bit l ?_)
                  refine zr_iastN C d_M_bindCall_98 (n := 99) rfl s10 rfl (by omega) (by decide) ?_
                  refine zr_aload_n C d_M_bindCall_99 (n := 100) rfl rfl ?_
                  refine zr_get C f_M_41 d_M_bindCall_100 (n := 103) rfl (zk_g1 (by omega) hm) rfl ?_
                  refine zr_bipush C d_M_bindCall_103 (n := 105) rfl (v := nI 7) (by decide) ?_
                  refine zr_iload_n C d_M_bindCall_105 (n := 106) rfl rfl ?_
                  refine zr_imul C d_M_bindCall_106 (n := 107) rfl ?_
                  refine zr_toe (by simp only [pk_mul, nI_add]; rfl) ?_
                  refine zr_iconst C d_M_bindCall_107 (n := 108) rfl (v := nI 4) (by decide) ?_
                  refine zr_iadd C d_M_bindCall_108 (n := 109) rfl ?_
                  refine zr_toe (by simp only [pk_mul, nI_add]; rfl) ?_
                  refine zr_aload_n C d_M_bindCall_109 (n := 110) rfl rfl ?_
                  refine zr_get C f_M_13 d_M_bindCall_110 (n := 113) rfl (zk_g1 (by omega) hm) rfl ?_
                  refine zr_bipush C d_M_bindCall_113 (n := 115) rfl (v := nI 6) (by decide) ?_
                  refine zr_iload_n C d_M_bindCall_115 (n := 116) rfl rfl ?_
                  refine zr_imul C d_M_bindCall_116 (n := 117) rfl ?_
                  refine zr_toe (by simp only [pk_mul, nI_add]; rfl) ?_
                  refine zr_iload_n C d_M_bindCall_117 (n := 118) rfl rfl ?_
                  refine zr_iadd C d_M_bindCall_118 (n := 119) rfl ?_
                  refine zr_toe (by simp only [pk_mul, nI_add]; rfl) ?_
                  refine zr_ialdN C d_M_bindCall_119 (n := 120) rfl (zk_g1 (by omega) s1) rfl (by omega) (by decide) ?_
                  refine zr_toe (y := V v 0 t) (((hR v hv).1 t (by omega)).2 hth).1 ?_
                  refine zr_iconst C d_M_bindCall_120 (n := 121) rfl (v := nI 1) (by decide) ?_
                  refine zr_callS2 C k_M_73 d_M_bindCall_121 (nx := 124) rfl ⟨by decide, by decide⟩ (Nat.le_of_ble_eq_true rfl) ⟨by decide, by decide⟩ (sp_M_bit l ?_)
                  refine zr_iastN C d_M_bindCall_124 (n := 125) rfl (zk_g0 s10) rfl (by omega) (by decide) ?_
                  rw [zk_sset]
                  refine zr_aload_n C d_M_bindCall_125 (n := 126) rfl rfl ?_
                  refine zr_iload_n C d_M_bindCall_126 (n := 127) rfl rfl ?_
                  refine zr_iload C d_M_bindCall_127 (n := 129) rfl rfl ?_
                  refine zr_iload C d_M_bindCall_129 (n := 131) rfl rfl ?_
                  refine zr_callV3 C k_M_81 d_M_bindCall_131 (nx := 134) rfl (zk_g1 (by omega) hm) rfl ⟨by decide, by decide⟩ (Nat.le_of_ble_eq_true rfl) ⟨by decide, by decide⟩ (sp_M_bindMethod l (zm_at_10 hM) (zm_R_c hR (fun k hk => zm_u_n (by omega))) hok hv hj hne ?_)
                  rw [zm_n_s (by omega) (fun q0 => absurd q0 c2), zb_cL_y (by rw [e9, zb_pl_s (by omega)]) c4] at hK
                  rw [zb_m_yes (fun q5 => c5 q5.1)] at hK
                  rw [zk_sset]
                  exact zr_iret C d_M_bindCall_134 rfl (hK _ _ (zm_mv_10 hM zm_o6) (fun _ => zm_bw_m hk hjp (zo_hf_nz hth) hZ rfl)) (Nat.zero_le _) (Nat.zero_le _)
                · replace c5 := zk_eq (by omega) (by omega) c5
                  refine zr_aload_n C d_M_bindCall_62 (n := 63) rfl rfl ?_
                  refine zr_get C f_M_35 d_M_bindCall_63 (n := 66) rfl hm rfl ?_
                  refine zr_iload C d_M_bindCall_66 (n := 68) rfl rfl ?_
                  refine zr_ialdN C d_M_bindCall_68 (n := 69) rfl s8 rfl (by omega) (by decide) ?_
                  refine zr_toe (y := V v 6 j) (((hR v hv).2.2 j (by omega)).2 hne).2 ?_
                  refine zr_iconst C d_M_bindCall_69 (n := 70) rfl (v := nI 1) (by decide) ?_
                  refine zr_iand C d_M_bindCall_70 (n := 71) rfl ?_
                  refine zr_if_ne C d_M_bindCall_71 (n := 74) rfl (t := 77) (by decide) (fun c6 => ?_) (fun c6 => ?_)
                  · replace c6 := zb_nzt c6
                    refine zr_aload_n C d_M_bindCall_77 (n := 78) rfl rfl ?_
                    refine zr_get C f_M_41 d_M_bindCall_78 (n := 81) rfl hm rfl ?_
                    refine zr_bipush C d_M_bindCall_81 (n := 83) rfl (v := nI 7) (by decide) ?_
                    refine zr_iload_n C d_M_bindCall_83 (n := 84) rfl rfl ?_
                    refine zr_imul C d_M_bindCall_84 (n := 85) rfl ?_
                    refine zr_toe (by simp only [pk_mul, nI_add]; rfl) ?_
                    refine zr_iconst C d_M_bindCall_85 (n := 86) rfl (v := nI 3) (by decide) ?_
                    refine zr_iadd C d_M_bindCall_86 (n := 87) rfl ?_
                    refine zr_toe (by simp only [pk_mul, nI_add]; rfl) ?_
                    refine zr_aload_n C d_M_bindCall_87 (n := 88) rfl rfl ?_
                    refine zr_get C f_M_35 d_M_bindCall_88 (n := 91) rfl hm rfl ?_
                    refine zr_iload C d_M_bindCall_91 (n := 93) rfl rfl ?_
                    refine zr_ialdN C d_M_bindCall_93 (n := 94) rfl s8 rfl (by omega) (by decide) ?_
                    refine zr_toe (y := V v 6 j) (((hR v hv).2.2 j (by omega)).2 hne).2 ?_
                    refine zr_iconst C d_M_bindCall_94 (n := 95) rfl (v := nI 1) (by decide) ?_
                    refine zr_callS2 C k_M_73 d_M_bindCall_95 (nx := 98) rfl ⟨by decide, by decide⟩ (Nat.le_of_ble_eq_true rfl) ⟨by decide, by decide⟩ (sp_M_bit l ?_)
                    refine zr_iastN C d_M_bindCall_98 (n := 99) rfl s10 rfl (by omega) (by decide) ?_
                    refine zr_aload_n C d_M_bindCall_99 (n := 100) rfl rfl ?_
                    refine zr_get C f_M_41 d_M_bindCall_100 (n := 103) rfl (zk_g1 (by omega) hm) rfl ?_
                    refine zr_bipush C d_M_bindCall_103 (n := 105) rfl (v := nI 7) (by decide) ?_
                    refine zr_iload_n C d_M_bindCall_105 (n := 106) rfl rfl ?_
                    refine zr_imul C d_M_bindCall_106 (n := 107) rfl ?_
                    refine zr_toe (by simp only [pk_mul, nI_add]; rfl) ?_
                    refine zr_iconst C d_M_bindCall_107 (n := 108) rfl (v := nI 4) (by decide) ?_
                    refine zr_iadd C d_M_bindCall_108 (n := 109) rfl ?_
                    refine zr_toe (by simp only [pk_mul, nI_add]; rfl) ?_
                    refine zr_aload_n C d_M_bindCall_109 (n := 110) rfl rfl ?_
                    refine zr_get C f_M_13 d_M_bindCall_110 (n := 113) rfl (zk_g1 (by omega) hm) rfl ?_
                    refine zr_bipush C d_M_bindCall_113 (n := 115) rfl (v := nI 6) (by decide) ?_
                    refine zr_iload_n C d_M_bindCall_115 (n := 116) rfl rfl ?_
                    refine zr_imul C d_M_bindCall_116 (n := 117) rfl ?_
                    refine zr_toe (by simp only [pk_mul, nI_add]; rfl) ?_
                    refine zr_iload_n C d_M_bindCall_117 (n := 118) rfl rfl ?_
                    refine zr_iadd C d_M_bindCall_118 (n := 119) rfl ?_
                    refine zr_toe (by simp only [pk_mul, nI_add]; rfl) ?_
                    refine zr_ialdN C d_M_bindCall_119 (n := 120) rfl (zk_g1 (by omega) s1) rfl (by omega) (by decide) ?_
                    refine zr_toe (y := V v 0 t) (((hR v hv).1 t (by omega)).2 hth).1 ?_
                    refine zr_iconst C d_M_bindCall_120 (n := 121) rfl (v := nI 1) (by decide) ?_
                    refine zr_callS2 C k_M_73 d_M_bindCall_121 (nx := 124) rfl ⟨by decide, by decide⟩ (Nat.le_of_ble_eq_true rfl) ⟨by decide, by decide⟩ (sp_M_bit l ?_)
                    refine zr_iastN C d_M_bindCall_124 (n := 125) rfl (zk_g0 s10) rfl (by omega) (by decide) ?_
                    rw [zk_sset]
                    refine zr_aload_n C d_M_bindCall_125 (n := 126) rfl rfl ?_
                    refine zr_iload_n C d_M_bindCall_126 (n := 127) rfl rfl ?_
                    refine zr_iload C d_M_bindCall_127 (n := 129) rfl rfl ?_
                    refine zr_iload C d_M_bindCall_129 (n := 131) rfl rfl ?_
                    refine zr_callV3 C k_M_81 d_M_bindCall_131 (nx := 134) rfl (zk_g1 (by omega) hm) rfl ⟨by decide, by decide⟩ (Nat.le_of_ble_eq_true rfl) ⟨by decide, by decide⟩ (sp_M_bindMethod l (zm_at_10 hM) (zm_R_c hR (fun k hk => zm_u_n (by omega))) hok hv hj hne ?_)
                    rw [zm_n_s (by omega) (fun q0 => absurd q0 c2), zb_cL_y (by rw [e9, zb_pl_s (by omega)]) c4] at hK
                    rw [zb_m_yes (fun q5 => absurd (c6.symm.trans q5.2) (by decide))] at hK
                    rw [zk_sset]
                    exact zr_iret C d_M_bindCall_134 rfl (hK _ _ (zm_mv_10 hM zm_o6) (fun _ => zm_bw_m hk hjp (zo_hf_nz hth) hZ rfl)) (Nat.zero_le _) (Nat.zero_le _)
                  · replace c6 := zb_nzf c6
                    refine zr_bipush C d_M_bindCall_74 (n := 76) rfl (v := -5) (by decide) ?_
                    rw [zm_n_s (by omega) (fun q0 => absurd q0 c2), zb_cL_y (by rw [e9, zb_pl_s (by omega)]) c4] at hK
                    rw [zb_m_no c5 c6] at hK
                    exact zr_iret C d_M_bindCall_76 rfl (hK _ _ (zm_mv_r hM) (fun q => absurd q zb_m5)) (Nat.zero_le _) (Nat.zero_le _)
              · replace c4 := zb_nzt c4
                refine zr_goto C d_M_bindCall_54 (t := 135) (by decide) ?_
                refine zr_iinc C d_M_bindCall_135 (n := 138) rfl rfl (w := 1) (by decide) (nI_1 q) (by decide) rfl ?_
                refine zr_goto C d_M_bindCall_138 (t := 4) (by decide) ?_
                refine zr_drop 7 ?_
                rw [zm_n_s (by omega) (fun q0 => absurd q0 c2), zb_cL_h (by rw [e9, zb_pl_s (by omega)]) c4] at hK
                exact ih (q + 1) (by omega) hK
          · replace c2 := zk_eq (b := 0) (by omega) (by omega) c2
            refine zr_iload C d_M_bindCall_15 (n := 17) rfl rfl ?_
            refine zr_if_le C d_M_bindCall_17 (n := 20) rfl (t := 23) (by decide) (fun c7 => ?_) (fun c7 => ?_)
            · replace c7 := zk_le (b := 0) (by omega) (by omega) c7
              refine zr_aload_n C d_M_bindCall_23 (n := 24) rfl rfl ?_
              refine zr_iload_n C d_M_bindCall_24 (n := 25) rfl rfl ?_
              refine zr_iload_n C d_M_bindCall_25 (n := 26) rfl rfl ?_
              refine zr_iload C d_M_bindCall_26 (n := 28) rfl rfl ?_
              refine zr_iload C d_M_bindCall_28 (n := 30) rfl rfl ?_
              refine zr_iconst C d_M_bindCall_30 (n := 31) rfl (v := -1) (by decide) ?_
              refine zr_callV5 C k_M_77 d_M_bindCall_31 (nx := 34) rfl hm rfl ⟨by decide, by decide⟩ (Nat.le_of_ble_eq_true rfl) ⟨by decide, by decide⟩ (sp_M_findMethod l hM hR hok hv ht hnm (by omega) hth (Or.inl rfl) ?_)
              refine zr_toe (y := nI (72 * v + j)) (by rw [e9, zm_p_s (by omega)]) ?_
              refine zr_istore C d_M_bindCall_34 (n := 36) rfl (by decide) rfl ?_
              refine zr_iload C d_M_bindCall_36 (n := 38) rfl rfl ?_
              refine zr_if_lt C d_M_bindCall_38 (n := 41) rfl (t := 135) (by decide) (fun c8 => ?_) (fun c8 => ?_)
              · exact absurd c8 (nI_pos (by omega))
              · refine zr_aload_n C d_M_bindCall_41 (n := 42) rfl rfl ?_
                refine zr_get C f_M_35 d_M_bindCall_42 (n := 45) rfl hm rfl ?_
                refine zr_iload C d_M_bindCall_45 (n := 47) rfl rfl ?_
                refine zr_ialdN C d_M_bindCall_47 (n := 48) rfl s8 rfl (by omega) (by decide) ?_
                refine zr_toe (y := V v 6 j) (((hR v hv).2.2 j (by omega)).2 hne).2 ?_
                refine zr_bipush C d_M_bindCall_48 (n := 50) rfl (v := nI 8) (by decide) ?_
                refine zr_iand C d_M_bindCall_50 (n := 51) rfl ?_
                refine zr_if_eq C d_M_bindCall_51 (n := 54) rfl (t := 57) (by decide) (fun c9 => ?_) (fun c9 => ?_)
                · replace c9 := zb_nzf c9
                  refine zr_iload_n C d_M_bindCall_57 (n := 58) rfl rfl ?_
                  refine zr_iconst C d_M_bindCall_58 (n := 59) rfl (v := nI 3) (by decide) ?_
                  refine zr_icmp_ne C d_M_bindCall_59 (n := 62) rfl (t := 77) (by decide) (fun c10 => ?_) (fun c10 => ?_)
                  · replace c10 := zk_ne (by omega) (by omega) c10
                    refine zr_aload_n C d_M_bindCall_77 (n := 78) rfl rfl ?_
                    refine zr_get C f_M_41 d_M_bindCall_78 (n := 81) rfl hm rfl ?_
                    refine zr_bipush C d_M_bindCall_81 (n := 83) rfl (v := nI 7) (by decide) ?_
                    refine zr_iload_n C d_M_bindCall_83 (n := 84) rfl rfl ?_
                    refine zr_imul C d_M_bindCall_84 (n := 85) rfl ?_
                    refine zr_toe (by simp only [pk_mul, nI_add]; rfl) ?_
                    refine zr_iconst C d_M_bindCall_85 (n := 86) rfl (v := nI 3) (by decide) ?_
                    refine zr_iadd C d_M_bindCall_86 (n := 87) rfl ?_
                    refine zr_toe (by simp only [pk_mul, nI_add]; rfl) ?_
                    refine zr_aload_n C d_M_bindCall_87 (n := 88) rfl rfl ?_
                    refine zr_get C f_M_35 d_M_bindCall_88 (n := 91) rfl hm rfl ?_
                    refine zr_iload C d_M_bindCall_91 (n := 93) rfl rfl ?_
                    refine zr_ialdN C d_M_bindCall_93 (n := 94) rfl s8 rfl (by omega) (by decide) ?_
                    refine zr_toe (y := V v 6 j) (((hR v hv).2.2 j (by omega)).2 hne).2 ?_
                    refine zr_iconst C d_M_bindCall_94 (n := 95) rfl (v := nI 1) (by decide) ?_
                    refine zr_callS2 C k_M_73 d_M_bindCall_95 (nx := 98) rfl ⟨by decide, by decide⟩ (Nat.le_of_ble_eq_true rfl) ⟨by decide, by decide⟩ (sp_M_bit l ?_)
                    refine zr_iastN C d_M_bindCall_98 (n := 99) rfl s10 rfl (by omega) (by decide) ?_
                    refine zr_aload_n C d_M_bindCall_99 (n := 100) rfl rfl ?_
                    refine zr_get C f_M_41 d_M_bindCall_100 (n := 103) rfl (zk_g1 (by omega) hm) rfl ?_
                    refine zr_bipush C d_M_bindCall_103 (n := 105) rfl (v := nI 7) (by decide) ?_
                    refine zr_iload_n C d_M_bindCall_105 (n := 106) rfl rfl ?_
                    refine zr_imul C d_M_bindCall_106 (n := 107) rfl ?_
                    refine zr_toe (by simp only [pk_mul, nI_add]; rfl) ?_
                    refine zr_iconst C d_M_bindCall_107 (n := 108) rfl (v := nI 4) (by decide) ?_
                    refine zr_iadd C d_M_bindCall_108 (n := 109) rfl ?_
                    refine zr_toe (by simp only [pk_mul, nI_add]; rfl) ?_
                    refine zr_aload_n C d_M_bindCall_109 (n := 110) rfl rfl ?_
                    refine zr_get C f_M_13 d_M_bindCall_110 (n := 113) rfl (zk_g1 (by omega) hm) rfl ?_
                    refine zr_bipush C d_M_bindCall_113 (n := 115) rfl (v := nI 6) (by decide) ?_
                    refine zr_iload_n C d_M_bindCall_115 (n := 116) rfl rfl ?_
                    refine zr_imul C d_M_bindCall_116 (n := 117) rfl ?_
                    refine zr_toe (by simp only [pk_mul, nI_add]; rfl) ?_
                    refine zr_iload_n C d_M_bindCall_117 (n := 118) rfl rfl ?_
                    refine zr_iadd C d_M_bindCall_118 (n := 119) rfl ?_
                    refine zr_toe (by simp only [pk_mul, nI_add]; rfl) ?_
                    refine zr_ialdN C d_M_bindCall_119 (n := 120) rfl (zk_g1 (by omega) s1) rfl (by omega) (by decide) ?_
                    refine zr_toe (y := V v 0 t) (((hR v hv).1 t (by omega)).2 hth).1 ?_
                    refine zr_iconst C d_M_bindCall_120 (n := 121) rfl (v := nI 1) (by decide) ?_
                    refine zr_callS2 C k_M_73 d_M_bindCall_121 (nx := 124) rfl ⟨by decide, by decide⟩ (Nat.le_of_ble_eq_true rfl) ⟨by decide, by decide⟩ (sp_M_bit l ?_)
                    refine zr_iastN C d_M_bindCall_124 (n := 125) rfl (zk_g0 s10) rfl (by omega) (by decide) ?_
                    rw [zk_sset]
                    refine zr_aload_n C d_M_bindCall_125 (n := 126) rfl rfl ?_
                    refine zr_iload_n C d_M_bindCall_126 (n := 127) rfl rfl ?_
                    refine zr_iload C d_M_bindCall_127 (n := 129) rfl rfl ?_
                    refine zr_iload C d_M_bindCall_129 (n := 131) rfl rfl ?_
                    refine zr_callV3 C k_M_81 d_M_bindCall_131 (nx := 134) rfl (zk_g1 (by omega) hm) rfl ⟨by decide, by decide⟩ (Nat.le_of_ble_eq_true rfl) ⟨by decide, by decide⟩ (sp_M_bindMethod l (zm_at_10 hM) (zm_R_c hR (fun k hk => zm_u_n (by omega))) hok hv hj hne ?_)
                    rw [zm_n_s (by omega) (fun _ => by omega), zb_cL_y (by rw [e9, zb_pl_s (by omega)]) c9] at hK
                    rw [zb_m_yes (fun q5 => c10 q5.1)] at hK
                    rw [zk_sset]
                    exact zr_iret C d_M_bindCall_134 rfl (hK _ _ (zm_mv_10 hM zm_o6) (fun _ => zm_bw_m hk hjp (zo_hf_nz hth) hZ rfl)) (Nat.zero_le _) (Nat.zero_le _)
                  · replace c10 := zk_eq (by omega) (by omega) c10
                    refine zr_aload_n C d_M_bindCall_62 (n := 63) rfl rfl ?_
                    refine zr_get C f_M_35 d_M_bindCall_63 (n := 66) rfl hm rfl ?_
                    refine zr_iload C d_M_bindCall_66 (n := 68) rfl rfl ?_
                    refine zr_ialdN C d_M_bindCall_68 (n := 69) rfl s8 rfl (by omega) (by decide) ?_
                    refine zr_toe (y := V v 6 j) (((hR v hv).2.2 j (by omega)).2 hne).2 ?_
                    refine zr_iconst C d_M_bindCall_69 (n := 70) rfl (v := nI 1) (by decide) ?_
                    refine zr_iand C d_M_bindCall_70 (n := 71) rfl ?_
                    refine zr_if_ne C d_M_bindCall_71 (n := 74) rfl (t := 77) (by decide) (fun c11 => ?_) (fun c11 => ?_)
                    · replace c11 := zb_nzt c11
                      refine zr_aload_n C d_M_bindCall_77 (n := 78) rfl rfl ?_
                      refine zr_get C f_M_41 d_M_bindCall_78 (n := 81) rfl hm rfl ?_
                      refine zr_bipush C d_M_bindCall_81 (n := 83) rfl (v := nI 7) (by decide) ?_
                      refine zr_iload_n C d_M_bindCall_83 (n := 84) rfl rfl ?_
                      refine zr_imul C d_M_bindCall_84 (n := 85) rfl ?_
                      refine zr_toe (by simp only [pk_mul, nI_add]; rfl) ?_
                      refine zr_iconst C d_M_bindCall_85 (n := 86) rfl (v := nI 3) (by decide) ?_
                      refine zr_iadd C d_M_bindCall_86 (n := 87) rfl ?_
                      refine zr_toe (by simp only [pk_mul, nI_add]; rfl) ?_
                      refine zr_aload_n C d_M_bindCall_87 (n := 88) rfl rfl ?_
                      refine zr_get C f_M_35 d_M_bindCall_88 (n := 91) rfl hm rfl ?_
                      refine zr_iload C d_M_bindCall_91 (n := 93) rfl rfl ?_
                      refine zr_ialdN C d_M_bindCall_93 (n := 94) rfl s8 rfl (by omega) (by decide) ?_
                      refine zr_toe (y := V v 6 j) (((hR v hv).2.2 j (by omega)).2 hne).2 ?_
                      refine zr_iconst C d_M_bindCall_94 (n := 95) rfl (v := nI 1) (by decide) ?_
                      refine zr_callS2 C k_M_73 d_M_bindCall_95 (nx := 98) rfl ⟨by decide, by decide⟩ (Nat.le_of_ble_eq_true rfl) ⟨by decide, by decide⟩ (sp_M_bit l ?_)
                      refine zr_iastN C d_M_bindCall_98 (n := 99) rfl s10 rfl (by omega) (by decide) ?_
                      refine zr_aload_n C d_M_bindCall_99 (n := 100) rfl rfl ?_
                      refine zr_get C f_M_41 d_M_bindCall_100 (n := 103) rfl (zk_g1 (by omega) hm) rfl ?_
                      refine zr_bipush C d_M_bindCall_103 (n := 105) rfl (v := nI 7) (by decide) ?_
                      refine zr_iload_n C d_M_bindCall_105 (n := 106) rfl rfl ?_
                      refine zr_imul C d_M_bindCall_106 (n := 107) rfl ?_
                      refine zr_toe (by simp only [pk_mul, nI_add]; rfl) ?_
                      refine zr_iconst C d_M_bindCall_107 (n := 108) rfl (v := nI 4) (by decide) ?_
                      refine zr_iadd C d_M_bindCall_108 (n := 109) rfl ?_
                      refine zr_toe (by simp only [pk_mul, nI_add]; rfl) ?_
                      refine zr_aload_n C d_M_bindCall_109 (n := 110) rfl rfl ?_
                      refine zr_get C f_M_13 d_M_bindCall_110 (n := 113) rfl (zk_g1 (by omega) hm) rfl ?_
                      refine zr_bipush C d_M_bindCall_113 (n := 115) rfl (v := nI 6) (by decide) ?_
                      refine zr_iload_n C d_M_bindCall_115 (n := 116) rfl rfl ?_
                      refine zr_imul C d_M_bindCall_116 (n := 117) rfl ?_
                      refine zr_toe (by simp only [pk_mul, nI_add]; rfl) ?_
                      refine zr_iload_n C d_M_bindCall_117 (n := 118) rfl rfl ?_
                      refine zr_iadd C d_M_bindCall_118 (n := 119) rfl ?_
                      refine zr_toe (by simp only [pk_mul, nI_add]; rfl) ?_
                      refine zr_ialdN C d_M_bindCall_119 (n := 120) rfl (zk_g1 (by omega) s1) rfl (by omega) (by decide) ?_
                      refine zr_toe (y := V v 0 t) (((hR v hv).1 t (by omega)).2 hth).1 ?_
                      refine zr_iconst C d_M_bindCall_120 (n := 121) rfl (v := nI 1) (by decide) ?_
                      refine zr_callS2 C k_M_73 d_M_bindCall_121 (nx := 124) rfl ⟨by decide, by decide⟩ (Nat.le_of_ble_eq_true rfl) ⟨by decide, by decide⟩ (sp_M_bit l ?_)
                      refine zr_iastN C d_M_bindCall_124 (n := 125) rfl (zk_g0 s10) rfl (by omega) (by decide) ?_
                      rw [zk_sset]
                      refine zr_aload_n C d_M_bindCall_125 (n := 126) rfl rfl ?_
                      refine zr_iload_n C d_M_bindCall_126 (n := 127) rfl rfl ?_
                      refine zr_iload C d_M_bindCall_127 (n := 129) rfl rfl ?_
                      refine zr_iload C d_M_bindCall_129 (n := 131) rfl rfl ?_
                      refine zr_callV3 C k_M_81 d_M_bindCall_131 (nx := 134) rfl (zk_g1 (by omega) hm) rfl ⟨by decide, by decide⟩ (Nat.le_of_ble_eq_true rfl) ⟨by decide, by decide⟩ (sp_M_bindMethod l (zm_at_10 hM) (zm_R_c hR (fun k hk => zm_u_n (by omega))) hok hv hj hne ?_)
                      rw [zm_n_s (by omega) (fun _ => by omega), zb_cL_y (by rw [e9, zb_pl_s (by omega)]) c9] at hK
                      rw [zb_m_yes (fun q5 => absurd (c11.symm.trans q5.2) (by decide))] at hK
                      rw [zk_sset]
                      exact zr_iret C d_M_bindCall_134 rfl (hK _ _ (zm_mv_10 hM zm_o6) (fun _ => zm_bw_m hk hjp (zo_hf_nz hth) hZ rfl)) (Nat.zero_le _) (Nat.zero_le _)
                    · replace c11 := zb_nzf c11
                      refine zr_bipush C d_M_bindCall_74 (n := 76) rfl (v := -5) (by decide) ?_
                      rw [zm_n_s (by omega) (fun _ => by omega), zb_cL_y (by rw [e9, zb_pl_s (by omega)]) c9] at hK
                      rw [zb_m_no c10 c11] at hK
                      exact zr_iret C d_M_bindCall_76 rfl (hK _ _ (zm_mv_r hM) (fun q => absurd q zb_m5)) (Nat.zero_le _) (Nat.zero_le _)
                · replace c9 := zb_nzt c9
                  refine zr_goto C d_M_bindCall_54 (t := 135) (by decide) ?_
                  refine zr_iinc C d_M_bindCall_135 (n := 138) rfl rfl (w := 1) (by decide) (nI_1 q) (by decide) rfl ?_
                  refine zr_goto C d_M_bindCall_138 (t := 4) (by decide) ?_
                  refine zr_drop 7 ?_
                  rw [zm_n_s (by omega) (fun _ => by omega), zb_cL_h (by rw [e9, zb_pl_s (by omega)]) c9] at hK
                  exact ih (q + 1) (by omega) hK
            · replace c7 := zk_nle (b := 0) (by omega) (by omega) c7
              refine zr_goto C d_M_bindCall_20 (t := 135) (by decide) ?_
              refine zr_iinc C d_M_bindCall_135 (n := 138) rfl rfl (w := 1) (by decide) (nI_1 q) (by decide) rfl ?_
              refine zr_goto C d_M_bindCall_138 (t := 4) (by decide) ?_
              rw [zm_n_0 c2 (by omega)] at hK
              exact ih (q + 1) (by omega) (by rw [zm_n_0 (p := q + 1) c2 (by omega)]; exact hK)
  refine zr_iload C d_M_bindCall_0 (n := 2) rfl rfl ?_
  refine zr_istore C d_M_bindCall_2 (n := 4) rfl (by decide) rfl ?_
  exact L (4 - ag) ag (by omega) (by rw [zm_n_a]; exact hK)
abbrev rm_M_bindOverride : Room := { frames := 2, cells := 0, slots := 0, locals := 55 }
set_option maxHeartbeats 4000000 in
set_option maxRecDepth 100000 in
/-- bindOverride -/
theorem sp_M_bindOverride (l : Launch) {h : zk_H} {V : Nat → zo_O} {S : zo_O} {us : Nat} (hM : zm_at h S us) (hR : zm_R V S) (hok : ∀ v, v < 2 → zo_ok (V v)) {v : Nat} (hv : v < 2) (hZ : ∀ i, i < 7 → S 10 (7 * v + i) = 0) {t nm ag : Nat} (ht : t < 6) (hnm : nm < 3) (hag : ag < 4) (hth : zo_th (V v) t = true) (hx4 : zo_hf (V v) t (nI 4) = false) {K : Option Value → zk_H → Prop} (hK : ∀ (h' : zk_H) (S' : zo_O), zm_mv h h' S S' us v → ((zb_o (V v) t (zb_b1 (V v) t zc_Z) (zb_pl (zo_fm (V v) t nm ag (-1)))).1 = 0 → zm_bw 6 ag (zb_fin (zb_o (V v) t (zb_b1 (V v) t zc_Z) (zb_pl (zo_fm (V v) t nm ag (-1))))) (fun i => S' 10 (7 * v + i))) → K (some (.int (zb_o (V v) t (zb_b1 (V v) t zc_Z) (zb_pl (zo_fm (V v) t nm ag (-1)))).1)) h') : zk_S l y_M_bindOverride b_M_bindOverride 6 (some .int) rm_M_bindOverride [.ref (38 + 1), .int (nI v), .int (nI t), .int (nI nm), .int (nI ag)] h K := by
  obtain ⟨hm, s0, s1, s2, s3, s4, s5, s6, s7, s8, s9, s10, s11⟩ := id hM
  refine zk_S_of R_M "bindOverride" (by decide) rfl rfl [some (.ref (38 + 1)), some (.int (nI v)), some (.int (nI t)), some (.int (nI nm)), some (.int (nI ag)), none] 1 rfl (Nat.le_of_ble_eq_true rfl) (fun p e s m ar below meth c D dA b base C => ?_)
  rcases zo_fm_th (zo_ok_wf (hok v hv)) ht hnm hag (an := -1) with e9 | ⟨j, hj, e9, hjp, hne⟩
  · refine zr_aload_n C d_M_bindOverride_0 (n := 1) rfl rfl ?_
    refine zr_iload_n C d_M_bindOverride_1 (n := 2) rfl rfl ?_
    refine zr_iload_n C d_M_bindOverride_2 (n := 3) rfl rfl ?_
    refine zr_iload_n C d_M_bindOverride_3 (n := 4) rfl rfl ?_
    refine zr_iload C d_M_bindOverride_4 (n := 6) rfl rfl ?_
    refine zr_iconst C d_M_bindOverride_6 (n := 7) rfl (v := -1) (by decide) ?_
    refine zr_callV5 C k_M_77 d_M_bindOverride_7 (nx := 10) rfl hm rfl ⟨by decide, by decide⟩ (Nat.le_of_ble_eq_true rfl) ⟨by decide, by decide⟩ (sp_M_findMethod l hM hR hok hv ht hnm hag hth (Or.inl rfl) ?_)
    refine zr_toe (y := -1) (by rw [e9, zm_p_n]) ?_
    refine zr_istore C d_M_bindOverride_10 (n := 12) rfl (by decide) rfl ?_
    refine zr_iload C d_M_bindOverride_12 (n := 14) rfl rfl ?_
    refine zr_if_lt C d_M_bindOverride_14 (n := 17) rfl (t := 30) (by decide) (fun c1 => ?_) (fun c1 => ?_)
    · refine zr_bipush C d_M_bindOverride_30 (n := 32) rfl (v := -4) (by decide) ?_
      rw [e9, zb_pl_n, zb_o_n hx4] at hK
      exact zr_iret C d_M_bindOverride_32 rfl (hK _ _ (zm_mv_r hM) (fun q => absurd q zb_m4)) (Nat.zero_le _) (Nat.zero_le _)
    · exact absurd (by decide) c1
  · refine zr_aload_n C d_M_bindOverride_0 (n := 1) rfl rfl ?_
    refine zr_iload_n C d_M_bindOverride_1 (n := 2) rfl rfl ?_
    refine zr_iload_n C d_M_bindOverride_2 (n := 3) rfl rfl ?_
    refine zr_iload_n C d_M_bindOverride_3 (n := 4) rfl rfl ?_
    refine zr_iload C d_M_bindOverride_4 (n := 6) rfl rfl ?_
    refine zr_iconst C d_M_bindOverride_6 (n := 7) rfl (v := -1) (by decide) ?_
    refine zr_callV5 C k_M_77 d_M_bindOverride_7 (nx := 10) rfl hm rfl ⟨by decide, by decide⟩ (Nat.le_of_ble_eq_true rfl) ⟨by decide, by decide⟩ (sp_M_findMethod l hM hR hok hv ht hnm hag hth (Or.inl rfl) ?_)
    refine zr_toe (y := nI (72 * v + j)) (by rw [e9, zm_p_s (by omega)]) ?_
    refine zr_istore C d_M_bindOverride_10 (n := 12) rfl (by decide) rfl ?_
    refine zr_iload C d_M_bindOverride_12 (n := 14) rfl rfl ?_
    refine zr_if_lt C d_M_bindOverride_14 (n := 17) rfl (t := 30) (by decide) (fun c1 => ?_) (fun c1 => ?_)
    · exact absurd c1 (nI_pos (by omega))
    · refine zr_aload_n C d_M_bindOverride_17 (n := 18) rfl rfl ?_
      refine zr_get C f_M_35 d_M_bindOverride_18 (n := 21) rfl hm rfl ?_
      refine zr_iload C d_M_bindOverride_21 (n := 23) rfl rfl ?_
      refine zr_ialdN C d_M_bindOverride_23 (n := 24) rfl s8 rfl (by omega) (by decide) ?_
      refine zr_toe (y := V v 6 j) (((hR v hv).2.2 j (by omega)).2 hne).2 ?_
      refine zr_bipush C d_M_bindOverride_24 (n := 26) rfl (v := nI 8) (by decide) ?_
      refine zr_iand C d_M_bindOverride_26 (n := 27) rfl ?_
      refine zr_if_eq C d_M_bindOverride_27 (n := 30) rfl (t := 33) (by decide) (fun c2 => ?_) (fun c2 => ?_)
      · replace c2 := zb_nzf c2
        refine zr_aload_n C d_M_bindOverride_33 (n := 34) rfl rfl ?_
        refine zr_get C f_M_35 d_M_bindOverride_34 (n := 37) rfl hm rfl ?_
        refine zr_iload C d_M_bindOverride_37 (n := 39) rfl rfl ?_
        refine zr_ialdN C d_M_bindOverride_39 (n := 40) rfl s8 rfl (by omega) (by decide) ?_
        refine zr_toe (y := V v 6 j) (((hR v hv).2.2 j (by omega)).2 hne).2 ?_
        refine zr_iconst C d_M_bindOverride_40 (n := 41) rfl (v := nI 5) (by decide) ?_
        refine zr_iand C d_M_bindOverride_41 (n := 42) rfl ?_
        refine zr_if_eq C d_M_bindOverride_42 (n := 45) rfl (t := 50) (by decide) (fun c3 => ?_) (fun c3 => ?_)
        · replace c3 := zb_nzf c3
          refine zr_aload_n C d_M_bindOverride_50 (n := 51) rfl rfl ?_
          refine zr_iload_n C d_M_bindOverride_51 (n := 52) rfl rfl ?_
          refine zr_iload C d_M_bindOverride_52 (n := 54) rfl rfl ?_
          refine zr_iload C d_M_bindOverride_54 (n := 56) rfl rfl ?_
          refine zr_callV3 C k_M_81 d_M_bindOverride_56 (nx := 59) rfl hm rfl ⟨by decide, by decide⟩ (Nat.le_of_ble_eq_true rfl) ⟨by decide, by decide⟩ (sp_M_bindMethod l hM hR hok hv hj hne ?_)
          rw [e9, zb_pl_s (by omega), zb_o_y hx4 c2] at hK
          rw [if_neg (by rw [c3]; decide)] at hK
          exact zr_iret C d_M_bindOverride_59 rfl (hK _ _ (zm_mv_10 hM zm_o3) (fun _ => zm_bw_o hZ rfl)) (Nat.zero_le _) (Nat.zero_le _)
        · replace c3 := zb_nzt c3
          refine zr_bipush C d_M_bindOverride_45 (n := 47) rfl (v := -5) (by decide) ?_
          refine zr_goto C d_M_bindOverride_47 (t := 59) (by decide) ?_
          rw [e9, zb_pl_s (by omega), zb_o_y hx4 c2] at hK
          rw [if_pos c3] at hK
          exact zr_iret C d_M_bindOverride_59 rfl (hK _ _ (zm_mv_r hM) (fun q => absurd q zb_m5)) (Nat.zero_le _) (Nat.zero_le _)
      · replace c2 := zb_nzt c2
        refine zr_bipush C d_M_bindOverride_30 (n := 32) rfl (v := -4) (by decide) ?_
        rw [e9, zb_pl_s (by omega), zb_o_h hx4 c2] at hK
        exact zr_iret C d_M_bindOverride_32 rfl (hK _ _ (zm_mv_r hM) (fun q => absurd q zb_m4)) (Nat.zero_le _) (Nat.zero_le _)
