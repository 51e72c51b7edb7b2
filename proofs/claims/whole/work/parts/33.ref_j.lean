theorem zb_ff_er {O : zo_O} {k : Nat} {B : Nat → Int32} (r : Option Nat) : zc_er (zb_ff O k B r) = false := by
  cases r with
  | none => exact (by decide : zc_er (-7) = false)
  | some j =>
    rw [zb_ff_s]
    split
    · decide
    · split <;> decide
theorem zb_fc_er {O : zo_O} {t : Nat} {B : Nat → Int32} (r : Option Nat) : zc_er (zb_fc O t B r) = false := by
  by_cases h : zk_b (zo_hf O t (nI 1)) = B 1
  · cases r with
    | none => rw [zb_fc_n h]; decide
    | some j =>
      rw [zb_fc_s h]
      split
      · decide
      · split
        · split <;> decide
        · decide
  · rw [zb_fc_x h]; decide
theorem zb_fo_er {O : zo_O} {t : Nat} {B : Nat → Int32} (r : Option Nat) : zc_er (zb_fo O t B r) = false := by
  by_cases h : zb_sb O t B = true
  · rw [zb_fo_x h]; decide
  · have h' : zb_sb O t B = false := by simpa using h
    cases r with
    | none => rw [zb_fo_n h']; decide
    | some j =>
      rw [zb_fo_s h']
      split
      · decide
      · split
        · decide
        · split <;> decide
theorem zb_fw_e1 {O : zo_O} {t : Nat} {B : Nat → Int32} {x : Int32} (hx : zc_er x = false) {c : Bool} : zc_er (if B 2 = 0 then (if zo_th O t = true then (if zo_hf O t (nI 8) = true then -8 else x) else -6) else if c = true then nI 0 else nI 2) = false := by
  split
  · split
    · split
      · decide
      · exact hx
    · decide
  · split <;> decide
theorem zb_fw_er {O : zo_O} {k t nm ag pa : Nat} {B : Nat → Int32} (hk : k < 7) : zc_er (zb_fw O k t nm ag pa B) = false := by
  rcases (show k = 0 ∨ k = 1 ∨ k = 2 ∨ k = 3 ∨ k = 4 ∨ k = 5 ∨ k = 6 by omega) with rfl | rfl | rfl | rfl | rfl | rfl | rfl
  · rw [zb_fw_0]; exact zb_fw_e1 (zb_ff_er _)
  · rw [zb_fw_1]; exact zb_fw_e1 (zb_ff_er _)
  · rw [zb_fw_2]; exact zb_fw_e1 (zb_fc_er _)
  · rw [zb_fw_3]; exact zb_fw_e1 (zb_fc_er _)
  · rw [zb_fw_4]; exact zb_fw_e1 (by split <;> decide)
  · rw [zb_fw_5]; exact zb_fw_e1 (by split <;> decide)
  · rw [zb_fw_6]; exact zb_fw_e1 (zb_fo_er _)
theorem zb_f_er {O : zo_O} {k : Nat} {B : Nat → Int32} (r : Option Nat) (h : ¬ (zb_f O k B r).1 = 0) : zc_er (zb_f O k B r).1 = true := by
  cases r with
  | none => rw [zb_f_n]; exact (by decide : zc_er (-4) = true)
  | some j =>
    by_cases h8 : zb_nz (O 3 j) (nI 8) = true
    · rw [zb_f_h h8]; exact (by decide : zc_er (-4) = true)
    · have h8' : zb_nz (O 3 j) (nI 8) = false := by simpa using h8
      by_cases hx : k = 1 ∧ zb_nz (O 3 j) (nI 4) = true
      · rw [zb_f_x h8' hx]; exact (by decide : zc_er (-5) = true)
      · rw [zb_f_y h8' hx] at h; exact absurd rfl h
theorem zb_cr_er {O : zo_O} {k : Nat} {B : Nat → Int32} (r : Option Nat) (h : ¬ (zb_cr O k B r).1 = 0) : zc_er (zb_cr O k B r).1 = true := by
  cases r with
  | none => exact (by decide : zc_er (-4) = true)
  | some j =>
    have e : zb_cr O k B (some j) = zb_m O k j B := rfl
    rw [e] at h ⊢
    by_cases hx : k = 3 ∧ zb_nz (O 6 j) (nI 1) = false
    · rw [zb_m_no hx.1 hx.2]; exact (by decide : zc_er (-5) = true)
    · rw [zb_m_yes hx] at h; exact absurd rfl h
theorem zb_o_er {O : zo_O} {t : Nat} {B : Nat → Int32} (r : Option Nat) (h : ¬ (zb_o O t B r).1 = 0) : zc_er (zb_o O t B r).1 = true := by
  by_cases h4 : zo_hf O t (nI 4) = true
  · rw [zb_o_x h4]; exact (by decide : zc_er (-5) = true)
  · have h4' : zo_hf O t (nI 4) = false := by simpa using h4
    cases r with
    | none => rw [zb_o_n h4']; exact (by decide : zc_er (-4) = true)
    | some j =>
      by_cases h8 : zb_nz (O 6 j) (nI 8) = true
      · rw [zb_o_h h4' h8]; exact (by decide : zc_er (-4) = true)
      · rw [zb_o_y h4' (by simpa using h8)] at h ⊢
        by_cases h5 : zb_nz (O 6 j) (nI 5) = true
        · rw [if_pos h5]; exact (by decide : zc_er (-5) = true)
        · rw [if_neg h5] at h; exact absurd rfl h
theorem zc_bd_er {O : zo_O} {k t nm ag : Nat} (hk : k < 7) (h : ¬ zc_bd O k t nm ag 0 = 0) : zc_er (zc_bd O k t nm ag 0) = true := by
  unfold zc_bd at h ⊢
  by_cases hb : zo_th O t = true ∧ zo_hf O t (nI 8) = false
  · rw [zb_bind_ok hb] at h ⊢
    rcases (show k = 0 ∨ k = 1 ∨ k = 2 ∨ k = 3 ∨ k = 4 ∨ k = 5 ∨ k = 6 by omega) with rfl | rfl | rfl | rfl | rfl | rfl | rfl
    · exact zb_f_er _ h
    · exact zb_f_er _ h
    · have e : zb_kd O 2 t nm ag (zb_b1 O t zc_Z) = zb_cr O 2 (zb_b1 O t zc_Z) (zb_cJ O t nm ag) := zb_cc_eq
      rw [e] at h ⊢
      exact zb_cr_er _ h
    · have e : zb_kd O 3 t nm ag (zb_b1 O t zc_Z) = zb_cr O 3 (zb_b1 O t zc_Z) (zb_cJ O t nm ag) := zb_cc_eq
      rw [e] at h ⊢
      exact zb_cr_er _ h
    · have h' : ¬ zb_if (zo_hf O t (nI 3)) (-5) (nI 0) = 0 := h
      show zc_er (zb_if (zo_hf O t (nI 3)) (-5) (nI 0)) = true
      cases q : zo_hf O t (nI 3) with
      | true => exact (by decide : zc_er (-5) = true)
      | false => rw [q] at h'; exact absurd rfl h'
    · have h' : ¬ zb_if (zo_hf O t (nI 4)) (-5) (nI 0) = 0 := h
      show zc_er (zb_if (zo_hf O t (nI 4)) (-5) (nI 0)) = true
      cases q : zo_hf O t (nI 4) with
      | true => exact (by decide : zc_er (-5) = true)
      | false => rw [q] at h'; exact absurd rfl h'
    · exact zb_o_er _ h
  · rw [zb_bind_no hb]; exact (by decide : zc_er (-3) = true)
def zm_st (f : Int32) : Int32 := if zc_er f = true then nI 0 else if f < 0 then nI 2 else nI 1
theorem zm_st_e {V : Nat → zo_O} {k t nm ag : Nat} (hk : k < 7) (h : ¬ zc_bd (V 0) k t nm ag 0 = 0) : zm_st (zc_fate V k t nm ag) = nI 0 := by
  rw [zc_fate, if_neg h, zm_st, if_pos (zc_bd_er hk h)]
theorem zm_st_o {V : Nat → zo_O} {k t nm ag : Nat} (hk : k < 7) (h : zc_bd (V 0) k t nm ag 0 = 0) : zm_st (zc_fate V k t nm ag) = if zc_fate V k t nm ag < 0 then nI 2 else nI 1 := by
  have e : zc_er (zc_fate V k t nm ag) = false := by rw [zc_fate, if_pos h]; exact zb_fw_er hk
  rw [zm_st, if_neg (by rw [e]; decide)]
theorem zm_st_2 (f : Int32) : decide (zm_st f = nI 2) = zc_br f := by
  unfold zm_st zc_br
  by_cases h : zc_er f = true
  · rw [if_pos h, h]; simp; decide
  · rw [if_neg h, show zc_er f = false by simpa using h]
    by_cases h0 : f < 0
    · rw [if_pos h0, decide_eq_true h0]; rfl
    · rw [if_neg h0, decide_eq_false h0]; decide
theorem zc_er_neg {f : Int32} (h : zc_er f = true) : f < 0 := by
  rcases of_decide_eq_true h with rfl | rfl | rfl <;> decide
theorem zm_st_1 (f : Int32) : decide (zm_st f = nI 1) = decide (¬ f < 0) := by
  unfold zm_st
  by_cases h : zc_er f = true
  · rw [if_pos h, show decide (¬ f < 0) = false from decide_eq_false (fun q => q (zc_er_neg h))]; decide
  · rw [if_neg h]
    by_cases h0 : f < 0
    · rw [if_pos h0, show decide (¬ f < 0) = false from decide_eq_false (fun q => q h0)]; decide
    · rw [if_neg h0, show decide (¬ f < 0) = true from decide_eq_true h0]; decide
theorem zc_cnt_add {f g h : Nat → Bool} (hf : ∀ j, f j = (g j || h j)) (hd : ∀ j, g j = true → h j = false) : ∀ n j a b, zc_cnt f n j (a + b) = zc_cnt g n j a + zc_cnt h n j b
  | 0, _, a, b => rfl
  | n + 1, j, a, b => by
    have e := hf j
    cases hg : g j with
    | true =>
      rw [hg] at e
      rw [zc_cnt_1 e, zc_cnt_1 hg, zc_cnt_0 (hd j hg), show a + b + 1 = (a + 1) + b by omega]
      exact zc_cnt_add hf hd n (j + 1) (a + 1) b
    | false =>
      rw [hg] at e
      cases hh : h j with
      | true =>
        rw [hh] at e
        rw [zc_cnt_1 e, zc_cnt_0 hg, zc_cnt_1 hh, show a + b + 1 = a + (b + 1) by omega]
        exact zc_cnt_add hf hd n (j + 1) a (b + 1)
      | false =>
        rw [hh] at e
        rw [zc_cnt_0 e, zc_cnt_0 hg, zc_cnt_0 hh]
        exact zc_cnt_add hf hd n (j + 1) a b
theorem zc_er_or (f : Int32) : (!zc_er f) = (decide (¬ f < 0) || zc_br f) := by
  unfold zc_br
  cases h : zc_er f with
  | true => rw [decide_eq_false (fun q => q (zc_er_neg h))]; simp
  | false => by_cases h0 : f < 0 <;> simp [h0]
theorem zc_br_dj (f : Int32) (h : decide (¬ f < 0) = true) : zc_br f = false := by
  unfold zc_br
  rw [decide_eq_false (of_decide_eq_true h)]; rfl
abbrev rm_M_state : Room := { frames := 5, cells := 0, slots := 0, locals := 135 }
set_option maxHeartbeats 4000000 in
set_option maxRecDepth 100000 in
/-- state -/
theorem sp_M_state (l : Launch) {h : zk_H} {V : Nat → zo_O} {S : zo_O} {us : Nat} {uk ut un : Nat → Nat} {ua : Nat → Int32} (hM : zm_at h S us) (hJ : zm_J V S us uk ut un ua) {j : Nat} (hj : j < us) {K : Option Value → zk_H → Prop} (hK : ∀ (h' : zk_H) (S' : zo_O), zm_pv h h' S S' us → K (some (.int (zm_st (zc_ft V uk ut un ua j)))) h') : zk_S l y_M_state b_M_state 2 (some .int) rm_M_state [.ref (38 + 1), .int (nI j)] h K := by
  obtain ⟨hm, s0, s1, s2, s3, s4, s5, s6, s7, s8, s9, s10, s11⟩ := id hM
  obtain ⟨hR, hok, hex, hu, hus, hS9⟩ := id hJ
  obtain ⟨uk7, ut6, un4, um⟩ := hu j hj
  obtain ⟨e0, e1, e2, e3⟩ := hS9 j hj
  refine zk_S_of R_M "state" (by decide) rfl rfl [some (.ref (38 + 1)), some (.int (nI j))] 0 rfl (Nat.le_of_ble_eq_true rfl) (fun p e s m ar below meth c D dA b base C => ?_)
  refine zr_aload_n C d_M_state_0 (n := 1) rfl rfl ?_
  refine zr_iload_n C d_M_state_1 (n := 2) rfl rfl ?_
  refine zr_iconst C d_M_state_2 (n := 3) rfl (v := nI 0) (by decide) ?_
  refine zr_callV2 C k_M_94 d_M_state_3 (nx := 6) rfl hm rfl ⟨by decide, by decide⟩ (Nat.le_of_ble_eq_true rfl) ⟨by decide, by decide⟩ (sp_M_bind l hM hR hok hex (v := 0) (by decide) (by omega) e0 e1 e2 e3 uk7 ut6 un4 um (fun h2 S2 mv2 hbw2 => ?_))
  obtain ⟨hm, s0, s1, s2, s3, s4, s5, s6, s7, s8, s9, s10, s11⟩ := id mv2.1
  rw [← mv2.2.1 9 (by decide)] at e0 e1 e2 e3
  refine zr_if_eq C d_M_state_6 (n := 9) rfl (t := 11) (by decide) (fun c1 => ?_) (fun c1 => ?_)
  · refine zr_aload_n C d_M_state_11 (n := 12) rfl rfl ?_
    refine zr_iload_n C d_M_state_12 (n := 13) rfl rfl ?_
    refine zr_callV1 C k_M_109 d_M_state_13 (nx := 16) rfl hm rfl ⟨by decide, by decide⟩ (Nat.le_of_ble_eq_true rfl) ⟨by decide, by decide⟩ (sp_M_linked l mv2.1 (zm_R_c hR mv2.2.1) hok hex (by omega) e0 e1 e2 e3 uk7 ut6 un4 um (fun h3 S3 mv3 => ?_))
    refine zr_if_ge C d_M_state_16 (n := 19) rfl (t := 23) (by decide) (fun c2 => ?_) (fun c2 => ?_)
    · refine zr_iconst C d_M_state_23 (n := 24) rfl (v := nI 1) (by decide) ?_
      have e9 : zm_st (zc_ft V uk ut un ua j) = nI 1 := (zm_st_o uk7 c1).trans (if_neg (Int32.not_lt.mpr c2))
      exact zr_iret (y := zm_st (zc_ft V uk ut un ua j)) C d_M_state_24 e9.symm (hK _ _ (zm_pv_t (zm_pv_m mv2) (zm_pv_m mv3))) (Nat.zero_le _) (Nat.zero_le _)
    · refine zr_iconst C d_M_state_19 (n := 20) rfl (v := nI 2) (by decide) ?_
      refine zr_goto C d_M_state_20 (t := 24) (by decide) ?_
      have e9 : zm_st (zc_ft V uk ut un ua j) = nI 2 := (zm_st_o uk7 c1).trans (if_pos (Int32.not_le.mp c2))
      exact zr_iret (y := zm_st (zc_ft V uk ut un ua j)) C d_M_state_24 e9.symm (hK _ _ (zm_pv_t (zm_pv_m mv2) (zm_pv_m mv3))) (Nat.zero_le _) (Nat.zero_le _)
  · refine zr_iconst C d_M_state_9 (n := 10) rfl (v := nI 0) (by decide) ?_
    have e9 : zm_st (zc_ft V uk ut un ua j) = nI 0 := zm_st_e uk7 c1
    exact zr_iret (y := zm_st (zc_ft V uk ut un ua j)) C d_M_state_10 e9.symm (hK _ _ (zm_pv_m mv2)) (Nat.zero_le _) (Nat.zero_le _)
abbrev rm_M_having : Room := { frames := 6, cells := 0, slots := 0, locals := 156 }
set_option maxHeartbeats 4000000 in
set_option maxRecDepth 100000 in
/-- having -/
theorem sp_M_having (l : Launch) {h : zk_H} {V : Nat → zo_O} {S : zo_O} {us : Nat} {uk ut un : Nat → Nat} {ua : Nat → Int32} (hM : zm_at h S us) (hJ : zm_J V S us uk ut un ua) {x : Int32} {K : Option Value → zk_H → Prop} (hK : ∀ (h' : zk_H) (S' : zo_O), zm_pv h h' S S' us → K (some (.int (nI (zc_cnt (fun u => decide (zm_st (zc_ft V uk ut un ua u) = x)) us 0 0)))) h') : zk_S l y_M_having b_M_having 4 (some .int) rm_M_having [.ref (38 + 1), .int x] h K := by
  obtain ⟨hm, s0, s1, s2, s3, s4, s5, s6, s7, s8, s9, s10, s11⟩ := id hM
  obtain ⟨hR, hok, hex, hu, hus, hS9⟩ := id hJ
  refine zk_S_of R_M "having" (by decide) rfl rfl [some (.ref (38 + 1)), some (.int x), none, none] 2 rfl (Nat.le_of_ble_eq_true rfl) (fun p e s m ar below meth c D dA b base C => ?_)
  have L : ∀ (n j a : Nat) (h1 : zk_H) (S1 : zo_O), zm_pv h h1 S S1 us → n + j = us → a ≤ j → (∀ (h' : zk_H) (S' : zo_O), zm_pv h h' S S' us → K (some (.int (nI (zc_cnt (fun u => decide (zm_st (zc_ft V uk ut un ua u) = x)) n j a)))) h') → zk_V p l e rm_M_having s m ar below meth c 4 D dA b base (MQ below (zk_Q K D dA b base) ar s rm_M_having.cells rm_M_having.slots (fun q : Nat => base ≤ q)) 0 0 4 [some (.ref (38 + 1)), some (.int x), some (.int (nI a)), some (.int (nI j))] [] h1 := by
    intro n
    induction n with
    | zero =>
      intro j a h1 S1 pv hn ha hK
      obtain ⟨hm, s0, s1, s2, s3, s4, s5, s6, s7, s8, s9, s10, s11⟩ := id pv.1
      refine zr_iload_n C d_M_having_4 (n := 5) rfl rfl ?_
      refine zr_aload_n C d_M_having_5 (n := 6) rfl rfl ?_
      refine zr_get C f_M_59 d_M_having_6 (n := 9) rfl hm rfl ?_
      refine zr_icmp_ge C d_M_having_9 (n := 12) rfl (t := 30) (by decide) (fun c1 => ?_) (fun c1 => ?_)
      · refine zr_iload_n C d_M_having_30 (n := 31) rfl rfl ?_
        exact zr_iret C d_M_having_31 rfl (hK _ _ pv) (Nat.zero_le _) (Nat.zero_le _)
      · exact absurd (zk_nle (by omega) (by omega) c1) (by omega)
    | succ n ih =>
      intro j a h1 S1 pv hn ha hK
      obtain ⟨hm, s0, s1, s2, s3, s4, s5, s6, s7, s8, s9, s10, s11⟩ := id pv.1
      refine zr_iload_n C d_M_having_4 (n := 5) rfl rfl ?_
      refine zr_aload_n C d_M_having_5 (n := 6) rfl rfl ?_
      refine zr_get C f_M_59 d_M_having_6 (n := 9) rfl hm rfl ?_
      refine zr_icmp_ge C d_M_having_9 (n := 12) rfl (t := 30) (by decide) (fun c1 => ?_) (fun c1 => ?_)
      · exact absurd (zk_le (by omega) (by omega) c1) (by omega)
      · refine zr_aload_n C d_M_having_12 (n := 13) rfl rfl ?_
        refine zr_iload_n C d_M_having_13 (n := 14) rfl rfl ?_
        refine zr_callV1 C k_M_115 d_M_having_14 (nx := 17) rfl hm rfl ⟨by decide, by decide⟩ (Nat.le_of_ble_eq_true rfl) ⟨by decide, by decide⟩ (sp_M_state l pv.1 (zm_J_c hJ pv.2.1) (j := j) (by omega) (fun h2 S2 pv2 => ?_))
        refine zr_iload_n C d_M_having_17 (n := 18) rfl rfl ?_
        refine zr_icmp_ne C d_M_having_18 (n := 21) rfl (t := 24) (by decide) (fun c2 => ?_) (fun c2 => ?_)
        · refine zr_iinc C d_M_having_24 (n := 27) rfl rfl (w := 1) (by decide) (nI_1 j) (by decide) rfl ?_
          refine zr_goto C d_M_having_27 (t := 4) (by decide) ?_
          exact ih (j + 1) a h2 S2 (zm_pv_t pv pv2) (by omega) (by omega) (by rw [zc_cnt_0 (f := (fun u => decide (zm_st (zc_ft V uk ut un ua u) = x))) (decide_eq_false c2)] at hK; exact hK)
        · refine zr_iinc C d_M_having_21 (n := 24) rfl rfl (w := 1) (by decide) (nI_1 a) (by decide) rfl ?_
          refine zr_iinc C d_M_having_24 (n := 27) rfl rfl (w := 1) (by decide) (nI_1 j) (by decide) rfl ?_
          refine zr_goto C d_M_having_27 (t := 4) (by decide) ?_
          exact ih (j + 1) (a + 1) h2 S2 (zm_pv_t pv pv2) (by omega) (by omega) (by rw [zc_cnt_1 (f := (fun u => decide (zm_st (zc_ft V uk ut un ua u) = x))) (decide_eq_true c2)] at hK; exact hK)
  refine zr_iconst C d_M_having_0 (n := 1) rfl (v := nI 0) (by decide) ?_
  refine zr_istore_n C d_M_having_1 (n := 2) rfl (by decide) rfl ?_
  refine zr_iconst C d_M_having_2 (n := 3) rfl (v := nI 0) (by decide) ?_
  refine zr_istore_n C d_M_having_3 (n := 4) rfl (by decide) rfl ?_
  exact L us 0 0 h S (zm_pv_r hM) rfl (Nat.le_refl 0) hK
abbrev rm_M_breaking : Room := { frames := 7, cells := 0, slots := 0, locals := 179 }
set_option maxHeartbeats 4000000 in
set_option maxRecDepth 100000 in
/-- breaking -/
theorem sp_M_breaking (l : Launch) {h : zk_H} {V : Nat → zo_O} {S : zo_O} {us : Nat} {uk ut un : Nat → Nat} {ua : Nat → Int32} (hM : zm_at h S us) (hJ : zm_J V S us uk ut un ua) {K : Option Value → zk_H → Prop} (hK : ∀ (h' : zk_H) (S' : zo_O), zm_pv h h' S S' us → K (some (.int (nI (zc_cnt (fun i => zc_br (zc_ft V uk ut un ua i)) us 0 0)))) h') : zk_S l y_M_breaking b_M_breaking 1 (some .int) rm_M_breaking [.ref (38 + 1)] h K := by
  obtain ⟨hm, s0, s1, s2, s3, s4, s5, s6, s7, s8, s9, s10, s11⟩ := id hM
  obtain ⟨hR, hok, hex, hu, hus, hS9⟩ := id hJ
  refine zk_S_of R_M "breaking" (by decide) rfl rfl [some (.ref (38 + 1))] 0 rfl (Nat.le_of_ble_eq_true rfl) (fun p e s m ar below meth c D dA b base C => ?_)
  refine zr_aload_n C d_M_breaking_0 (n := 1) rfl rfl ?_
  refine zr_iconst C d_M_breaking_1 (n := 2) rfl (v := nI 2) (by decide) ?_
  refine zr_callV1 C k_M_118 d_M_breaking_2 (nx := 5) rfl hm rfl ⟨by decide, by decide⟩ (Nat.le_of_ble_eq_true rfl) ⟨by decide, by decide⟩ (sp_M_having l hM hJ (x := nI 2) (fun h2 S2 pv2 => ?_))
  rw [((funext fun u => zm_st_2 (zc_ft V uk ut un ua u) : (fun u => decide (zm_st (zc_ft V uk ut un ua u) = nI 2)) = fun u => zc_br (zc_ft V uk ut un ua u)))]
  exact zr_iret C d_M_breaking_5 rfl (hK _ _ pv2) (Nat.zero_le _) (Nat.zero_le _)
abbrev rm_M_share : Room := { frames := 7, cells := 0, slots := 0, locals := 179 }
set_option maxHeartbeats 4000000 in
set_option maxRecDepth 100000 in
/-- share -/
theorem sp_M_share (l : Launch) {h : zk_H} {V : Nat → zo_O} {S : zo_O} {us : Nat} {uk ut un : Nat → Nat} {ua : Nat → Int32} (hM : zm_at h S us) (hJ : zm_J V S us uk ut un ua) {K : Option Value → zk_H → Prop} (hK : ∀ (h' : zk_H) (S' : zo_O), zm_pv h h' S S' us → K (some (.double (zc_share V uk ut un ua us))) h') : zk_S l y_M_share b_M_share 3 (some .double) rm_M_share [.ref (38 + 1)] h K := by
  obtain ⟨hm, s0, s1, s2, s3, s4, s5, s6, s7, s8, s9, s10, s11⟩ := id hM
  obtain ⟨hR, hok, hex, hu, hus, hS9⟩ := id hJ
  have eA : zc_cnt (fun i => !zc_er (zc_ft V uk ut un ua i)) us 0 0 = (zc_cnt (fun u => decide (¬ zc_ft V uk ut un ua u < 0)) us 0 0) + (zc_cnt (fun u => zc_br (zc_ft V uk ut un ua u)) us 0 0) := zc_cnt_add (fun j => zc_er_or _) (fun j => zc_br_dj _) us 0 0 0
  have eL := zc_cnt_le (f := fun i => !zc_er (zc_ft V uk ut un ua i)) us 0 0
  rw [zc_share, eA] at hK
  rw [eA] at eL
  refine zk_S_of R_M "share" (by decide) rfl rfl [some (.ref (38 + 1)), none, none] 2 rfl (Nat.le_of_ble_eq_true rfl) (fun p e s m ar below meth c D dA b base C => ?_)
  refine zr_aload_n C d_M_share_0 (n := 1) rfl rfl ?_
  refine zr_iconst C d_M_share_1 (n := 2) rfl (v := nI 1) (by decide) ?_
  refine zr_callV1 C k_M_118 d_M_share_2 (nx := 5) rfl hm rfl ⟨by decide, by decide⟩ (Nat.le_of_ble_eq_true rfl) ⟨by decide, by decide⟩ (sp_M_having l hM hJ (x := nI 1) (fun h2 S2 pv2 => ?_))
  rw [((funext fun u => zm_st_1 (zc_ft V uk ut un ua u) : (fun u => decide (zm_st (zc_ft V uk ut un ua u) = nI 1)) = fun u => decide (¬ zc_ft V uk ut un ua u < 0)))]
  obtain ⟨hm, s0, s1, s2, s3, s4, s5, s6, s7, s8, s9, s10, s11⟩ := id pv2.1
  refine zr_istore_n C d_M_share_5 (n := 6) rfl (by decide) rfl ?_
  refine zr_iload_n C d_M_share_6 (n := 7) rfl rfl ?_
  refine zr_aload_n C d_M_share_7 (n := 8) rfl rfl ?_
  refine zr_iconst C d_M_share_8 (n := 9) rfl (v := nI 2) (by decide) ?_
  refine zr_callV1 C k_M_118 d_M_share_9 (nx := 12) rfl hm rfl ⟨by decide, by decide⟩ (Nat.le_of_ble_eq_true rfl) ⟨by decide, by decide⟩ (sp_M_having l pv2.1 (zm_J_c hJ pv2.2.1) (x := nI 2) (fun h3 S3 pv3 => ?_))
  rw [((funext fun u => zm_st_2 (zc_ft V uk ut un ua u) : (fun u => decide (zm_st (zc_ft V uk ut un ua u) = nI 2)) = fun u => zc_br (zc_ft V uk ut un ua u)))]
  refine zr_iadd C d_M_share_12 (n := 13) rfl ?_
  refine zr_toe (by simp only [pk_mul, nI_add]; rfl) ?_
  refine zr_istore_n C d_M_share_13 (n := 14) rfl (by decide) rfl ?_
  refine zr_iload_n C d_M_share_14 (n := 15) rfl rfl ?_
  refine zr_if_ne C d_M_share_15 (n := 18) rfl (t := 22) (by decide) (fun c1 => ?_) (fun c1 => ?_)
  · refine zr_iload_n C d_M_share_22 (n := 23) rfl rfl ?_
    refine zr_i2d C d_M_share_23 (n := 24) rfl ?_
    refine zr_iload_n C d_M_share_24 (n := 25) rfl rfl ?_
    refine zr_i2d C d_M_share_25 (n := 26) rfl ?_
    refine zr_ddiv C d_M_share_26 (n := 27) rfl (zf_n64 (zf_ddiv _ (by omega) _ (by omega) (fun q => c1 (by rw [q]; rfl)))) ?_
    rw [zc_sh, if_neg (fun q => c1 (by rw [q]; rfl))] at hK
    exact zr_dret C d_M_share_27 rfl (hK _ _ (zm_pv_t pv2 pv3)) (Nat.zero_le _) (Nat.zero_le _)
  · refine zr_dconst1 C d_M_share_18 (n := 19) rfl ?_
    refine zr_goto C d_M_share_19 (t := 27) (by decide) ?_
    rw [zc_sh, if_pos (zk_n0 (by omega) c1)] at hK
    exact zr_dret C d_M_share_27 rfl (hK _ _ (zm_pv_t pv2 pv3)) (Nat.zero_le _) (Nat.zero_le _)
abbrev rm_M_broken : Room := { frames := 6, cells := 0, slots := 0, locals := 156 }
set_option maxHeartbeats 4000000 in
set_option maxRecDepth 100000 in
/-- broken -/
theorem sp_M_broken (l : Launch) {h : zk_H} {V : Nat → zo_O} {S : zo_O} {us : Nat} {uk ut un : Nat → Nat} {ua : Nat → Int32} (hM : zm_at h S us) (hJ : zm_J V S us uk ut un ua) {x : Int32} {K : Option Value → zk_H → Prop} (hK : ∀ (h' : zk_H) (S' : zo_O), zm_pv h h' S S' us → K (some (.int (zc_kth (fun i => zc_br (zc_ft V uk ut un ua i)) x us 0 0))) h') : zk_S l y_M_broken b_M_broken 4 (some .int) rm_M_broken [.ref (38 + 1), .int x] h K := by
  obtain ⟨hm, s0, s1, s2, s3, s4, s5, s6, s7, s8, s9, s10, s11⟩ := id hM
  obtain ⟨hR, hok, hex, hu, hus, hS9⟩ := id hJ
  refine zk_S_of R_M "broken" (by decide) rfl rfl [some (.ref (38 + 1)), some (.int x), none, none] 2 rfl (Nat.le_of_ble_eq_true rfl) (fun p e s m ar below meth c D dA b base C => ?_)
  have L : ∀ (n j a : Nat) (h1 : zk_H) (S1 : zo_O), zm_pv h h1 S S1 us → n + j = us → a ≤ j → (∀ (h' : zk_H) (S' : zo_O), zm_pv h h' S S' us → K (some (.int (zc_kth (fun i => zc_br (zc_ft V uk ut un ua i)) x n j a))) h') → zk_V p l e rm_M_broken s m ar below meth c 4 D dA b base (MQ below (zk_Q K D dA b base) ar s rm_M_broken.cells rm_M_broken.slots (fun q : Nat => base ≤ q)) 0 0 4 [some (.ref (38 + 1)), some (.int x), some (.int (nI a)), some (.int (nI j))] [] h1 := by
    intro n
    induction n with
    | zero =>
      intro j a h1 S1 pv hn ha hK
      obtain ⟨hm, s0, s1, s2, s3, s4, s5, s6, s7, s8, s9, s10, s11⟩ := id pv.1
      refine zr_iload_n C d_M_broken_4 (n := 5) rfl rfl ?_
      refine zr_aload_n C d_M_broken_5 (n := 6) rfl rfl ?_
      refine zr_get C f_M_59 d_M_broken_6 (n := 9) rfl hm rfl ?_
      refine zr_icmp_ge C d_M_broken_9 (n := 12) rfl (t := 40) (by decide) (fun c1 => ?_) (fun c1 => ?_)
      · refine zr_iconst C d_M_broken_40 (n := 41) rfl (v := -1) (by decide) ?_
        exact zr_iret C d_M_broken_41 rfl (hK _ _ pv) (Nat.zero_le _) (Nat.zero_le _)
      · exact absurd (zk_nle (by omega) (by omega) c1) (by omega)
    | succ n ih =>
      intro j a h1 S1 pv hn ha hK
      obtain ⟨hm, s0, s1, s2, s3, s4, s5, s6, s7, s8, s9, s10, s11⟩ := id pv.1
      refine zr_iload_n C d_M_broken_4 (n := 5) rfl rfl ?_
      refine zr_aload_n C d_M_broken_5 (n := 6) rfl rfl ?_
      refine zr_get C f_M_59 d_M_broken_6 (n := 9) rfl hm rfl ?_
      refine zr_icmp_ge C d_M_broken_9 (n := 12) rfl (t := 40) (by decide) (fun c1 => ?_) (fun c1 => ?_)
      · exact absurd (zk_le (by omega) (by omega) c1) (by omega)
      · refine zr_aload_n C d_M_broken_12 (n := 13) rfl rfl ?_
        refine zr_iload_n C d_M_broken_13 (n := 14) rfl rfl ?_
        refine zr_callV1 C k_M_115 d_M_broken_14 (nx := 17) rfl hm rfl ⟨by decide, by decide⟩ (Nat.le_of_ble_eq_true rfl) ⟨by decide, by decide⟩ (sp_M_state l pv.1 (zm_J_c hJ pv.2.1) (j := j) (by omega) (fun h2 S2 pv2 => ?_))
        refine zr_iconst C d_M_broken_17 (n := 18) rfl (v := nI 2) (by decide) ?_
        refine zr_icmp_eq C d_M_broken_18 (n := 21) rfl (t := 24) (by decide) (fun c2 => ?_) (fun c2 => ?_)
        · have c2 : (fun i => zc_br (zc_ft V uk ut un ua i)) j = true := (zm_st_2 (zc_ft V uk ut un ua j)).symm.trans (decide_eq_true c2)
          refine zr_iload_n C d_M_broken_24 (n := 25) rfl rfl ?_
          refine zr_iload_n C d_M_broken_25 (n := 26) rfl rfl ?_
          refine zr_icmp_ne C d_M_broken_26 (n := 29) rfl (t := 31) (by decide) (fun c3 => ?_) (fun c3 => ?_)
          · refine zr_iinc C d_M_broken_31 (n := 34) rfl rfl (w := 1) (by decide) (nI_1 a) (by decide) rfl ?_
            refine zr_iinc C d_M_broken_34 (n := 37) rfl rfl (w := 1) (by decide) (nI_1 j) (by decide) rfl ?_
            refine zr_goto C d_M_broken_37 (t := 4) (by decide) ?_
            exact ih (j + 1) (a + 1) h2 S2 (zm_pv_t pv pv2) (by omega) (by omega) (by rw [zc_kth_n c2 c3] at hK; exact hK)
          · refine zr_iload_n C d_M_broken_29 (n := 30) rfl rfl ?_
            rw [zc_kth_y c2 c3] at hK
            exact zr_iret C d_M_broken_30 rfl (hK _ _ (zm_pv_t pv pv2)) (Nat.zero_le _) (Nat.zero_le _)
        · have c2 : (fun i => zc_br (zc_ft V uk ut un ua i)) j = false := (zm_st_2 (zc_ft V uk ut un ua j)).symm.trans (decide_eq_false c2)
          refine zr_goto C d_M_broken_21 (t := 34) (by decide) ?_
          refine zr_iinc C d_M_broken_34 (n := 37) rfl rfl (w := 1) (by decide) (nI_1 j) (by decide) rfl ?_
          refine zr_goto C d_M_broken_37 (t := 4) (by decide) ?_
          exact ih (j + 1) a h2 S2 (zm_pv_t pv pv2) (by omega) (by omega) (by rw [zc_kth_0 c2] at hK; exact hK)
  refine zr_iconst C d_M_broken_0 (n := 1) rfl (v := nI 0) (by decide) ?_
  refine zr_istore_n C d_M_broken_1 (n := 2) rfl (by decide) rfl ?_
  refine zr_iconst C d_M_broken_2 (n := 3) rfl (v := nI 0) (by decide) ?_
  refine zr_istore_n C d_M_broken_3 (n := 4) rfl (by decide) rfl ?_
  exact L us 0 0 h S (zm_pv_r hM) rfl (Nat.le_refl 0) hK
