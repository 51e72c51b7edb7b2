/-- what more every run keeps of an offer -/
def zo_ex (O : zo_O) : Prop := (∀ j, j < 24 → ¬ O 3 j = -1 → zb_nz (O 3 j) (nI 16) = true → zb_nz (O 3 j) (nI 4) = true) ∧ (∀ t, t < 6 → O 0 t = -1 → (∀ i, i < 4 → O 3 (t * 4 + i) = -1) ∧ (∀ i, i < 12 → O 6 (t * 12 + i) = -1))
def zm_u (S : zo_O) (k : Nat) (f : Nat → Int32) : zo_O := fun i => if i = k then f else S i
/-- what a reading call of the reference leaves -/
def zm_mv (h h' : zk_H) (S S' : zo_O) (us v : Nat) : Prop := zm_at h' S' us ∧ (∀ k, k < 10 → S' k = S k) ∧ (∀ i, i < 38 → h'[i]? = h[i]?) ∧ h'.length = h.length ∧ (∀ i, ¬ (7 * v ≤ i ∧ i < 7 * v + 7) → S' 10 i = S 10 i)
theorem zm_mv_r {h : zk_H} {S : zo_O} {us v : Nat} (hM : zm_at h S us) : zm_mv h h S S us v := ⟨hM, fun _ _ => rfl, fun _ _ => rfl, rfl, fun _ _ => rfl⟩
theorem zm_mv_t {h h1 h2 : zk_H} {S S1 S2 : zo_O} {us v : Nat} (a : zm_mv h h1 S S1 us v) (b : zm_mv h1 h2 S1 S2 us v) : zm_mv h h2 S S2 us v := ⟨b.1, fun k hk => (b.2.1 k hk).trans (a.2.1 k hk), fun i hi => (b.2.2.1 i hi).trans (a.2.2.1 i hi), b.2.2.2.1.trans a.2.2.2.1, fun i hi => (b.2.2.2.2 i hi).trans (a.2.2.2.2 i hi)⟩
theorem zm_at_10 {h : zk_H} {S : zo_O} {us : Nat} {f : Nat → Int32} (hM : zm_at h S us) : zm_at (h.set 49 (.inl (0, 14, .inl f))) (zm_u S 10 f) us := by
  obtain ⟨hm, s0, s1, s2, s3, s4, s5, s6, s7, s8, s9, s10, s11⟩ := hM
  exact ⟨zk_g1 (by omega) hm, zk_g1 (by omega) s0, zk_g1 (by omega) s1, zk_g1 (by omega) s2, zk_g1 (by omega) s3, zk_g1 (by omega) s4, zk_g1 (by omega) s5, zk_g1 (by omega) s6, zk_g1 (by omega) s7, zk_g1 (by omega) s8, zk_g1 (by omega) s9, zk_g0 s10, zk_g1 (by omega) s11⟩
theorem zm_at_11 {h : zk_H} {S : zo_O} {us : Nat} {f : Nat → Int32} (hM : zm_at h S us) : zm_at (h.set 50 (.inl (0, 200, .inl f))) (zm_u S 11 f) us := by
  obtain ⟨hm, s0, s1, s2, s3, s4, s5, s6, s7, s8, s9, s10, s11⟩ := hM
  exact ⟨zk_g1 (by omega) hm, zk_g1 (by omega) s0, zk_g1 (by omega) s1, zk_g1 (by omega) s2, zk_g1 (by omega) s3, zk_g1 (by omega) s4, zk_g1 (by omega) s5, zk_g1 (by omega) s6, zk_g1 (by omega) s7, zk_g1 (by omega) s8, zk_g1 (by omega) s9, zk_g1 (by omega) s10, zk_g0 s11⟩
theorem zm_u_n {S : zo_O} {k i : Nat} {f : Nat → Int32} (h : i ≠ k) : zm_u S k f i = S i := if_neg h
theorem zm_mv_11 {h : zk_H} {S : zo_O} {us v : Nat} {f : Nat → Int32} (hM : zm_at h S us) : zm_mv h (h.set 50 (.inl (0, 200, .inl f))) S (zm_u S 11 f) us v := ⟨zm_at_11 hM, fun k hk => zm_u_n (by omega), fun i hi => zk_gs (by omega), by simp only [List.length_set], fun _ _ => rfl⟩
theorem zm_mv_10 {h : zk_H} {S : zo_O} {us v : Nat} {f : Nat → Int32} (hM : zm_at h S us) (hf : ∀ i, ¬ (7 * v ≤ i ∧ i < 7 * v + 7) → f i = S 10 i) : zm_mv h (h.set 49 (.inl (0, 14, .inl f))) S (zm_u S 10 f) us v := ⟨zm_at_10 hM, fun k hk => zm_u_n (by omega), fun i hi => zk_gs (by omega), by simp only [List.length_set], hf⟩
theorem zm_mv_2 {h : zk_H} {S : zo_O} {us v : Nat} {f g : Nat → Int32} (hM : zm_at h S us) (hf : ∀ i, ¬ (7 * v ≤ i ∧ i < 7 * v + 7) → f i = S 10 i) : zm_mv h ((h.set 50 (.inl (0, 200, .inl g))).set 49 (.inl (0, 14, .inl f))) S (zm_u (zm_u S 11 g) 10 f) us v := zm_mv_t (zm_mv_11 hM) (zm_mv_10 (zm_at_11 hM) hf)
theorem zm_R_c {V : Nat → zo_O} {S S' : zo_O} (hR : zm_R V S) (hc : ∀ k, k < 10 → S' k = S k) : zm_R V S' := by
  unfold zm_R
  rw [hc 0 (by decide), hc 1 (by decide), hc 2 (by decide), hc 3 (by decide), hc 4 (by decide), hc 5 (by decide), hc 6 (by decide), hc 7 (by decide), hc 8 (by decide)]
  exact hR
/-- what the reference keeps of a binding, beside what the class keeps of it -/
def zm_bw (k ag : Nat) (B w : Nat → Int32) : Prop := (k < 2 → w 0 = B 2 ∧ w 1 = B 3 ∧ w 2 = 0 ∧ w 3 = (if B 2 = 0 then B 5 else 0) ∧ w 4 = 0 ∧ w 5 = (if B 2 = 0 then 0 else B 4)) ∧ (k = 2 ∨ k = 3 → w 0 = 0 ∧ w 1 = B 6 ∧ w 2 = B 7 ∧ w 3 = B 5 ∧ w 4 = B 1 ∧ w 5 = 0 ∧ w 6 = B 8) ∧ (k = 4 → w 0 = 0 ∧ w 1 = 0 ∧ w 2 = 0 ∧ w 3 = 0 ∧ w 4 = 0 ∧ w 5 = 0) ∧ (k = 5 → w 0 = 0 ∧ w 1 = 0 ∧ w 2 = 0 ∧ w 3 = 0 ∧ w 4 = B 1 ∧ w 5 = 0) ∧ (k = 6 → w 0 = 0 ∧ w 1 = nI ag ∧ w 2 = B 7 ∧ w 3 = 0 ∧ w 4 = 0 ∧ w 5 = 0)
theorem zo_ff_th {O : zo_O} (hw : zo_wf O) {nm : Nat} (hnm : nm < 4) {kd : Int32} : ∀ d t, t < 6 → zo_ff O nm kd d t = -1 ∨ ∃ j, j < 24 ∧ zo_ff O nm kd d t = nI j ∧ ¬ O 3 j = -1
  | 0, t, _ => Or.inl rfl
  | d + 1, t, ht => by
    rw [zo_ff]
    by_cases h : ¬ O 3 (t * 4 + nm) = -1 ∧ (kd = -1 ∨ O 4 (t * 4 + nm) = kd)
    · rw [if_pos h]; exact Or.inr ⟨t * 4 + nm, by omega, rfl, h.1⟩
    · rw [if_neg h]
      refine zo_ffL_pl2 (P := fun r => r = -1 ∨ ∃ j, j < 24 ∧ r = nI j ∧ ¬ O 3 j = -1) ?_ t 0 (fun k hk => zo_ff_th hw hnm d k (by omega))
      by_cases h6 : O 1 t = nI 6
      · rw [if_pos h6]; exact Or.inl rfl
      · rw [if_neg h6]
        obtain ⟨s, hs, e⟩ := (hw t ht).resolve_left h6
        rw [e, nI_clamp (by omega)]
        exact zo_ff_th hw hnm d s (by omega)
theorem zo_ma_th {O : zo_O} {j : Nat} {x : Int32} (h : zo_ma O j x = true) : ¬ O 6 j = -1 := (of_decide_eq_true h).1
theorem zo_mi_th {O : zo_O} {nm pa : Nat} (hnm : nm < 3) (hpa : pa < 4) {an x : Int32} : ∀ n, n ≤ 6 → zo_mi O nm pa an x n = -1 ∨ ∃ j, j < 72 ∧ zo_mi O nm pa an x n = nI j ∧ j % 4 = pa ∧ ¬ O 6 j = -1
  | 0, _ => Or.inl rfl
  | n + 1, hn => by
    rw [zo_mi]
    by_cases h : zk_bit x n = true ∧ zo_hf O n (nI 1) = true ∧ zo_ma O (n * 12 + nm * 4 + pa) an = true
    · rw [if_pos h]; exact Or.inr ⟨n * 12 + nm * 4 + pa, by omega, rfl, by omega, zo_ma_th h.2.2⟩
    · rw [if_neg h]; exact zo_mi_th hnm hpa n (by omega)
theorem zo_mc_th {O : zo_O} (hw : zo_wf O) {nm pa : Nat} (hnm : nm < 3) (hpa : pa < 4) {an z : Int32} (hz : z = -1 ∨ ∃ j, j < 72 ∧ z = nI j ∧ j % 4 = pa ∧ ¬ O 6 j = -1) : ∀ n hd, hd ≤ 6 → zo_mc O nm pa an z n hd = -1 ∨ ∃ j, j < 72 ∧ zo_mc O nm pa an z n hd = nI j ∧ j % 4 = pa ∧ ¬ O 6 j = -1
  | 0, _, _ => hz
  | n + 1, hd, hhd => by
    by_cases h6 : hd = 6
    · subst h6; rw [zo_mc_end]; exact hz
    · rw [zo_mc, if_neg h6]
      by_cases h : zo_ma O (hd * 12 + nm * 4 + pa) an = true
      · rw [if_pos h]; exact Or.inr ⟨hd * 12 + nm * 4 + pa, by omega, rfl, by omega, zo_ma_th h⟩
      · rw [if_neg h]
        obtain ⟨s, hs, e⟩ := zo_wf_up hw (t := hd) (by omega)
        rw [e, nI_clamp (by omega)]
        exact zo_mc_th hw hnm hpa hz n s hs
theorem zo_fm_th {O : zo_O} (hw : zo_wf O) {t nm pa : Nat} (ht : t < 6) (hnm : nm < 3) (hpa : pa < 4) {an : Int32} : zo_fm O t nm pa an = -1 ∨ ∃ j, j < 72 ∧ zo_fm O t nm pa an = nI j ∧ j % 4 = pa ∧ ¬ O 6 j = -1 := zo_mc_th hw hnm hpa (zo_mi_th hnm hpa 6 (Nat.le_refl 6)) 6 t (by omega)
theorem zm_w5 {f : Nat → Int32} {a : Nat} {X Y Z W : Int32} (hZ : ∀ i, i < 7 → f (a + i) = 0) {g : Nat → Int32} (hg : g = upd (upd (upd (upd f a X) (a + 1) Y) (a + 3) Z) (a + 5) W) : g (a + 0) = X ∧ g (a + 1) = Y ∧ g (a + 2) = 0 ∧ g (a + 3) = Z ∧ g (a + 4) = 0 ∧ g (a + 5) = W := by
  subst hg
  simp only [upd]
  refine ⟨?_, ?_, ?_, ?_, ?_, ?_⟩ <;> repeat (first | rw [if_pos trivial] | rw [if_pos (by omega)] | rw [if_neg (by omega)])
  · exact hZ 2 (by decide)
  · exact hZ 4 (by decide)
theorem zm_o5 {f : Nat → Int32} {v : Nat} {X Y Z W : Int32} (i : Nat) (hi : ¬ (7 * v ≤ i ∧ i < 7 * v + 7)) : upd (upd (upd (upd f (7 * v) X) (7 * v + 1) Y) (7 * v + 3) Z) (7 * v + 5) W i = f i := by
  simp only [upd]
  repeat (first | rw [if_pos trivial] | rw [if_pos (by omega)] | rw [if_neg (by omega)])
theorem zm_bw_f {k ag : Nat} (hk : k < 2) {B w : Nat → Int32} (h : w 0 = B 2 ∧ w 1 = B 3 ∧ w 2 = 0 ∧ w 3 = (if B 2 = 0 then B 5 else 0) ∧ w 4 = 0 ∧ w 5 = (if B 2 = 0 then 0 else B 4)) : zm_bw k ag B w := ⟨fun _ => h, fun q => by omega, fun q => by omega, fun q => by omega, fun q => by omega⟩
/-- bindField's two ends -/
theorem zm_bw_c {O : zo_O} {j k ag a : Nat} (hk : k < 2) {B f g : Nat → Int32} (hc : zb_nz (O 3 j) (nI 16) = true) (hZ : ∀ i, i < 7 → f (a + i) = 0) (hg : g = upd (upd (upd (upd f a (nI 1)) (a + 1) (O 4 j)) (a + 3) (nI 0)) (a + 5) (O 5 j)) : zm_bw k ag (zb_fin (nI 0, upd (upd (upd (upd B 2 (zk_b (zb_nz (O 3 j) (nI 16)))) 3 (O 4 j)) 4 (O 5 j)) 5 (zk_b (zb_nz (O 3 j) (nI 1))))) (fun i => g (a + i)) := by
  obtain ⟨g0, g1, g2, g3, g4, g5⟩ := zm_w5 hZ hg
  rw [hc]
  exact zm_bw_f hk ⟨g0, g1, g2, g3, g4, g5⟩
theorem zm_bw_n {O : zo_O} {j k ag a : Nat} (hk : k < 2) {B f g : Nat → Int32} (hc : zb_nz (O 3 j) (nI 16) = false) (hZ : ∀ i, i < 7 → f (a + i) = 0) (hg : g = upd (upd (upd (upd f a (nI 0)) (a + 1) (O 4 j)) (a + 3) (zk_b (zb_nz (O 3 j) (nI 1)))) (a + 5) (nI 0)) : zm_bw k ag (zb_fin (nI 0, upd (upd (upd (upd B 2 (zk_b (zb_nz (O 3 j) (nI 16)))) 3 (O 4 j)) 4 (O 5 j)) 5 (zk_b (zb_nz (O 3 j) (nI 1))))) (fun i => g (a + i)) := by
  obtain ⟨g0, g1, g2, g3, g4, g5⟩ := zm_w5 hZ hg
  rw [hc]
  exact zm_bw_f hk ⟨g0, g1, g2, g3, g4, g5⟩
abbrev rm_M_bindField : Room := { frames := 1, cells := 0, slots := 0, locals := 28 }
set_option maxHeartbeats 4000000 in
set_option maxRecDepth 100000 in
/-- bindField -/
theorem sp_M_bindField (l : Launch) {h : zk_H} {V : Nat → zo_O} {S : zo_O} {us : Nat} (hM : zm_at h S us) (hR : zm_R V S) (hok : ∀ v, v < 2 → zo_ok (V v)) (hex : ∀ v, v < 2 → zo_ex (V v)) {v : Nat} (hv : v < 2) (hZ : ∀ i, i < 7 → S 10 (7 * v + i) = 0) {k t nm ag : Nat} (hk : k < 2) (ht : t < 6) (hnm : nm < 4) (hth : zo_th (V v) t = true) {K : Option Value → zk_H → Prop} (hK : ∀ (h' : zk_H) (S' : zo_O), zm_mv h h' S S' us v → ((zb_f (V v) k (zb_b1 (V v) t zc_Z) (zb_pl (zo_ff (V v) nm (-1) 6 t))).1 = 0 → zm_bw k ag (zb_fin (zb_f (V v) k (zb_b1 (V v) t zc_Z) (zb_pl (zo_ff (V v) nm (-1) 6 t)))) (fun i => S' 10 (7 * v + i))) → K (some (.int (zb_f (V v) k (zb_b1 (V v) t zc_Z) (zb_pl (zo_ff (V v) nm (-1) 6 t))).1)) h') : zk_S l y_M_bindField b_M_bindField 7 (some .int) rm_M_bindField [.ref (38 + 1), .int (nI v), .int (nI k), .int (nI t), .int (nI nm)] h K := by
  obtain ⟨hm, s0, s1, s2, s3, s4, s5, s6, s7, s8, s9, s10, s11⟩ := id hM
  refine zk_S_of R_M "bindField" (by decide) rfl rfl [some (.ref (38 + 1)), some (.int (nI v)), some (.int (nI k)), some (.int (nI t)), some (.int (nI nm)), none, none] 2 rfl (Nat.le_of_ble_eq_true rfl) (fun p e s m ar below meth c D dA b base C => ?_)
  rcases zo_ff_th (zo_ok_wf (hok v hv)) hnm (kd := -1) 6 t ht with e9 | ⟨j, hj, e9, hne⟩
  · rcases (show k = 0 ∨ k = 1 by omega) with rfl | rfl
    · refine zr_bipush C d_M_bindField_0 (n := 2) rfl (v := nI 7) (by decide) ?_
      refine zr_iload_n C d_M_bindField_2 (n := 3) rfl rfl ?_
      refine zr_imul C d_M_bindField_3 (n := 4) rfl ?_
      refine zr_toe (by simp only [pk_mul, nI_add]; rfl) ?_
      refine zr_istore C d_M_bindField_4 (n := 6) rfl (by decide) rfl ?_
      refine zr_aload_n C d_M_bindField_6 (n := 7) rfl rfl ?_
      refine zr_iload_n C d_M_bindField_7 (n := 8) rfl rfl ?_
      refine zr_iload_n C d_M_bindField_8 (n := 9) rfl rfl ?_
      refine zr_iload C d_M_bindField_9 (n := 11) rfl rfl ?_
      refine zr_iconst C d_M_bindField_11 (n := 12) rfl (v := -1) (by decide) ?_
      refine zr_callV4 C k_M_69 d_M_bindField_12 (nx := 15) rfl hm rfl ⟨by decide, by decide⟩ (Nat.le_of_ble_eq_true rfl) ⟨by decide, by decide⟩ (sp_M_findField l hM hR hok hv ht hnm hth (Or.inl rfl) (fun f => ?_))
      refine zr_toe (y := -1) (by rw [e9, zm_p_n]) ?_
      refine zr_istore C d_M_bindField_15 (n := 17) rfl (by decide) rfl ?_
      refine zr_iload C d_M_bindField_17 (n := 19) rfl rfl ?_
      refine zr_if_lt C d_M_bindField_19 (n := 22) rfl (t := 35) (by decide) (fun c1 => ?_) (fun c1 => ?_)
      · refine zr_bipush C d_M_bindField_35 (n := 37) rfl (v := -4) (by decide) ?_
        rw [e9, zb_pl_n, zb_f_n] at hK
        exact zr_iret C d_M_bindField_37 rfl (hK _ _ (zm_mv_11 hM) (fun q => absurd q zb_m4)) (Nat.zero_le _) (Nat.zero_le _)
      · exact absurd (by decide) c1
    · refine zr_bipush C d_M_bindField_0 (n := 2) rfl (v := nI 7) (by decide) ?_
      refine zr_iload_n C d_M_bindField_2 (n := 3) rfl rfl ?_
      refine zr_imul C d_M_bindField_3 (n := 4) rfl ?_
      refine zr_toe (by simp only [pk_mul, nI_add]; rfl) ?_
      refine zr_istore C d_M_bindField_4 (n := 6) rfl (by decide) rfl ?_
      refine zr_aload_n C d_M_bindField_6 (n := 7) rfl rfl ?_
      refine zr_iload_n C d_M_bindField_7 (n := 8) rfl rfl ?_
      refine zr_iload_n C d_M_bindField_8 (n := 9) rfl rfl ?_
      refine zr_iload C d_M_bindField_9 (n := 11) rfl rfl ?_
      refine zr_iconst C d_M_bindField_11 (n := 12) rfl (v := -1) (by decide) ?_
      refine zr_callV4 C k_M_69 d_M_bindField_12 (nx := 15) rfl hm rfl ⟨by decide, by decide⟩ (Nat.le_of_ble_eq_true rfl) ⟨by decide, by decide⟩ (sp_M_findField l hM hR hok hv ht hnm hth (Or.inl rfl) (fun f => ?_))
      refine zr_toe (y := -1) (by rw [e9, zm_p_n]) ?_
      refine zr_istore C d_M_bindField_15 (n := 17) rfl (by decide) rfl ?_
      refine zr_iload C d_M_bindField_17 (n := 19) rfl rfl ?_
      refine zr_if_lt C d_M_bindField_19 (n := 22) rfl (t := 35) (by decide) (fun c1 => ?_) (fun c1 => ?_)
      · refine zr_bipush C d_M_bindField_35 (n := 37) rfl (v := -4) (by decide) ?_
        rw [e9, zb_pl_n, zb_f_n] at hK
        exact zr_iret C d_M_bindField_37 rfl (hK _ _ (zm_mv_11 hM) (fun q => absurd q zb_m4)) (Nat.zero_le _) (Nat.zero_le _)
      · exact absurd (by decide) c1
  · rcases (show k = 0 ∨ k = 1 by omega) with rfl | rfl
    · refine zr_bipush C d_M_bindField_0 (n := 2) rfl (v := nI 7) (by decide) ?_
      refine zr_iload_n C d_M_bindField_2 (n := 3) rfl rfl ?_
      refine zr_imul C d_M_bindField_3 (n := 4) rfl ?_
      refine zr_toe (by simp only [pk_mul, nI_add]; rfl) ?_
      refine zr_istore C d_M_bindField_4 (n := 6) rfl (by decide) rfl ?_
      refine zr_aload_n C d_M_bindField_6 (n := 7) rfl rfl ?_
      refine zr_iload_n C d_M_bindField_7 (n := 8) rfl rfl ?_
      refine zr_iload_n C d_M_bindField_8 (n := 9) rfl rfl ?_
      refine zr_iload C d_M_bindField_9 (n := 11) rfl rfl ?_
      refine zr_iconst C d_M_bindField_11 (n := 12) rfl (v := -1) (by decide) ?_
      refine zr_callV4 C k_M_69 d_M_bindField_12 (nx := 15) rfl hm rfl ⟨by decide, by decide⟩ (Nat.le_of_ble_eq_true rfl) ⟨by decide, by decide⟩ (sp_M_findField l hM hR hok hv ht hnm hth (Or.inl rfl) (fun f => ?_))
      refine zr_toe (y := nI (24 * v + j)) (by rw [e9, zm_p_s (by omega)]) ?_
      refine zr_istore C d_M_bindField_15 (n := 17) rfl (by decide) rfl ?_
      refine zr_iload C d_M_bindField_17 (n := 19) rfl rfl ?_
      refine zr_if_lt C d_M_bindField_19 (n := 22) rfl (t := 35) (by decide) (fun c1 => ?_) (fun c1 => ?_)
      · exact absurd c1 (nI_pos (by omega))
      · refine zr_aload_n C d_M_bindField_22 (n := 23) rfl rfl ?_
        refine zr_get C f_M_26 d_M_bindField_23 (n := 26) rfl (zk_g1 (by omega) hm) rfl ?_
        refine zr_iload C d_M_bindField_26 (n := 28) rfl rfl ?_
        refine zr_ialdN C d_M_bindField_28 (n := 29) rfl (zk_g1 (by omega) s5) rfl (by omega) (by decide) ?_
        refine zr_toe (y := V v 3 j) (((hR v hv).2.1 j (by omega)).2 hne).2.1 ?_
        refine zr_bipush C d_M_bindField_29 (n := 31) rfl (v := nI 8) (by decide) ?_
        refine zr_iand C d_M_bindField_31 (n := 32) rfl ?_
        refine zr_if_eq C d_M_bindField_32 (n := 35) rfl (t := 38) (by decide) (fun c2 => ?_) (fun c2 => ?_)
        · replace c2 := zb_nzf c2
          refine zr_iload_n C d_M_bindField_38 (n := 39) rfl rfl ?_
          refine zr_iconst C d_M_bindField_39 (n := 40) rfl (v := nI 1) (by decide) ?_
          refine zr_icmp_ne C d_M_bindField_40 (n := 43) rfl (t := 58) (by decide) (fun c3 => ?_) (fun c3 => ?_)
          · refine zr_aload_n C d_M_bindField_58 (n := 59) rfl rfl ?_
            refine zr_get C f_M_41 d_M_bindField_59 (n := 62) rfl (zk_g1 (by omega) hm) rfl ?_
            refine zr_iload C d_M_bindField_62 (n := 64) rfl rfl ?_
            refine zr_iload_n C d_M_bindField_64 (n := 65) rfl rfl ?_
            refine zr_if_ne C d_M_bindField_65 (n := 68) rfl (t := 85) (by decide) (fun c4 => ?_) (fun c4 => ?_)
            · exact absurd rfl c4
            · refine zr_aload_n C d_M_bindField_68 (n := 69) rfl rfl ?_
              refine zr_get C f_M_26 d_M_bindField_69 (n := 72) rfl (zk_g1 (by omega) hm) rfl ?_
              refine zr_iload C d_M_bindField_72 (n := 74) rfl rfl ?_
              refine zr_ialdN C d_M_bindField_74 (n := 75) rfl (zk_g1 (by omega) s5) rfl (by omega) (by decide) ?_
              refine zr_toe (y := V v 3 j) (((hR v hv).2.1 j (by omega)).2 hne).2.1 ?_
              refine zr_bipush C d_M_bindField_75 (n := 77) rfl (v := nI 16) (by decide) ?_
              refine zr_iand C d_M_bindField_77 (n := 78) rfl ?_
              refine zr_if_eq C d_M_bindField_78 (n := 81) rfl (t := 85) (by decide) (fun c5 => ?_) (fun c5 => ?_)
              · replace c5 := zb_nzf c5
                refine zr_iconst C d_M_bindField_85 (n := 86) rfl (v := nI 0) (by decide) ?_
                refine zr_iastN C d_M_bindField_86 (n := 87) rfl (zk_g1 (by omega) s10) rfl (by omega) (by decide) ?_
                refine zr_aload_n C d_M_bindField_87 (n := 88) rfl rfl ?_
                refine zr_get C f_M_41 d_M_bindField_88 (n := 91) rfl (zk_g1 (by omega) (zk_g1 (by omega) hm)) rfl ?_
                refine zr_iload C d_M_bindField_91 (n := 93) rfl rfl ?_
                refine zr_iconst C d_M_bindField_93 (n := 94) rfl (v := nI 1) (by decide) ?_
                refine zr_iadd C d_M_bindField_94 (n := 95) rfl ?_
                refine zr_toe (by simp only [pk_mul, nI_add]; rfl) ?_
                refine zr_aload_n C d_M_bindField_95 (n := 96) rfl rfl ?_
                refine zr_get C f_M_23 d_M_bindField_96 (n := 99) rfl (zk_g1 (by omega) (zk_g1 (by omega) hm)) rfl ?_
                refine zr_iload C d_M_bindField_99 (n := 101) rfl rfl ?_
                refine zr_ialdN C d_M_bindField_101 (n := 102) rfl (zk_g1 (by omega) (zk_g1 (by omega) s4)) rfl (by omega) (by decide) ?_
                refine zr_toe (y := V v 4 j) (((hR v hv).2.1 j (by omega)).2 hne).1 ?_
                refine zr_iastN C d_M_bindField_102 (n := 103) rfl (zk_g0 (zk_g1 (by omega) s10)) rfl (by omega) (by decide) ?_
                rw [zk_sset]
                refine zr_aload_n C d_M_bindField_103 (n := 104) rfl rfl ?_
                refine zr_get C f_M_41 d_M_bindField_104 (n := 107) rfl (zk_g1 (by omega) (zk_g1 (by omega) hm)) rfl ?_
                refine zr_iload C d_M_bindField_107 (n := 109) rfl rfl ?_
                refine zr_iconst C d_M_bindField_109 (n := 110) rfl (v := nI 3) (by decide) ?_
                refine zr_iadd C d_M_bindField_110 (n := 111) rfl ?_
                refine zr_toe (by simp only [pk_mul, nI_add]; rfl) ?_
                refine zr_aload_n C d_M_bindField_111 (n := 112) rfl rfl ?_
                refine zr_get C f_M_41 d_M_bindField_112 (n := 115) rfl (zk_g1 (by omega) (zk_g1 (by omega) hm)) rfl ?_
                refine zr_iload C d_M_bindField_115 (n := 117) rfl rfl ?_
                refine zr_ialdN C d_M_bindField_117 (n := 118) rfl (zk_g0 (zk_g1 (by omega) s10)) rfl (by omega) (by decide) ?_
                refine zr_toe ((pk_un (by omega)).trans pk_us) ?_
                refine zr_iconst C d_M_bindField_118 (n := 119) rfl (v := nI 1) (by decide) ?_
                refine zr_icmp_ne C d_M_bindField_119 (n := 122) rfl (t := 126) (by decide) (fun c6 => ?_) (fun c6 => ?_)
                · refine zr_aload_n C d_M_bindField_126 (n := 127) rfl rfl ?_
                  refine zr_get C f_M_26 d_M_bindField_127 (n := 130) rfl (zk_g1 (by omega) (zk_g1 (by omega) hm)) rfl ?_
                  refine zr_iload C d_M_bindField_130 (n := 132) rfl rfl ?_
                  refine zr_ialdN C d_M_bindField_132 (n := 133) rfl (zk_g1 (by omega) (zk_g1 (by omega) s5)) rfl (by omega) (by decide) ?_
                  refine zr_toe (y := V v 3 j) (((hR v hv).2.1 j (by omega)).2 hne).2.1 ?_
                  refine zr_iconst C d_M_bindField_133 (n := 134) rfl (v := nI 1) (by decide) ?_
                  refine zr_callS2 C k_M_73 d_M_bindField_134 (nx := 137) rfl ⟨by decide, by decide⟩ (Nat.le_of_ble_eq_true rfl) ⟨by decide, by decide⟩ (sp_M_bit l ?_)
                  refine zr_iastN C d_M_bindField_137 (n := 138) rfl (zk_g0 (zk_g1 (by omega) s10)) rfl (by omega) (by decide) ?_
                  rw [zk_sset]
                  refine zr_aload_n C d_M_bindField_138 (n := 139) rfl rfl ?_
                  refine zr_get C f_M_41 d_M_bindField_139 (n := 142) rfl (zk_g1 (by omega) (zk_g1 (by omega) hm)) rfl ?_
                  refine zr_iload C d_M_bindField_142 (n := 144) rfl rfl ?_
                  refine zr_iconst C d_M_bindField_144 (n := 145) rfl (v := nI 5) (by decide) ?_
                  refine zr_iadd C d_M_bindField_145 (n := 146) rfl ?_
                  refine zr_toe (by simp only [pk_mul, nI_add]; rfl) ?_
                  refine zr_aload_n C d_M_bindField_146 (n := 147) rfl rfl ?_
                  refine zr_get C f_M_41 d_M_bindField_147 (n := 150) rfl (zk_g1 (by omega) (zk_g1 (by omega) hm)) rfl ?_
                  refine zr_iload C d_M_bindField_150 (n := 152) rfl rfl ?_
                  refine zr_ialdN C d_M_bindField_152 (n := 153) rfl (zk_g0 (zk_g1 (by omega) s10)) rfl (by omega) (by decide) ?_
                  refine zr_toe ((pk_un (by omega)).trans ((pk_un (by omega)).trans pk_us)) ?_
                  refine zr_iconst C d_M_bindField_153 (n := 154) rfl (v := nI 1) (by decide) ?_
                  refine zr_icmp_ne C d_M_bindField_154 (n := 157) rfl (t := 167) (by decide) (fun c7 => ?_) (fun c7 => ?_)
                  · refine zr_iconst C d_M_bindField_167 (n := 168) rfl (v := nI 0) (by decide) ?_
                    refine zr_iastN C d_M_bindField_168 (n := 169) rfl (zk_g0 (zk_g1 (by omega) s10)) rfl (by omega) (by decide) ?_
                    rw [zk_sset]
                    refine zr_iconst C d_M_bindField_169 (n := 170) rfl (v := nI 0) (by decide) ?_
                    rw [e9, zb_pl_s (by omega), zb_f_y c2 (fun q => absurd q.1 (by decide))] at hK
                    exact zr_iret C d_M_bindField_170 rfl (hK _ _ (zm_mv_2 hM zm_o5) (fun _ => zm_bw_n (by decide) c5 hZ rfl)) (Nat.zero_le _) (Nat.zero_le _)
                  · exact absurd c7 (by decide)
                · exact absurd c6 (by decide)
              · replace c5 := zb_nzt c5
                refine zr_iconst C d_M_bindField_81 (n := 82) rfl (v := nI 1) (by decide) ?_
                refine zr_goto C d_M_bindField_82 (t := 86) (by decide) ?_
                refine zr_iastN C d_M_bindField_86 (n := 87) rfl (zk_g1 (by omega) s10) rfl (by omega) (by decide) ?_
                refine zr_aload_n C d_M_bindField_87 (n := 88) rfl rfl ?_
                refine zr_get C f_M_41 d_M_bindField_88 (n := 91) rfl (zk_g1 (by omega) (zk_g1 (by omega) hm)) rfl ?_
                refine zr_iload C d_M_bindField_91 (n := 93) rfl rfl ?_
                refine zr_iconst C d_M_bindField_93 (n := 94) rfl (v := nI 1) (by decide) ?_
                refine zr_iadd C d_M_bindField_94 (n := 95) rfl ?_
                refine zr_toe (by simp only [pk_mul, nI_add]; rfl) ?_
                refine zr_aload_n C d_M_bindField_95 (n := 96) rfl rfl ?_
                refine zr_get C f_M_23 d_M_bindField_96 (n := 99) rfl (zk_g1 (by omega) (zk_g1 (by omega) hm)) rfl ?_
                refine zr_iload C d_M_bindField_99 (n := 101) rfl rfl ?_
                refine zr_ialdN C d_M_bindField_101 (n := 102) rfl (zk_g1 (by omega) (zk_g1 (by omega) s4)) rfl (by omega) (by decide) ?_
                refine zr_toe (y := V v 4 j) (((hR v hv).2.1 j (by omega)).2 hne).1 ?_
                refine zr_iastN C d_M_bindField_102 (n := 103) rfl (zk_g0 (zk_g1 (by omega) s10)) rfl (by omega) (by decide) ?_
                rw [zk_sset]
                refine zr_aload_n C d_M_bindField_103 (n := 104) rfl rfl ?_
                refine zr_get C f_M_41 d_M_bindField_104 (n := 107) rfl (zk_g1 (by omega) (zk_g1 (by omega) hm)) rfl ?_
                refine zr_iload C d_M_bindField_107 (n := 109) rfl rfl ?_
                refine zr_iconst C d_M_bindField_109 (n := 110) rfl (v := nI 3) (by decide) ?_
                refine zr_iadd C d_M_bindField_110 (n := 111) rfl ?_
                refine zr_toe (by simp only [pk_mul, nI_add]; rfl) ?_
                refine zr_aload_n C d_M_bindField_111 (n := 112) rfl rfl ?_
                refine zr_get C f_M_41 d_M_bindField_112 (n := 115) rfl (zk_g1 (by omega) (zk_g1 (by omega) hm)) rfl ?_
                refine zr_iload C d_M_bindField_115 (n := 117) rfl rfl ?_
                refine zr_ialdN C d_M_bindField_117 (n := 118) rfl (zk_g0 (zk_g1 (by omega) s10)) rfl (by omega) (by decide) ?_
                refine zr_toe ((pk_un (by omega)).trans pk_us) ?_
                refine zr_iconst C d_M_bindField_118 (n := 119) rfl (v := nI 1) (by decide) ?_
                refine zr_icmp_ne C d_M_bindField_119 (n := 122) rfl (t := 126) (by decide) (fun c8 => ?_) (fun c8 => ?_)
                · exact absurd rfl c8
                · refine zr_iconst C d_M_bindField_122 (n := 123) rfl (v := nI 0) (by decide) ?_
                  refine zr_goto C d_M_bindField_123 (t := 137) (by decide) ?_
                  refine zr_iastN C d_M_bindField_137 (n := 138) rfl (zk_g0 (zk_g1 (by omega) s10)) rfl (by omega) (by decide) ?_
                  rw [zk_sset]
                  refine zr_aload_n C d_M_bindField_138 (n := 139) rfl rfl ?_
                  refine zr_get C f_M_41 d_M_bindField_139 (n := 142) rfl (zk_g1 (by omega) (zk_g1 (by omega) hm)) rfl ?_
                  refine zr_iload C d_M_bindField_142 (n := 144) rfl rfl ?_
                  refine zr_iconst C d_M_bindField_144 (n := 145) rfl (v := nI 5) (by decide) ?_
                  refine zr_iadd C d_M_bindField_145 (n := 146) rfl ?_
                  refine zr_toe (by simp only [pk_mul, nI_add]; rfl) ?_
                  refine zr_aload_n C d_M_bindField_146 (n := 147) rfl rfl ?_
                  refine zr_get C f_M_41 d_M_bindField_147 (n := 150) rfl (zk_g1 (by omega) (zk_g1 (by omega) hm)) rfl ?_
                  refine zr_iload C d_M_bindField_150 (n := 152) rfl rfl ?_
                  refine zr_ialdN C d_M_bindField_152 (n := 153) rfl (zk_g0 (zk_g1 (by omega) s10)) rfl (by omega) (by decide) ?_
                  refine zr_toe ((pk_un (by omega)).trans ((pk_un (by omega)).trans pk_us)) ?_
                  refine zr_iconst C d_M_bindField_153 (n := 154) rfl (v := nI 1) (by decide) ?_
                  refine zr_icmp_ne C d_M_bindField_154 (n := 157) rfl (t := 167) (by decide) (fun c9 => ?_) (fun c9 => ?_)
                  · exact absurd rfl c9
                  · refine zr_aload_n C d_M_bindField_157 (n := 158) rfl rfl ?_
                    refine zr_get C f_M_29 d_M_bindField_158 (n := 161) rfl (zk_g1 (by omega) (zk_g1 (by omega) hm)) rfl ?_
                    refine zr_iload C d_M_bindField_161 (n := 163) rfl rfl ?_
                    refine zr_ialdN C d_M_bindField_163 (n := 164) rfl (zk_g1 (by omega) (zk_g1 (by omega) s6)) rfl (by omega) (by decide) ?_
                    refine zr_toe (y := V v 5 j) ((((hR v hv).2.1 j (by omega)).2 hne).2.2 c5) ?_
                    refine zr_goto C d_M_bindField_164 (t := 168) (by decide) ?_
                    refine zr_iastN C d_M_bindField_168 (n := 169) rfl (zk_g0 (zk_g1 (by omega) s10)) rfl (by omega) (by decide) ?_
                    rw [zk_sset]
                    refine zr_iconst C d_M_bindField_169 (n := 170) rfl (v := nI 0) (by decide) ?_
                    rw [e9, zb_pl_s (by omega), zb_f_y c2 (fun q => absurd q.1 (by decide))] at hK
                    exact zr_iret C d_M_bindField_170 rfl (hK _ _ (zm_mv_2 hM zm_o5) (fun _ => zm_bw_c (by decide) c5 hZ rfl)) (Nat.zero_le _) (Nat.zero_le _)
          · exact absurd c3 (by decide)
        · replace c2 := zb_nzt c2
          refine zr_bipush C d_M_bindField_35 (n := 37) rfl (v := -4) (by decide) ?_
          rw [e9, zb_pl_s (by omega), zb_f_h c2] at hK
          exact zr_iret C d_M_bindField_37 rfl (hK _ _ (zm_mv_11 hM) (fun q => absurd q zb_m4)) (Nat.zero_le _) (Nat.zero_le _)
    · refine zr_bipush C d_M_bindField_0 (n := 2) rfl (v := nI 7) (by decide) ?_
      refine zr_iload_n C d_M_bindField_2 (n := 3) rfl rfl ?_
      refine zr_imul C d_M_bindField_3 (n := 4) rfl ?_
      refine zr_toe (by simp only [pk_mul, nI_add]; rfl) ?_
      refine zr_istore C d_M_bindField_4 (n := 6) rfl (by decide) rfl ?_
      refine zr_aload_n C d_M_bindField_6 (n := 7) rfl rfl ?_
      refine zr_iload_n C d_M_bindField_7 (n := 8) rfl rfl ?_
      refine zr_iload_n C d_M_bindField_8 (n := 9) rfl rfl ?_
      refine zr_iload C d_M_bindField_9 (n := 11) rfl rfl ?_
      refine zr_iconst C d_M_bindField_11 (n := 12) rfl (v := -1) (by decide) ?_
      refine zr_callV4 C k_M_69 d_M_bindField_12 (nx := 15) rfl hm rfl ⟨by decide, by decide⟩ (Nat.le_of_ble_eq_true rfl) ⟨by decide, by decide⟩ (sp_M_findField l hM hR hok hv ht hnm hth (Or.inl rfl) (fun f => ?_))
      refine zr_toe (y := nI (24 * v + j)) (by rw [e9, zm_p_s (by omega)]) ?_
      refine zr_istore C d_M_bindField_15 (n := 17) rfl (by decide) rfl ?_
      refine zr_iload C d_M_bindField_17 (n := 19) rfl rfl ?_
      refine zr_if_lt C d_M_bindField_19 (n := 22) rfl (t := 35) (by decide) (fun c1 => ?_) (fun c1 => ?_)
      · exact absurd c1 (nI_pos (by omega))
      · refine zr_aload_n C d_M_bindField_22 (n := 23) rfl rfl ?_
        refine zr_get C f_M_26 d_M_bindField_23 (n := 26) rfl (zk_g1 (by omega) hm) rfl ?_
        refine zr_iload C d_M_bindField_26 (n := 28) rfl rfl ?_
        refine zr_ialdN C d_M_bindField_28 (n := 29) rfl (zk_g1 (by omega) s5) rfl (by omega) (by decide) ?_
        refine zr_toe (y := V v 3 j) (((hR v hv).2.1 j (by omega)).2 hne).2.1 ?_
        refine zr_bipush C d_M_bindField_29 (n := 31) rfl (v := nI 8) (by decide) ?_
        refine zr_iand C d_M_bindField_31 (n := 32) rfl ?_
        refine zr_if_eq C d_M_bindField_32 (n := 35) rfl (t := 38) (by decide) (fun c2 => ?_) (fun c2 => ?_)
        · replace c2 := zb_nzf c2
          refine zr_iload_n C d_M_bindField_38 (n := 39) rfl rfl ?_
          refine zr_iconst C d_M_bindField_39 (n := 40) rfl (v := nI 1) (by decide) ?_
          refine zr_icmp_ne C d_M_bindField_40 (n := 43) rfl (t := 58) (by decide) (fun c3 => ?_) (fun c3 => ?_)
          · exact absurd rfl c3
          · refine zr_aload_n C d_M_bindField_43 (n := 44) rfl rfl ?_
            refine zr_get C f_M_26 d_M_bindField_44 (n := 47) rfl (zk_g1 (by omega) hm) rfl ?_
            refine zr_iload C d_M_bindField_47 (n := 49) rfl rfl ?_
            refine zr_ialdN C d_M_bindField_49 (n := 50) rfl (zk_g1 (by omega) s5) rfl (by omega) (by decide) ?_
            refine zr_toe (y := V v 3 j) (((hR v hv).2.1 j (by omega)).2 hne).2.1 ?_
            refine zr_iconst C d_M_bindField_50 (n := 51) rfl (v := nI 4) (by decide) ?_
            refine zr_iand C d_M_bindField_51 (n := 52) rfl ?_
            refine zr_if_eq C d_M_bindField_52 (n := 55) rfl (t := 58) (by decide) (fun c4 => ?_) (fun c4 => ?_)
            · replace c4 := zb_nzf c4
              refine zr_aload_n C d_M_bindField_58 (n := 59) rfl rfl ?_
              refine zr_get C f_M_41 d_M_bindField_59 (n := 62) rfl (zk_g1 (by omega) hm) rfl ?_
              refine zr_iload C d_M_bindField_62 (n := 64) rfl rfl ?_
              refine zr_iload_n C d_M_bindField_64 (n := 65) rfl rfl ?_
              refine zr_if_ne C d_M_bindField_65 (n := 68) rfl (t := 85) (by decide) (fun c5 => ?_) (fun c5 => ?_)
              · refine zr_iconst C d_M_bindField_85 (n := 86) rfl (v := nI 0) (by decide) ?_
                refine zr_iastN C d_M_bindField_86 (n := 87) rfl (zk_g1 (by omega) s10) rfl (by omega) (by decide) ?_
                refine zr_aload_n C d_M_bindField_87 (n := 88) rfl rfl ?_
                refine zr_get C f_M_41 d_M_bindField_88 (n := 91) rfl (zk_g1 (by omega) (zk_g1 (by omega) hm)) rfl ?_
                refine zr_iload C d_M_bindField_91 (n := 93) rfl rfl ?_
                refine zr_iconst C d_M_bindField_93 (n := 94) rfl (v := nI 1) (by decide) ?_
                refine zr_iadd C d_M_bindField_94 (n := 95) rfl ?_
                refine zr_toe (by simp only [pk_mul, nI_add]; rfl) ?_
                refine zr_aload_n C d_M_bindField_95 (n := 96) rfl rfl ?_
                refine zr_get C f_M_23 d_M_bindField_96 (n := 99) rfl (zk_g1 (by omega) (zk_g1 (by omega) hm)) rfl ?_
                refine zr_iload C d_M_bindField_99 (n := 101) rfl rfl ?_
                refine zr_ialdN C d_M_bindField_101 (n := 102) rfl (zk_g1 (by omega) (zk_g1 (by omega) s4)) rfl (by omega) (by decide) ?_
                refine zr_toe (y := V v 4 j) (((hR v hv).2.1 j (by omega)).2 hne).1 ?_
                refine zr_iastN C d_M_bindField_102 (n := 103) rfl (zk_g0 (zk_g1 (by omega) s10)) rfl (by omega) (by decide) ?_
                rw [zk_sset]
                refine zr_aload_n C d_M_bindField_103 (n := 104) rfl rfl ?_
                refine zr_get C f_M_41 d_M_bindField_104 (n := 107) rfl (zk_g1 (by omega) (zk_g1 (by omega) hm)) rfl ?_
                refine zr_iload C d_M_bindField_107 (n := 109) rfl rfl ?_
                refine zr_iconst C d_M_bindField_109 (n := 110) rfl (v := nI 3) (by decide) ?_
                refine zr_iadd C d_M_bindField_110 (n := 111) rfl ?_
                refine zr_toe (by simp only [pk_mul, nI_add]; rfl) ?_
                refine zr_aload_n C d_M_bindField_111 (n := 112) rfl rfl ?_
                refine zr_get C f_M_41 d_M_bindField_112 (n := 115) rfl (zk_g1 (by omega) (zk_g1 (by omega) hm)) rfl ?_
                refine zr_iload C d_M_bindField_115 (n := 117) rfl rfl ?_
                refine zr_ialdN C d_M_bindField_117 (n := 118) rfl (zk_g0 (zk_g1 (by omega) s10)) rfl (by omega) (by decide) ?_
                refine zr_toe ((pk_un (by omega)).trans pk_us) ?_
                refine zr_iconst C d_M_bindField_118 (n := 119) rfl (v := nI 1) (by decide) ?_
                refine zr_icmp_ne C d_M_bindField_119 (n := 122) rfl (t := 126) (by decide) (fun c6 => ?_) (fun c6 => ?_)
                · refine zr_aload_n C d_M_bindField_126 (n := 127) rfl rfl ?_
                  refine zr_get C f_M_26 d_M_bindField_127 (n := 130) rfl (zk_g1 (by omega) (zk_g1 (by omega) hm)) rfl ?_
                  refine zr_iload C d_M_bindField_130 (n := 132) rfl rfl ?_
                  refine zr_ialdN C d_M_bindField_132 (n := 133) rfl (zk_g1 (by omega) (zk_g1 (by omega) s5)) rfl (by omega) (by decide) ?_
                  refine zr_toe (y := V v 3 j) (((hR v hv).2.1 j (by omega)).2 hne).2.1 ?_
                  refine zr_iconst C d_M_bindField_133 (n := 134) rfl (v := nI 1) (by decide) ?_
                  refine zr_callS2 C k_M_73 d_M_bindField_134 (nx := 137) rfl ⟨by decide, by decide⟩ (Nat.le_of_ble_eq_true rfl) ⟨by decide, by decide⟩ (sp_M_bit l ?_)
                  refine zr_iastN C d_M_bindField_137 (n := 138) rfl (zk_g0 (zk_g1 (by omega) s10)) rfl (by omega) (by decide) ?_
                  rw [zk_sset]
                  refine zr_aload_n C d_M_bindField_138 (n := 139) rfl rfl ?_
                  refine zr_get C f_M_41 d_M_bindField_139 (n := 142) rfl (zk_g1 (by omega) (zk_g1 (by omega) hm)) rfl ?_
                  refine zr_iload C d_M_bindField_142 (n := 144) rfl rfl ?_
                  refine zr_iconst C d_M_bindField_144 (n := 145) rfl (v := nI 5) (by decide) ?_
                  refine zr_iadd C d_M_bindField_145 (n := 146) rfl ?_
                  refine zr_toe (by simp only [pk_mul, nI_add]; rfl) ?_
                  refine zr_aload_n C d_M_bindField_146 (n := 147) rfl rfl ?_
                  refine zr_get C f_M_41 d_M_bindField_147 (n := 150) rfl (zk_g1 (by omega) (zk_g1 (by omega) hm)) rfl ?_
                  refine zr_iload C d_M_bindField_150 (n := 152) rfl rfl ?_
                  refine zr_ialdN C d_M_bindField_152 (n := 153) rfl (zk_g0 (zk_g1 (by omega) s10)) rfl (by omega) (by decide) ?_
                  refine zr_toe ((pk_un (by omega)).trans ((pk_un (by omega)).trans pk_us)) ?_
                  refine zr_iconst C d_M_bindField_153 (n := 154) rfl (v := nI 1) (by decide) ?_
                  refine zr_icmp_ne C d_M_bindField_154 (n := 157) rfl (t := 167) (by decide) (fun c7 => ?_) (fun c7 => ?_)
                  · refine zr_iconst C d_M_bindField_167 (n := 168) rfl (v := nI 0) (by decide) ?_
                    refine zr_iastN C d_M_bindField_168 (n := 169) rfl (zk_g0 (zk_g1 (by omega) s10)) rfl (by omega) (by decide) ?_
                    rw [zk_sset]
                    refine zr_iconst C d_M_bindField_169 (n := 170) rfl (v := nI 0) (by decide) ?_
                    have hc : zb_nz (V v 3 j) (nI 16) = false := by
                      cases q16 : zb_nz (V v 3 j) (nI 16) with
                      | false => rfl
                      | true => exact absurd (c4.symm.trans ((hex v hv).1 j (by omega) hne q16)) (by decide)
                    rw [e9, zb_pl_s (by omega), zb_f_y c2 (fun q => absurd (c4.symm.trans q.2) (by decide))] at hK
                    exact zr_iret C d_M_bindField_170 rfl (hK _ _ (zm_mv_2 hM zm_o5) (fun _ => zm_bw_n (by decide) hc hZ rfl)) (Nat.zero_le _) (Nat.zero_le _)
                  · exact absurd c7 (by decide)
                · exact absurd c6 (by decide)
              · exact absurd c5 (by decide)
            · replace c4 := zb_nzt c4
              refine zr_bipush C d_M_bindField_55 (n := 57) rfl (v := -5) (by decide) ?_
              rw [e9, zb_pl_s (by omega), zb_f_x c2 ⟨rfl, c4⟩] at hK
              exact zr_iret C d_M_bindField_57 rfl (hK _ _ (zm_mv_11 hM) (fun q => absurd q zb_m5)) (Nat.zero_le _) (Nat.zero_le _)
        · replace c2 := zb_nzt c2
          refine zr_bipush C d_M_bindField_35 (n := 37) rfl (v := -4) (by decide) ?_
          rw [e9, zb_pl_s (by omega), zb_f_h c2] at hK
          exact zr_iret C d_M_bindField_37 rfl (hK _ _ (zm_mv_11 hM) (fun q => absurd q zb_m4)) (Nat.zero_le _) (Nat.zero_le _)
