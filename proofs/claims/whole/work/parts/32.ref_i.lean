/-- both states beside each other -/
def zm_J (V : Nat → zo_O) (S : zo_O) (us : Nat) (uk ut un : Nat → Nat) (ua : Nat → Int32) : Prop := zm_R V S ∧ (∀ v, v < 2 → zo_ok (V v)) ∧ (∀ v, v < 2 → zo_ex (V v)) ∧ zc_uv uk ut un ua us ∧ us ≤ 16 ∧ (∀ j, j < us → S 9 (4 * j) = nI (uk j) ∧ S 9 (4 * j + 1) = nI (ut j) ∧ S 9 (4 * j + 2) = nI (un j) ∧ S 9 (4 * j + 3) = ua j)
theorem zm_J_c {V : Nat → zo_O} {S S' : zo_O} {us : Nat} {uk ut un : Nat → Nat} {ua : Nat → Int32} (hJ : zm_J V S us uk ut un ua) (hc : ∀ k, k < 10 → S' k = S k) : zm_J V S' us uk ut un ua := ⟨zm_R_c hJ.1 hc, hJ.2.1, hJ.2.2.1, hJ.2.2.2.1, hJ.2.2.2.2.1, by rw [hc 9 (by decide)]; exact hJ.2.2.2.2.2⟩
/-- what a public call that only reads leaves -/
def zm_pv (h h' : zk_H) (S S' : zo_O) (us : Nat) : Prop := zm_at h' S' us ∧ (∀ k, k < 10 → S' k = S k) ∧ (∀ i, i < 38 → h'[i]? = h[i]?) ∧ h'.length = h.length
theorem zm_pv_r {h : zk_H} {S : zo_O} {us : Nat} (hM : zm_at h S us) : zm_pv h h S S us := ⟨hM, fun _ _ => rfl, fun _ _ => rfl, rfl⟩
theorem zm_pv_t {h h1 h2 : zk_H} {S S1 S2 : zo_O} {us : Nat} (a : zm_pv h h1 S S1 us) (b : zm_pv h1 h2 S1 S2 us) : zm_pv h h2 S S2 us := ⟨b.1, fun k hk => (b.2.1 k hk).trans (a.2.1 k hk), fun i hi => (b.2.2.1 i hi).trans (a.2.2.1 i hi), b.2.2.2.trans a.2.2.2⟩
theorem zm_pv_m {h h1 : zk_H} {S S1 : zo_O} {us v : Nat} (a : zm_mv h h1 S S1 us v) : zm_pv h h1 S S1 us := ⟨a.1, a.2.1, a.2.2.1, a.2.2.2.1⟩
theorem zc_in_bl {x y : Int32} {n : Nat} (hn : n < 2147483648) (hy : y = nI n + (-1)) : zc_in x (nI 0) y = zc_bl x (nI n) := by
  subst hy
  unfold zc_in zc_bl
  have e : ∀ z : Int32, (¬ z < nI 0 ∧ ¬ nI n + (-1) < z) ↔ (¬ z < 0 ∧ ¬ nI n ≤ z) := by
    intro z
    rw [nI_0]
    refine and_congr_right (fun h0 => ?_)
    cases n with
    | zero => exact ⟨fun h => absurd (Int32.lt_of_lt_of_le (by decide) (Int32.not_lt.mp h0)) h, fun h => absurd (Int32.not_lt.mp h0) h⟩
    | succ k =>
      rw [pk_sn]
      rw [Int32.not_lt, Int32.not_le, Int32.le_iff_toInt_le, Int32.lt_iff_toInt_lt, nI_toInt (by omega), nI_toInt (by omega)]
      omega
  exact decide_eq_decide.mpr (e x)
theorem zc_in_us {x : Int32} {n : Nat} (hn : n < 2147483648) : zc_in x (nI 0) (nI n - nI 1) = zc_bl x (nI n) := zc_in_bl hn (by rw [Int32.sub_eq_add_neg]; rfl)
theorem zc_in_1 {x : Int32} : zc_in x (nI 0) (nI 1) = zc_bl x (nI 2) := zc_in_bl (by decide) (by decide)
theorem zc_in_5 {x : Int32} : zc_in x (nI 0) (nI 5) = zc_bl x (nI 6) := zc_in_bl (by decide) (by decide)
theorem zc_in_3 {x : Int32} : zc_in x (nI 0) (nI 3) = zc_bl x (nI 4) := zc_in_bl (by decide) (by decide)
theorem zc_in_2 {x : Int32} : zc_in x (nI 0) (nI 2) = zc_bl x (nI 3) := zc_in_bl (by decide) (by decide)
theorem zc_in_4 {x : Int32} : zc_in x (nI 0) (nI 4) = zc_bl x (nI 5) := zc_in_bl (by decide) (by decide)
theorem zc_in_6 {x : Int32} : zc_in x (nI 0) (nI 6) = zc_bl x (nI 7) := zc_in_bl (by decide) (by decide)
theorem zc_in_15 {x : Int32} : zc_in x (nI 0) (nI 15) = zc_bl x (nI 16) := zc_in_bl (by decide) (by decide)
theorem zc_in_63 {x : Int32} : zc_in x (nI 0) (nI 63) = zc_bl x (nI 64) := zc_in_bl (by decide) (by decide)
theorem zc_in_23 {x : Int32} : zc_in x (nI 0) (nI 23) = zc_bl x (nI 24) := zc_in_bl (by decide) (by decide)
theorem zc_in_31 {x : Int32} : zc_in x (nI 0) (nI 31) = zc_bl x (nI 32) := zc_in_bl (by decide) (by decide)
theorem zc_in_11 {x : Int32} : zc_in x (nI 0) (nI 11) = zc_bl x (nI 12) := zc_in_bl (by decide) (by decide)
theorem zm_bw_e {k ag : Nat} {B w w' : Nat → Int32} (h : ∀ i, i < 7 → w' i = w i) (hb : zm_bw k ag B w) : zm_bw k ag B w' := by
  unfold zm_bw
  rw [h 0 (by decide), h 1 (by decide), h 2 (by decide), h 3 (by decide), h 4 (by decide), h 5 (by decide), h 6 (by decide)]
  exact hb
/-- the class finds two bindings the same just when the reference does -/
theorem zm_sa {k ag : Nat} (hk : k < 7) {B E w z : Nat → Int32} (h : zm_bw k ag B w) (g : zm_bw k ag E z) : zb_sa k B E = true ↔ ∀ i, i < 6 → w i = z i := by
  have six : (∀ i, i < 6 → w i = z i) ↔ (w 0 = z 0 ∧ w 1 = z 1 ∧ w 2 = z 2 ∧ w 3 = z 3 ∧ w 4 = z 4 ∧ w 5 = z 5) := by
    refine ⟨fun q => ⟨q 0 (by decide), q 1 (by decide), q 2 (by decide), q 3 (by decide), q 4 (by decide), q 5 (by decide)⟩, ?_⟩
    rintro ⟨q0, q1, q2, q3, q4, q5⟩ i hi
    rcases (show i = 0 ∨ i = 1 ∨ i = 2 ∨ i = 3 ∨ i = 4 ∨ i = 5 by omega) with rfl | rfl | rfl | rfl | rfl | rfl
    · exact q0
    · exact q1
    · exact q2
    · exact q3
    · exact q4
    · exact q5
  rw [six]
  have hsf : k < 2 → (zb_sf B E = true ↔ (w 0 = z 0 ∧ w 1 = z 1 ∧ w 2 = z 2 ∧ w 3 = z 3 ∧ w 4 = z 4 ∧ w 5 = z 5)) := by
    intro h2
    obtain ⟨a0, a1, a2, a3, a4, a5⟩ := h.1 h2
    obtain ⟨b0, b1, b2, b3, b4, b5⟩ := g.1 h2
    rw [a0, a1, a2, a3, a4, a5, b0, b1, b2, b3, b4, b5, zb_sf, decide_eq_true_iff]
    by_cases e2 : B 2 = E 2
    · rw [← e2]
      by_cases e0 : B 2 = 0
      · simp only [if_pos e0, true_and, and_true]
      · simp only [if_neg e0, true_and]
    · exact ⟨fun q => absurd q.1 e2, fun q => absurd q.1 e2⟩
  have hsm : k = 2 ∨ k = 3 → (decide (B 6 = E 6 ∧ B 7 = E 7 ∧ B 5 = E 5 ∧ B 1 = E 1) = true ↔ (w 0 = z 0 ∧ w 1 = z 1 ∧ w 2 = z 2 ∧ w 3 = z 3 ∧ w 4 = z 4 ∧ w 5 = z 5)) := by
    intro h2
    obtain ⟨a0, a1, a2, a3, a4, a5, -⟩ := h.2.1 h2
    obtain ⟨b0, b1, b2, b3, b4, b5, -⟩ := g.2.1 h2
    rw [a0, a1, a2, a3, a4, a5, b0, b1, b2, b3, b4, b5, decide_eq_true_iff]
    simp only [true_and, and_true]
  rcases (show k = 0 ∨ k = 1 ∨ k = 2 ∨ k = 3 ∨ k = 4 ∨ k = 5 ∨ k = 6 by omega) with rfl | rfl | rfl | rfl | rfl | rfl | rfl
  · exact hsf (by decide)
  · exact hsf (by decide)
  · exact hsm (by decide)
  · exact hsm (by decide)
  · obtain ⟨a0, a1, a2, a3, a4, a5⟩ := h.2.2.1 rfl
    obtain ⟨b0, b1, b2, b3, b4, b5⟩ := g.2.2.1 rfl
    rw [a0, a1, a2, a3, a4, a5, b0, b1, b2, b3, b4, b5]
    exact ⟨fun _ => ⟨rfl, rfl, rfl, rfl, rfl, rfl⟩, fun _ => rfl⟩
  · obtain ⟨a0, a1, a2, a3, a4, a5⟩ := h.2.2.2.1 rfl
    obtain ⟨b0, b1, b2, b3, b4, b5⟩ := g.2.2.2.1 rfl
    rw [a0, a1, a2, a3, a4, a5, b0, b1, b2, b3, b4, b5]
    show decide (B 1 = E 1) = true ↔ _
    rw [decide_eq_true_iff]
    simp only [true_and, and_true]
  · obtain ⟨a0, a1, a2, a3, a4, a5⟩ := h.2.2.2.2 rfl
    obtain ⟨b0, b1, b2, b3, b4, b5⟩ := g.2.2.2.2 rfl
    rw [a0, a1, a2, a3, a4, a5, b0, b1, b2, b3, b4, b5]
    show decide (B 7 = E 7) = true ↔ _
    rw [decide_eq_true_iff]
    simp only [true_and, and_true]
theorem zm_w0 {O : zo_O} {k t nm ag : Nat} {w : Nat → Int32} (hk : k < 7) (he : zc_bd O k t nm ag 0 = 0) (h : zm_bw k ag (zc_bd O k t nm ag) w) : w 0 = zc_bd O k t nm ag 2 := by
  rcases (show k = 0 ∨ k = 1 ∨ k = 2 ∨ k = 3 ∨ k = 4 ∨ k = 5 ∨ k = 6 by omega) with rfl | rfl | rfl | rfl | rfl | rfl | rfl
  · exact (h.1 (by decide)).1
  · exact (h.1 (by decide)).1
  · exact (h.2.1 (by decide)).1.trans (zc_bd_2 (by decide) (by decide) he).symm
  · exact (h.2.1 (by decide)).1.trans (zc_bd_2 (by decide) (by decide) he).symm
  · exact (h.2.2.1 (by decide)).1.trans (zc_bd_2 (by decide) (by decide) he).symm
  · exact (h.2.2.2.1 (by decide)).1.trans (zc_bd_2 (by decide) (by decide) he).symm
  · exact (h.2.2.2.2 (by decide)).1.trans (zc_bd_2 (by decide) (by decide) he).symm
abbrev rm_M_compile : Room := { frames := 4, cells := 0, slots := 0, locals := 109 }
set_option maxHeartbeats 4000000 in
set_option maxRecDepth 100000 in
/-- compile -/
theorem sp_M_compile (l : Launch) {h : zk_H} {V : Nat → zo_O} {S : zo_O} {us : Nat} {uk ut un : Nat → Nat} {ua : Nat → Int32} (hM : zm_at h S us) (hJ : zm_J V S us uk ut un ua) {x y : Int32} {K : Option Value → zk_H → Prop} (hK : ∀ (h' : zk_H) (S' : zo_O), zm_pv h h' S S' us → K (some (.int (if zc_bl x (nI us) = true ∧ zc_bl y (nI 2) = true then zc_bd (V y.toNatClampNeg) (uk x.toNatClampNeg) (ut x.toNatClampNeg) (un x.toNatClampNeg) (ua x.toNatClampNeg).toNatClampNeg 0 else -1))) h') : zk_S l y_M_compile b_M_compile 3 (some .int) rm_M_compile [.ref (38 + 1), .int x, .int y] h K := by
  obtain ⟨hm, s0, s1, s2, s3, s4, s5, s6, s7, s8, s9, s10, s11⟩ := id hM
  obtain ⟨hR, hok, hex, hu, hus, hS9⟩ := id hJ
  refine zk_S_of R_M "compile" (by decide) rfl rfl [some (.ref (38 + 1)), some (.int x), some (.int y)] 0 rfl (Nat.le_of_ble_eq_true rfl) (fun p e s m ar below meth c D dA b base C => ?_)
  refine zr_iload_n C d_M_compile_0 (n := 1) rfl rfl ?_
  refine zr_iconst C d_M_compile_1 (n := 2) rfl (v := nI 0) (by decide) ?_
  refine zr_aload_n C d_M_compile_2 (n := 3) rfl rfl ?_
  refine zr_get C f_M_59 d_M_compile_3 (n := 6) rfl hm rfl ?_
  refine zr_iconst C d_M_compile_6 (n := 7) rfl (v := nI 1) (by decide) ?_
  refine zr_isub C d_M_compile_7 (n := 8) rfl ?_
  refine zr_callS3 C k_M_47 d_M_compile_8 (nx := 11) rfl ⟨by decide, by decide⟩ (Nat.le_of_ble_eq_true rfl) ⟨by decide, by decide⟩ (sp_M_in l ?_)
  refine zr_if_eq C d_M_compile_11 (n := 14) rfl (t := 32) (by decide) (fun c1 => ?_) (fun c1 => ?_)
  · replace c1 := zk_bz c1
    rw [zc_in_us (by omega)] at c1
    refine zr_iconst C d_M_compile_32 (n := 33) rfl (v := -1) (by decide) ?_
    rw [if_neg (by simp [c1])] at hK
    exact zr_iret C d_M_compile_33 rfl (hK _ _ (zm_pv_r hM)) (Nat.zero_le _) (Nat.zero_le _)
  · replace c1 := zk_bn c1
    rw [zc_in_us (by omega)] at c1
    obtain ⟨j, hj, rfl, qj⟩ := zc_bl_n c1 (by first | decide | omega)
    obtain ⟨uk7, ut6, un4, um⟩ := hu j hj
    obtain ⟨e0, e1, e2, e3⟩ := hS9 j hj
    refine zr_iload_n C d_M_compile_14 (n := 15) rfl rfl ?_
    refine zr_iconst C d_M_compile_15 (n := 16) rfl (v := nI 0) (by decide) ?_
    refine zr_iconst C d_M_compile_16 (n := 17) rfl (v := nI 1) (by decide) ?_
    refine zr_callS3 C k_M_47 d_M_compile_17 (nx := 20) rfl ⟨by decide, by decide⟩ (Nat.le_of_ble_eq_true rfl) ⟨by decide, by decide⟩ (sp_M_in l ?_)
    refine zr_if_eq C d_M_compile_20 (n := 23) rfl (t := 32) (by decide) (fun c2 => ?_) (fun c2 => ?_)
    · replace c2 := zk_bz c2
      rw [zc_in_1] at c2
      refine zr_iconst C d_M_compile_32 (n := 33) rfl (v := -1) (by decide) ?_
      rw [if_neg (by simp [c1, c2])] at hK
      exact zr_iret C d_M_compile_33 rfl (hK _ _ (zm_pv_r hM)) (Nat.zero_le _) (Nat.zero_le _)
    · replace c2 := zk_bn c2
      rw [zc_in_1] at c2
      obtain ⟨v, hv, rfl, qv⟩ := zc_bl_n c2 (by first | decide | omega)
      refine zr_aload_n C d_M_compile_23 (n := 24) rfl rfl ?_
      refine zr_iload_n C d_M_compile_24 (n := 25) rfl rfl ?_
      refine zr_iload_n C d_M_compile_25 (n := 26) rfl rfl ?_
      refine zr_callV2 C k_M_94 d_M_compile_26 (nx := 29) rfl hm rfl ⟨by decide, by decide⟩ (Nat.le_of_ble_eq_true rfl) ⟨by decide, by decide⟩ (sp_M_bind l hM hR hok hex (v := v) hv (by omega) e0 e1 e2 e3 uk7 ut6 un4 um (fun h2 S2 mv2 hbw2 => ?_))
      refine zr_goto C d_M_compile_29 (t := 33) (by decide) ?_
      rw [if_pos ⟨c1, c2⟩, qj, qv] at hK
      exact zr_iret C d_M_compile_33 rfl (hK _ _ (zm_pv_m mv2)) (Nat.zero_le _) (Nat.zero_le _)
abbrev rm_M_link : Room := { frames := 5, cells := 0, slots := 0, locals := 135 }
set_option maxHeartbeats 4000000 in
set_option maxRecDepth 100000 in
/-- link -/
theorem sp_M_link (l : Launch) {h : zk_H} {V : Nat → zo_O} {S : zo_O} {us : Nat} {uk ut un : Nat → Nat} {ua : Nat → Int32} (hM : zm_at h S us) (hJ : zm_J V S us uk ut un ua) {x : Int32} {K : Option Value → zk_H → Prop} (hK : ∀ (h' : zk_H) (S' : zo_O), zm_pv h h' S S' us → K (some (.int (if zc_bl x (nI us) = true then zc_ft V uk ut un ua x.toNatClampNeg else -1))) h') : zk_S l y_M_link b_M_link 2 (some .int) rm_M_link [.ref (38 + 1), .int x] h K := by
  obtain ⟨hm, s0, s1, s2, s3, s4, s5, s6, s7, s8, s9, s10, s11⟩ := id hM
  obtain ⟨hR, hok, hex, hu, hus, hS9⟩ := id hJ
  refine zk_S_of R_M "link" (by decide) rfl rfl [some (.ref (38 + 1)), some (.int x)] 0 rfl (Nat.le_of_ble_eq_true rfl) (fun p e s m ar below meth c D dA b base C => ?_)
  refine zr_iload_n C d_M_link_0 (n := 1) rfl rfl ?_
  refine zr_iconst C d_M_link_1 (n := 2) rfl (v := nI 0) (by decide) ?_
  refine zr_aload_n C d_M_link_2 (n := 3) rfl rfl ?_
  refine zr_get C f_M_59 d_M_link_3 (n := 6) rfl hm rfl ?_
  refine zr_iconst C d_M_link_6 (n := 7) rfl (v := nI 1) (by decide) ?_
  refine zr_isub C d_M_link_7 (n := 8) rfl ?_
  refine zr_callS3 C k_M_47 d_M_link_8 (nx := 11) rfl ⟨by decide, by decide⟩ (Nat.le_of_ble_eq_true rfl) ⟨by decide, by decide⟩ (sp_M_in l ?_)
  refine zr_if_eq C d_M_link_11 (n := 14) rfl (t := 22) (by decide) (fun c1 => ?_) (fun c1 => ?_)
  · replace c1 := zk_bz c1
    rw [zc_in_us (by omega)] at c1
    refine zr_iconst C d_M_link_22 (n := 23) rfl (v := -1) (by decide) ?_
    rw [if_neg (by simp [c1])] at hK
    exact zr_iret C d_M_link_23 rfl (hK _ _ (zm_pv_r hM)) (Nat.zero_le _) (Nat.zero_le _)
  · replace c1 := zk_bn c1
    rw [zc_in_us (by omega)] at c1
    obtain ⟨j, hj, rfl, qj⟩ := zc_bl_n c1 (by first | decide | omega)
    obtain ⟨uk7, ut6, un4, um⟩ := hu j hj
    obtain ⟨e0, e1, e2, e3⟩ := hS9 j hj
    refine zr_aload_n C d_M_link_14 (n := 15) rfl rfl ?_
    refine zr_iload_n C d_M_link_15 (n := 16) rfl rfl ?_
    refine zr_callV1 C k_M_109 d_M_link_16 (nx := 19) rfl hm rfl ⟨by decide, by decide⟩ (Nat.le_of_ble_eq_true rfl) ⟨by decide, by decide⟩ (sp_M_linked l hM hR hok hex (by omega) e0 e1 e2 e3 uk7 ut6 un4 um (fun h2 S2 mv2 => ?_))
    refine zr_goto C d_M_link_19 (t := 23) (by decide) ?_
    rw [if_pos c1, qj] at hK
    exact zr_iret C d_M_link_23 rfl (hK _ _ (zm_pv_m mv2)) (Nat.zero_le _) (Nat.zero_le _)
abbrev rm_M_recompile : Room := { frames := 4, cells := 0, slots := 0, locals := 109 }
set_option maxHeartbeats 4000000 in
set_option maxRecDepth 100000 in
/-- recompile -/
theorem sp_M_recompile (l : Launch) {h : zk_H} {V : Nat → zo_O} {S : zo_O} {us : Nat} {uk ut un : Nat → Nat} {ua : Nat → Int32} (hM : zm_at h S us) (hJ : zm_J V S us uk ut un ua) {x : Int32} {K : Option Value → zk_H → Prop} (hK : ∀ (h' : zk_H) (S' : zo_O), zm_pv h h' S S' us → K (some (.int (if zc_bl x (nI us) = true then zc_rec V (uk x.toNatClampNeg) (ut x.toNatClampNeg) (un x.toNatClampNeg) (ua x.toNatClampNeg).toNatClampNeg else -1))) h') : zk_S l y_M_recompile b_M_recompile 4 (some .int) rm_M_recompile [.ref (38 + 1), .int x] h K := by
  obtain ⟨hm, s0, s1, s2, s3, s4, s5, s6, s7, s8, s9, s10, s11⟩ := id hM
  obtain ⟨hR, hok, hex, hu, hus, hS9⟩ := id hJ
  refine zk_S_of R_M "recompile" (by decide) rfl rfl [some (.ref (38 + 1)), some (.int x), none, none] 2 rfl (Nat.le_of_ble_eq_true rfl) (fun p e s m ar below meth c D dA b base C => ?_)
  refine zr_iload_n C d_M_recompile_0 (n := 1) rfl rfl ?_
  refine zr_iconst C d_M_recompile_1 (n := 2) rfl (v := nI 0) (by decide) ?_
  refine zr_aload_n C d_M_recompile_2 (n := 3) rfl rfl ?_
  refine zr_get C f_M_59 d_M_recompile_3 (n := 6) rfl hm rfl ?_
  refine zr_iconst C d_M_recompile_6 (n := 7) rfl (v := nI 1) (by decide) ?_
  refine zr_isub C d_M_recompile_7 (n := 8) rfl ?_
  refine zr_callS3 C k_M_47 d_M_recompile_8 (nx := 11) rfl ⟨by decide, by decide⟩ (Nat.le_of_ble_eq_true rfl) ⟨by decide, by decide⟩ (sp_M_in l ?_)
  refine zr_if_ne C d_M_recompile_11 (n := 14) rfl (t := 16) (by decide) (fun c1 => ?_) (fun c1 => ?_)
  · replace c1 := zk_bn c1
    rw [zc_in_us (by omega)] at c1
    obtain ⟨j, hj, rfl, qj⟩ := zc_bl_n c1 (by first | decide | omega)
    obtain ⟨uk7, ut6, un4, um⟩ := hu j hj
    obtain ⟨e0, e1, e2, e3⟩ := hS9 j hj
    refine zr_aload_n C d_M_recompile_16 (n := 17) rfl rfl ?_
    refine zr_iload_n C d_M_recompile_17 (n := 18) rfl rfl ?_
    refine zr_iconst C d_M_recompile_18 (n := 19) rfl (v := nI 0) (by decide) ?_
    refine zr_callV2 C k_M_94 d_M_recompile_19 (nx := 22) rfl hm rfl ⟨by decide, by decide⟩ (Nat.le_of_ble_eq_true rfl) ⟨by decide, by decide⟩ (sp_M_bind l hM hR hok hex (v := 0) (by decide) (by omega) e0 e1 e2 e3 uk7 ut6 un4 um (fun h2 S2 mv2 hbw2 => ?_))
    obtain ⟨hm, s0, s1, s2, s3, s4, s5, s6, s7, s8, s9, s10, s11⟩ := id mv2.1
    rw [← mv2.2.1 9 (by decide)] at e0 e1 e2 e3
    refine zr_istore_n C d_M_recompile_22 (n := 23) rfl (by decide) rfl ?_
    refine zr_iload_n C d_M_recompile_23 (n := 24) rfl rfl ?_
    refine zr_if_ne C d_M_recompile_24 (n := 27) rfl (t := 34) (by decide) (fun c2 => ?_) (fun c2 => ?_)
    · refine zr_iload_n C d_M_recompile_34 (n := 35) rfl rfl ?_
      refine zr_if_eq C d_M_recompile_35 (n := 38) rfl (t := 40) (by decide) (fun c3 => ?_) (fun c3 => ?_)
      · exact absurd c3 c2
      · refine zr_iload_n C d_M_recompile_38 (n := 39) rfl rfl ?_
        rw [if_pos c1, qj, zc_rec, if_neg c2] at hK
        exact zr_iret C d_M_recompile_39 rfl (hK _ _ (zm_pv_m mv2)) (Nat.zero_le _) (Nat.zero_le _)
    · refine zr_aload_n C d_M_recompile_27 (n := 28) rfl rfl ?_
      refine zr_iload_n C d_M_recompile_28 (n := 29) rfl rfl ?_
      refine zr_iconst C d_M_recompile_29 (n := 30) rfl (v := nI 1) (by decide) ?_
      refine zr_callV2 C k_M_94 d_M_recompile_30 (nx := 33) rfl hm rfl ⟨by decide, by decide⟩ (Nat.le_of_ble_eq_true rfl) ⟨by decide, by decide⟩ (sp_M_bind l mv2.1 (zm_R_c hR mv2.2.1) hok hex (v := 1) (by decide) (by omega) e0 e1 e2 e3 uk7 ut6 un4 um (fun h3 S3 mv3 hbw3 => ?_))
      refine zr_istore_n C d_M_recompile_33 (n := 34) rfl (by decide) rfl ?_
      refine zr_iload_n C d_M_recompile_34 (n := 35) rfl rfl ?_
      refine zr_if_eq C d_M_recompile_35 (n := 38) rfl (t := 40) (by decide) (fun c4 => ?_) (fun c4 => ?_)
      · refine zr_iconst C d_M_recompile_40 (n := 41) rfl (v := nI 0) (by decide) ?_
        refine zr_istore_n C d_M_recompile_41 (n := 42) rfl (by decide) rfl ?_
        rw [if_pos c1, qj, zc_rec, if_pos c2, if_pos c4] at hK
        have hB := zm_bw_e (w' := fun i => S3 10 i) (fun i hi => by
          show S3 10 i = S2 10 (7 * 0 + i)
          rw [show 7 * 0 + i = i by omega]
          exact mv3.2.2.2.2 i (by omega)) (hbw2 c2)
        have hE := hbw3 c4
        have hsa := zm_sa uk7 hB hE
        obtain ⟨hm, s0, s1, s2, s3, s4, s5, s6, s7, s8, s9, s10, s11⟩ := id mv3.1
        have L : ∀ (n i : Nat), n + i = 6 → (∀ x, x < i → S3 10 x = S3 10 (7 * 1 + x)) → zk_V p l e rm_M_recompile s m ar below meth c 4 D dA b base (MQ below (zk_Q K D dA b base) ar s rm_M_recompile.cells rm_M_recompile.slots (fun q : Nat => base ≤ q)) 0 0 42 [some (.ref (38 + 1)), some (.int (nI j)), some (.int ((zc_bd (V 1) (uk j) (ut j) (un j) (ua j).toNatClampNeg) 0)), some (.int (nI i))] [] h3 := by
          intro n
          induction n with
          | zero =>
            intro i hi hq
            refine zr_iload_n C d_M_recompile_42 (n := 43) rfl rfl ?_
            refine zr_bipush C d_M_recompile_43 (n := 45) rfl (v := nI 6) (by decide) ?_
            refine zr_icmp_ge C d_M_recompile_45 (n := 48) rfl (t := 74) (by decide) (fun c1 => ?_) (fun c1 => ?_)
            · refine zr_iconst C d_M_recompile_74 (n := 75) rfl (v := nI 0) (by decide) ?_
              rw [if_pos (hsa.mpr (fun x hx => hq x (by omega)))] at hK
              exact zr_iret C d_M_recompile_75 rfl (hK _ _ (zm_pv_t (zm_pv_m mv2) (zm_pv_m mv3))) (Nat.zero_le _) (Nat.zero_le _)
            · exact absurd (zk_nle (by omega) (by omega) c1) (by omega)
          | succ n ih =>
            intro i hi hq
            refine zr_iload_n C d_M_recompile_42 (n := 43) rfl rfl ?_
            refine zr_bipush C d_M_recompile_43 (n := 45) rfl (v := nI 6) (by decide) ?_
            refine zr_icmp_ge C d_M_recompile_45 (n := 48) rfl (t := 74) (by decide) (fun c1 => ?_) (fun c1 => ?_)
            · exact absurd (zk_le (by omega) (by omega) c1) (by omega)
            · refine zr_aload_n C d_M_recompile_48 (n := 49) rfl rfl ?_
              refine zr_get C f_M_41 d_M_recompile_49 (n := 52) rfl hm rfl ?_
              refine zr_iload_n C d_M_recompile_52 (n := 53) rfl rfl ?_
              refine zr_ialdN C d_M_recompile_53 (n := 54) rfl s10 rfl (by omega) (by decide) ?_
              refine zr_aload_n C d_M_recompile_54 (n := 55) rfl rfl ?_
              refine zr_get C f_M_41 d_M_recompile_55 (n := 58) rfl hm rfl ?_
              refine zr_bipush C d_M_recompile_58 (n := 60) rfl (v := nI 7) (by decide) ?_
              refine zr_iload_n C d_M_recompile_60 (n := 61) rfl rfl ?_
              refine zr_iadd C d_M_recompile_61 (n := 62) rfl ?_
              refine zr_toe (by simp only [pk_mul, nI_add]; rfl) ?_
              refine zr_ialdN C d_M_recompile_62 (n := 63) rfl s10 rfl (by omega) (by decide) ?_
              refine zr_icmp_eq C d_M_recompile_63 (n := 66) rfl (t := 68) (by decide) (fun c2 => ?_) (fun c2 => ?_)
              · refine zr_iinc C d_M_recompile_68 (n := 71) rfl rfl (w := 1) (by decide) (nI_1 i) (by decide) rfl ?_
                refine zr_goto C d_M_recompile_71 (t := 42) (by decide) ?_
                exact ih (i + 1) (by omega) (fun x hx => by
                  by_cases q : x = i
                  · rw [q]; exact c2
                  · exact hq x (by omega))
              · refine zr_iconst C d_M_recompile_66 (n := 67) rfl (v := nI 1) (by decide) ?_
                rw [if_neg (fun q => c2 (hsa.mp q i (by omega)))] at hK
                exact zr_iret C d_M_recompile_67 rfl (hK _ _ (zm_pv_t (zm_pv_m mv2) (zm_pv_m mv3))) (Nat.zero_le _) (Nat.zero_le _)
        exact L 6 0 rfl (fun x hx => by omega)
      · refine zr_iload_n C d_M_recompile_38 (n := 39) rfl rfl ?_
        rw [if_pos c1, qj, zc_rec, if_pos c2, if_neg c4] at hK
        exact zr_iret C d_M_recompile_39 rfl (hK _ _ (zm_pv_t (zm_pv_m mv2) (zm_pv_m mv3))) (Nat.zero_le _) (Nat.zero_le _)
  · replace c1 := zk_bz c1
    rw [zc_in_us (by omega)] at c1
    refine zr_iconst C d_M_recompile_14 (n := 15) rfl (v := -1) (by decide) ?_
    rw [if_neg (by simp [c1])] at hK
    exact zr_iret C d_M_recompile_15 rfl (hK _ _ (zm_pv_r hM)) (Nat.zero_le _) (Nat.zero_le _)
theorem l_M_113 : Cond.constantDouble R_M 113 zf_half ∈ zk_tb := zk_mem 599 (by decide +kernel) rfl
abbrev rm_M_value : Room := { frames := 4, cells := 0, slots := 0, locals := 109 }
set_option maxHeartbeats 4000000 in
set_option maxRecDepth 100000 in
/-- value -/
theorem sp_M_value (l : Launch) {h : zk_H} {V : Nat → zo_O} {S : zo_O} {us : Nat} {uk ut un : Nat → Nat} {ua : Nat → Int32} (hM : zm_at h S us) (hJ : zm_J V S us uk ut un ua) {x y : Int32} {K : Option Value → zk_H → Prop} (hK : ∀ (h' : zk_H) (S' : zo_O), zm_pv h h' S S' us → K (some (.double (if zc_bl x (nI us) = true ∧ zc_bl y (nI 2) = true then zc_num (zc_bd (V y.toNatClampNeg) (uk x.toNatClampNeg) (ut x.toNatClampNeg) (un x.toNatClampNeg) (ua x.toNatClampNeg).toNatClampNeg) else FP.dconst0))) h') : zk_S l y_M_value b_M_value 3 (some .double) rm_M_value [.ref (38 + 1), .int x, .int y] h K := by
  obtain ⟨hm, s0, s1, s2, s3, s4, s5, s6, s7, s8, s9, s10, s11⟩ := id hM
  obtain ⟨hR, hok, hex, hu, hus, hS9⟩ := id hJ
  refine zk_S_of R_M "value" (by decide) rfl rfl [some (.ref (38 + 1)), some (.int x), some (.int y)] 0 rfl (Nat.le_of_ble_eq_true rfl) (fun p e s m ar below meth c D dA b base C => ?_)
  refine zr_iload_n C d_M_value_0 (n := 1) rfl rfl ?_
  refine zr_iconst C d_M_value_1 (n := 2) rfl (v := nI 0) (by decide) ?_
  refine zr_aload_n C d_M_value_2 (n := 3) rfl rfl ?_
  refine zr_get C f_M_59 d_M_value_3 (n := 6) rfl hm rfl ?_
  refine zr_iconst C d_M_value_6 (n := 7) rfl (v := nI 1) (by decide) ?_
  refine zr_isub C d_M_value_7 (n := 8) rfl ?_
  refine zr_callS3 C k_M_47 d_M_value_8 (nx := 11) rfl ⟨by decide, by decide⟩ (Nat.le_of_ble_eq_true rfl) ⟨by decide, by decide⟩ (sp_M_in l ?_)
  refine zr_if_eq C d_M_value_11 (n := 14) rfl (t := 44) (by decide) (fun c1 => ?_) (fun c1 => ?_)
  · replace c1 := zk_bz c1
    rw [zc_in_us (by omega)] at c1
    refine zr_dconst0 C d_M_value_44 (n := 45) rfl ?_
    rw [if_neg (by simp [c1])] at hK
    exact zr_dret C d_M_value_45 rfl (hK _ _ (zm_pv_r hM)) (Nat.zero_le _) (Nat.zero_le _)
  · replace c1 := zk_bn c1
    rw [zc_in_us (by omega)] at c1
    obtain ⟨j, hj, rfl, qj⟩ := zc_bl_n c1 (by first | decide | omega)
    obtain ⟨uk7, ut6, un4, um⟩ := hu j hj
    obtain ⟨e0, e1, e2, e3⟩ := hS9 j hj
    refine zr_iload_n C d_M_value_14 (n := 15) rfl rfl ?_
    refine zr_iconst C d_M_value_15 (n := 16) rfl (v := nI 0) (by decide) ?_
    refine zr_iconst C d_M_value_16 (n := 17) rfl (v := nI 1) (by decide) ?_
    refine zr_callS3 C k_M_47 d_M_value_17 (nx := 20) rfl ⟨by decide, by decide⟩ (Nat.le_of_ble_eq_true rfl) ⟨by decide, by decide⟩ (sp_M_in l ?_)
    refine zr_if_eq C d_M_value_20 (n := 23) rfl (t := 44) (by decide) (fun c2 => ?_) (fun c2 => ?_)
    · replace c2 := zk_bz c2
      rw [zc_in_1] at c2
      refine zr_dconst0 C d_M_value_44 (n := 45) rfl ?_
      rw [if_neg (by simp [c1, c2])] at hK
      exact zr_dret C d_M_value_45 rfl (hK _ _ (zm_pv_r hM)) (Nat.zero_le _) (Nat.zero_le _)
    · replace c2 := zk_bn c2
      rw [zc_in_1] at c2
      obtain ⟨v, hv, rfl, qv⟩ := zc_bl_n c2 (by first | decide | omega)
      refine zr_aload_n C d_M_value_23 (n := 24) rfl rfl ?_
      refine zr_iload_n C d_M_value_24 (n := 25) rfl rfl ?_
      refine zr_iload_n C d_M_value_25 (n := 26) rfl rfl ?_
      refine zr_callV2 C k_M_94 d_M_value_26 (nx := 29) rfl hm rfl ⟨by decide, by decide⟩ (Nat.le_of_ble_eq_true rfl) ⟨by decide, by decide⟩ (sp_M_bind l hM hR hok hex (v := v) hv (by omega) e0 e1 e2 e3 uk7 ut6 un4 um (fun h2 S2 mv2 hbw2 => ?_))
      obtain ⟨hm, s0, s1, s2, s3, s4, s5, s6, s7, s8, s9, s10, s11⟩ := id mv2.1
      refine zr_if_ne C d_M_value_29 (n := 32) rfl (t := 44) (by decide) (fun c3 => ?_) (fun c3 => ?_)
      · refine zr_dconst0 C d_M_value_44 (n := 45) rfl ?_
        rw [if_pos ⟨c1, c2⟩, qj, qv] at hK
        rw [zc_num, if_pos (show (zc_bd (V v) (uk j) (ut j) (un j) (ua j).toNatClampNeg) 2 = 0 from Classical.byContradiction fun q => c3 (zb_tv uk7 q).1)] at hK
        exact zr_dret C d_M_value_45 rfl (hK _ _ (zm_pv_m mv2)) (Nat.zero_le _) (Nat.zero_le _)
      · have HE := c3
        refine zr_aload_n C d_M_value_32 (n := 33) rfl rfl ?_
        refine zr_get C f_M_41 d_M_value_33 (n := 36) rfl hm rfl ?_
        refine zr_bipush C d_M_value_36 (n := 38) rfl (v := nI 7) (by decide) ?_
        refine zr_iload_n C d_M_value_38 (n := 39) rfl rfl ?_
        refine zr_imul C d_M_value_39 (n := 40) rfl ?_
        refine zr_toe (by simp only [pk_mul, nI_add]; rfl) ?_
        refine zr_ialdN C d_M_value_40 (n := 41) rfl s10 rfl (by omega) (by decide) ?_
        refine zr_toe (y := (zc_bd (V v) (uk j) (ut j) (un j) (ua j).toNatClampNeg) 2) (zm_w0 uk7 HE (hbw2 HE)) ?_
        refine zr_if_ne C d_M_value_41 (n := 44) rfl (t := 46) (by decide) (fun c4 => ?_) (fun c4 => ?_)
        · have hk2 := (zb_tv uk7 c4).2
          obtain ⟨w0, w1, w2, w3, w4, w5⟩ := (hbw2 HE).1 hk2
          rw [if_neg c4] at w5
          obtain ⟨j9, hj9, h39, hB2, hB3, hB4⟩ := zc_bd_f (hok v hv) hk2 ut6 un4 HE
          have hb3 : (zc_bd (V v) (uk j) (ut j) (un j) (ua j).toNatClampNeg) 3 = 0 ∨ (zc_bd (V v) (uk j) (ut j) (un j) (ua j).toNatClampNeg) 3 = nI 1 := by
            rw [hB3]
            exact ((hok v hv).2.2.1 j9 hj9 h39).1
          refine zr_aload_n C d_M_value_46 (n := 47) rfl rfl ?_
          refine zr_get C f_M_41 d_M_value_47 (n := 50) rfl hm rfl ?_
          refine zr_bipush C d_M_value_50 (n := 52) rfl (v := nI 7) (by decide) ?_
          refine zr_iload_n C d_M_value_52 (n := 53) rfl rfl ?_
          refine zr_imul C d_M_value_53 (n := 54) rfl ?_
          refine zr_toe (by simp only [pk_mul, nI_add]; rfl) ?_
          refine zr_iconst C d_M_value_54 (n := 55) rfl (v := nI 1) (by decide) ?_
          refine zr_iadd C d_M_value_55 (n := 56) rfl ?_
          refine zr_toe (by simp only [pk_mul, nI_add]; rfl) ?_
          refine zr_ialdN C d_M_value_56 (n := 57) rfl s10 rfl (by omega) (by decide) ?_
          refine zr_toe (y := (zc_bd (V v) (uk j) (ut j) (un j) (ua j).toNatClampNeg) 3) w1 ?_
          refine zr_if_ne C d_M_value_57 (n := 60) rfl (t := 75) (by decide) (fun c5 => ?_) (fun c5 => ?_)
          · refine zr_aload_n C d_M_value_75 (n := 76) rfl rfl ?_
            refine zr_get C f_M_41 d_M_value_76 (n := 79) rfl hm rfl ?_
            refine zr_bipush C d_M_value_79 (n := 81) rfl (v := nI 7) (by decide) ?_
            refine zr_iload_n C d_M_value_81 (n := 82) rfl rfl ?_
            refine zr_imul C d_M_value_82 (n := 83) rfl ?_
            refine zr_toe (by simp only [pk_mul, nI_add]; rfl) ?_
            refine zr_iconst C d_M_value_83 (n := 84) rfl (v := nI 5) (by decide) ?_
            refine zr_iadd C d_M_value_84 (n := 85) rfl ?_
            refine zr_toe (by simp only [pk_mul, nI_add]; rfl) ?_
            refine zr_ialdN C d_M_value_85 (n := 86) rfl s10 rfl (by omega) (by decide) ?_
            refine zr_toe (y := (zc_bd (V v) (uk j) (ut j) (un j) (ua j).toNatClampNeg) 4) w5 ?_
            refine zr_i2d C d_M_value_86 (n := 87) rfl ?_
            refine zr_ldc2d C d_M_value_87 (n := 90) rfl l_M_113 ?_
            refine zr_dmul C d_M_value_90 (n := 91) rfl (zf_n64 (zf_dmul _)) ?_
            rw [if_pos ⟨c1, c2⟩, qj, qv] at hK
            rw [zc_num, if_neg c4, if_pos (hb3.resolve_left c5)] at hK
            exact zr_dret C d_M_value_91 rfl (hK _ _ (zm_pv_m mv2)) (Nat.zero_le _) (Nat.zero_le _)
          · refine zr_aload_n C d_M_value_60 (n := 61) rfl rfl ?_
            refine zr_get C f_M_41 d_M_value_61 (n := 64) rfl hm rfl ?_
            refine zr_bipush C d_M_value_64 (n := 66) rfl (v := nI 7) (by decide) ?_
            refine zr_iload_n C d_M_value_66 (n := 67) rfl rfl ?_
            refine zr_imul C d_M_value_67 (n := 68) rfl ?_
            refine zr_toe (by simp only [pk_mul, nI_add]; rfl) ?_
            refine zr_iconst C d_M_value_68 (n := 69) rfl (v := nI 5) (by decide) ?_
            refine zr_iadd C d_M_value_69 (n := 70) rfl ?_
            refine zr_toe (by simp only [pk_mul, nI_add]; rfl) ?_
            refine zr_ialdN C d_M_value_70 (n := 71) rfl s10 rfl (by omega) (by decide) ?_
            refine zr_toe (y := (zc_bd (V v) (uk j) (ut j) (un j) (ua j).toNatClampNeg) 4) w5 ?_
            refine zr_i2d C d_M_value_71 (n := 72) rfl ?_
            refine zr_goto C d_M_value_72 (t := 91) (by decide) ?_
            rw [if_pos ⟨c1, c2⟩, qj, qv] at hK
            rw [zc_num, if_neg c4, if_neg (by rw [c5]; decide)] at hK
            exact zr_dret C d_M_value_91 rfl (hK _ _ (zm_pv_m mv2)) (Nat.zero_le _) (Nat.zero_le _)
        · refine zr_dconst0 C d_M_value_44 (n := 45) rfl ?_
          rw [if_pos ⟨c1, c2⟩, qj, qv] at hK
          rw [zc_num, if_pos c4] at hK
          exact zr_dret C d_M_value_45 rfl (hK _ _ (zm_pv_m mv2)) (Nat.zero_le _) (Nat.zero_le _)
