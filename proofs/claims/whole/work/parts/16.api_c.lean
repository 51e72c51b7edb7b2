def zc_uv (uk ut un : Nat → Nat) (ua : Nat → Int32) (uc : Nat) : Prop := ∀ j, j < uc → uk j < 7 ∧ ut j < 6 ∧ un j < 4 ∧ (uk j = 2 ∨ uk j = 3 ∨ uk j = 6 → un j < 3 ∧ ua j = nI (ua j).toNatClampNeg ∧ (ua j).toNatClampNeg < 4)
theorem zc_b36 {h : zk_H} {V : Nat → zo_O} {uk ut un : Nat → Nat} {ua : Nat → Int32} {uc : Nat} {B E : Nat → Int32} (hS : zc_at h V uk ut un ua uc B E) (B1 : Nat → Int32) : zc_at (h.set 36 (zb_c B1)) V uk ut un ua uc B1 E ∧ zc_fr h (h.set 36 (zb_c B1)) := by
  obtain ⟨s0, s1, s2, ⟨f, s3, s4⟩, s5, s6, s7⟩ := hS
  exact ⟨⟨zk_g1 (by omega) s0, zo_at_set s1 (by omega), zo_at_set s2 (by omega), ⟨f, zk_g1 (by omega) s3, s4⟩, fun j hj => zk_g1 (by omega) (s5 j hj), zk_g0 s6, zk_g1 (by omega) s7⟩, by simp only [List.length_set], fun j hj => zk_gs (by omega)⟩
theorem zc_b37 {h : zk_H} {V : Nat → zo_O} {uk ut un : Nat → Nat} {ua : Nat → Int32} {uc : Nat} {B E : Nat → Int32} (hS : zc_at h V uk ut un ua uc B E) (B1 : Nat → Int32) : zc_at (h.set 37 (zb_c B1)) V uk ut un ua uc B B1 ∧ zc_fr h (h.set 37 (zb_c B1)) := by
  obtain ⟨s0, s1, s2, ⟨f, s3, s4⟩, s5, s6, s7⟩ := hS
  exact ⟨⟨zk_g1 (by omega) s0, zo_at_set s1 (by omega), zo_at_set s2 (by omega), ⟨f, zk_g1 (by omega) s3, s4⟩, fun j hj => zk_g1 (by omega) (s5 j hj), zk_g1 (by omega) s6, zk_g0 s7⟩, by simp only [List.length_set], fun j hj => zk_gs (by omega)⟩
theorem zb_par2 {O : zo_O} {k t nm ag : Nat} {B : Nat → Int32} (he : zb_bind O k t nm ag B 0 = 0) (hk : k = 2 ∨ k = 3) : (zb_bind O k t nm ag B 6).toNatClampNeg < 4 ∧ zb_bind O k t nm ag B 6 = nI (zb_bind O k t nm ag B 6).toNatClampNeg := by
  obtain ⟨pa, h1, h2⟩ := zb_par hk he
  rw [h2, nI_clamp (by omega)]
  exact ⟨h1, rfl⟩
theorem zb_fw_pa {O : zo_O} {k t nm ag pa pb : Nat} {B : Nat → Int32} (hk : k < 7) (h : ¬ (k = 2 ∨ k = 3)) : zb_fw O k t nm ag pa B = zb_fw O k t nm ag pb B := by
  rcases (show k = 0 ∨ k = 1 ∨ k = 4 ∨ k = 5 ∨ k = 6 by omega) with rfl | rfl | rfl | rfl | rfl
  · rw [zb_fw_0, zb_fw_0]
  · rw [zb_fw_1, zb_fw_1]
  · rw [zb_fw_4, zb_fw_4]
  · rw [zb_fw_5, zb_fw_5]
  · rw [zb_fw_6, zb_fw_6]
theorem zc_fate_ok {V : Nat → zo_O} {k t nm ag : Nat} (hk : k < 7) {B : Nat → Int32} (he : zb_bind (V 0) k t nm ag B 0 = 0) : zb_fw (V 1) k t nm ag (zb_bind (V 0) k t nm ag B 6).toNatClampNeg (zb_bind (V 0) k t nm ag B) = zc_fate V k t nm ag := by
  obtain ⟨h0, h2, h3⟩ := zb_ind (O := V 0) (t := t) (nm := nm) (ag := ag) hk B zc_Z
  have hz : zc_bd (V 0) k t nm ag 0 = 0 := h0.symm.trans he
  rw [zc_fate, if_pos hz, zb_fw_sm hk (h3 he)]
  by_cases hc : k = 2 ∨ k = 3
  · rw [((h3 he).2.2.2.1 hc).2.1]
    rfl
  · exact zb_fw_pa hk hc
theorem zc_fate_er {V : Nat → zo_O} {k t nm ag : Nat} (hk : k < 7) {B : Nat → Int32} (he : ¬ zb_bind (V 0) k t nm ag B 0 = 0) : zb_bind (V 0) k t nm ag B 0 = zc_fate V k t nm ag := by
  obtain ⟨h0, h2, h3⟩ := zb_ind (O := V 0) (t := t) (nm := nm) (ag := ag) hk B zc_Z
  have hz : ¬ zc_bd (V 0) k t nm ag 0 = 0 := fun q => he (h0.trans q)
  rw [zc_fate, if_neg hz, h0]
  rfl
theorem zc_bd_0 {O : zo_O} {k t nm ag : Nat} (hk : k < 7) (B : Nat → Int32) : zb_bind O k t nm ag B 0 = zc_bd O k t nm ag 0 := (zb_ind hk B zc_Z).1
abbrev zc_ft (V : Nat → zo_O) (uk ut un : Nat → Nat) (ua : Nat → Int32) (j : Nat) : Int32 := zc_fate V (uk j) (ut j) (un j) (ua j).toNatClampNeg
def zc_er (x : Int32) : Bool := decide (x = -3 ∨ x = -4 ∨ x = -5)
def zc_br (x : Int32) : Bool := decide (x < 0) && !zc_er x
def zc_cnt (f : Nat → Bool) : Nat → Nat → Nat → Nat
  | 0, _, a => a
  | n + 1, j, a => zc_cnt f n (j + 1) (if f j = true then a + 1 else a)
theorem zc_cnt_1 {f : Nat → Bool} {n j a : Nat} (h : f j = true) : zc_cnt f (n + 1) j a = zc_cnt f n (j + 1) (a + 1) := by rw [zc_cnt, if_pos h]
theorem zc_cnt_0 {f : Nat → Bool} {n j a : Nat} (h : f j = false) : zc_cnt f (n + 1) j a = zc_cnt f n (j + 1) a := by rw [zc_cnt, if_neg (by rw [h]; decide)]
theorem zc_cnt_le {f : Nat → Bool} : ∀ n j a, zc_cnt f n j a ≤ a + n
  | 0, _, a => Nat.le_refl a
  | n + 1, j, a => by
    rw [zc_cnt]
    by_cases q : f j = true
    · rw [if_pos q]
      have := zc_cnt_le (f := f) n (j + 1) (a + 1)
      omega
    · rw [if_neg q]
      have := zc_cnt_le (f := f) n (j + 1) a
      omega
/-- the number of the k-th that f holds of, from place j with a seen; -1: none -/
def zc_kth (f : Nat → Bool) (k : Int32) : Nat → Nat → Nat → Int32
  | 0, _, _ => -1
  | n + 1, j, a => if f j = true then (if nI a = k then nI j else zc_kth f k n (j + 1) (a + 1)) else zc_kth f k n (j + 1) a
theorem zc_kth_0 {f : Nat → Bool} {k : Int32} {n j a : Nat} (h : f j = false) : zc_kth f k (n + 1) j a = zc_kth f k n (j + 1) a := by rw [zc_kth, if_neg (by rw [h]; decide)]
theorem zc_kth_y {f : Nat → Bool} {k : Int32} {n j a : Nat} (h : f j = true) (h2 : nI a = k) : zc_kth f k (n + 1) j a = nI j := by rw [zc_kth, if_pos h, if_pos h2]
theorem zc_kth_n {f : Nat → Bool} {k : Int32} {n j a : Nat} (h : f j = true) (h2 : ¬ nI a = k) : zc_kth f k (n + 1) j a = zc_kth f k n (j + 1) (a + 1) := by rw [zc_kth, if_pos h, if_neg h2]
def zc_diff (V : Nat → zo_O) (x : Int32) : Int32 := if zc_bl x (nI 6) = true then (if zo_th (V 0) x.toNatClampNeg = true then (if zo_th (V 1) x.toNatClampNeg = true then nI (zo_df (V 0) (V 1) x.toNatClampNeg) else -3) else (if zo_th (V 1) x.toNatClampNeg = true then -4 else -2)) else -1
def zc_under (V : Nat → zo_O) (x0 x1 x2 : Int32) : Bool := zc_tt V x0 x1 && zc_tt V x0 x2 && zk_bit (zo_st (V x0.toNatClampNeg) x1.toNatClampNeg) x2.toNatClampNeg
def zc_hm (f : Nat → Int32) (n : Nat) : Nat := zc_cnt (fun j => decide (¬ f j = -1)) n 0 0
def zc_count (V : Nat → zo_O) (uc : Nat) (x0 x1 : Int32) : Int32 := if zc_bl x0 (nI 2) = true then (if x1 = nI 0 then nI (zc_hm (V x0.toNatClampNeg 0) 6) else if x1 = nI 1 then nI (zc_hm (V x0.toNatClampNeg 3) 24) else if x1 = nI 2 then nI (zc_hm (V x0.toNatClampNeg 6) 72) else if x1 = nI 3 then nI uc else -1) else -1
theorem zc_sw4 (x : Int32) : x = nI 0 ∨ x = nI 1 ∨ x = nI 2 ∨ x = nI 3 ∨ ((x.toInt < 0 ∨ 3 < x.toInt) ∧ ¬ x = nI 0 ∧ ¬ x = nI 1 ∧ ¬ x = nI 2 ∧ ¬ x = nI 3) := by
  by_cases h0 : x = nI 0
  · exact Or.inl h0
  by_cases h1 : x = nI 1
  · exact Or.inr (Or.inl h1)
  by_cases h2 : x = nI 2
  · exact Or.inr (Or.inr (Or.inl h2))
  by_cases h3 : x = nI 3
  · exact Or.inr (Or.inr (Or.inr (Or.inl h3)))
  refine Or.inr (Or.inr (Or.inr (Or.inr ⟨?_, h0, h1, h2, h3⟩)))
  have key : ∀ n : Nat, n < 4 → x.toInt = (n : Int) → x = nI n := fun n hn e => Int32.toInt_inj.mp (e.trans (nI_toInt (by omega)).symm)
  rcases Int.lt_or_le x.toInt 0 with q | q
  · exact Or.inl q
  rcases Int.lt_or_le 3 x.toInt with r | r
  · exact Or.inr r
  exfalso
  rcases (show x.toInt = 0 ∨ x.toInt = 1 ∨ x.toInt = 2 ∨ x.toInt = 3 by omega) with e | e | e | e
  · exact h0 (key 0 (by decide) e)
  · exact h1 (key 1 (by decide) e)
  · exact h2 (key 2 (by decide) e)
  · exact h3 (key 3 (by decide) e)
abbrev rm_A_isError : Room := { frames := 0, cells := 0, slots := 0, locals := 0 }
set_option maxHeartbeats 4000000 in
set_option maxRecDepth 100000 in
/-- isError -/
theorem sp_A_isError (l : Launch) {h : zk_H} {x : Int32} {K : Option Value → zk_H → Prop} (hK : K (some (.int (zk_b (zc_er x)))) h) : zk_S l y_A_isError b_A_isError 1 (some .boolean) rm_A_isError [.int x] h K := by
  refine zk_S_of R_A "isError" (by decide) rfl rfl [some (.int x)] 0 rfl (Nat.le_of_ble_eq_true rfl) (fun p e s m ar below meth c D dA b base C => ?_)
  refine zr_iload_n C d_A_isError_0 (n := 1) rfl rfl ?_
  refine zr_bipush C d_A_isError_1 (n := 3) rfl (v := -3) (by decide) ?_
  refine zr_icmp_eq C d_A_isError_3 (n := 6) rfl (t := 18) (by decide) (fun c1 => ?_) (fun c1 => ?_)
  · refine zr_iconst C d_A_isError_18 (n := 19) rfl (v := nI 1) (by decide) ?_
    refine zr_goto C d_A_isError_19 (t := 23) (by decide) ?_
    exact zr_zret C d_A_isError_23 (by first | (simp [zc_er, zk_b, c1]; done) | simp_all [zc_er, zk_b]) (by decide) hK (Nat.zero_le _) (Nat.zero_le _)
  · refine zr_iload_n C d_A_isError_6 (n := 7) rfl rfl ?_
    refine zr_bipush C d_A_isError_7 (n := 9) rfl (v := -4) (by decide) ?_
    refine zr_icmp_eq C d_A_isError_9 (n := 12) rfl (t := 18) (by decide) (fun c2 => ?_) (fun c2 => ?_)
    · refine zr_iconst C d_A_isError_18 (n := 19) rfl (v := nI 1) (by decide) ?_
      refine zr_goto C d_A_isError_19 (t := 23) (by decide) ?_
      exact zr_zret C d_A_isError_23 (by first | (simp [zc_er, zk_b, c1, c2]; done) | simp_all [zc_er, zk_b]) (by decide) hK (Nat.zero_le _) (Nat.zero_le _)
    · refine zr_iload_n C d_A_isError_12 (n := 13) rfl rfl ?_
      refine zr_bipush C d_A_isError_13 (n := 15) rfl (v := -5) (by decide) ?_
      refine zr_icmp_ne C d_A_isError_15 (n := 18) rfl (t := 22) (by decide) (fun c3 => ?_) (fun c3 => ?_)
      · refine zr_iconst C d_A_isError_22 (n := 23) rfl (v := nI 0) (by decide) ?_
        exact zr_zret C d_A_isError_23 (by first | (simp [zc_er, zk_b, c1, c2, c3]; done) | simp_all [zc_er, zk_b]) (by decide) hK (Nat.zero_le _) (Nat.zero_le _)
      · refine zr_iconst C d_A_isError_18 (n := 19) rfl (v := nI 1) (by decide) ?_
        refine zr_goto C d_A_isError_19 (t := 23) (by decide) ?_
        exact zr_zret C d_A_isError_23 (by first | (simp [zc_er, zk_b, c1, c2, c3]; done) | simp_all [zc_er, zk_b]) (by decide) hK (Nat.zero_le _) (Nat.zero_le _)
abbrev rm_A_breaks : Room := { frames := 1, cells := 0, slots := 0, locals := 20 }
set_option maxHeartbeats 4000000 in
set_option maxRecDepth 100000 in
/-- breaks -/
theorem sp_A_breaks (l : Launch) {h : zk_H} {x : Int32} {K : Option Value → zk_H → Prop} (hK : K (some (.int (zk_b (zc_br x)))) h) : zk_S l y_A_breaks b_A_breaks 1 (some .boolean) rm_A_breaks [.int x] h K := by
  refine zk_S_of R_A "breaks" (by decide) rfl rfl [some (.int x)] 0 rfl (Nat.le_of_ble_eq_true rfl) (fun p e s m ar below meth c D dA b base C => ?_)
  refine zr_iload_n C d_A_breaks_0 (n := 1) rfl rfl ?_
  refine zr_if_ge C d_A_breaks_1 (n := 4) rfl (t := 15) (by decide) (fun c1 => ?_) (fun c1 => ?_)
  · replace c1 : ¬ x < 0 := Int32.not_lt.mpr c1
    refine zr_iconst C d_A_breaks_15 (n := 16) rfl (v := nI 0) (by decide) ?_
    exact zr_zret C d_A_breaks_16 (by first | (simp [zc_br, zk_b, c1]; done) | simp_all [zc_br, zk_b]) (by decide) hK (Nat.zero_le _) (Nat.zero_le _)
  · replace c1 : x < 0 := Int32.not_le.mp c1
    refine zr_iload_n C d_A_breaks_4 (n := 5) rfl rfl ?_
    refine zr_callS1 C k_A_133 d_A_breaks_5 (nx := 8) rfl ⟨by decide, by decide⟩ (Nat.le_of_ble_eq_true rfl) ⟨by decide, by decide⟩ (sp_A_isError l ?_)
    refine zr_if_ne C d_A_breaks_8 (n := 11) rfl (t := 15) (by decide) (fun c2 => ?_) (fun c2 => ?_)
    · replace c2 := zk_bn c2
      refine zr_iconst C d_A_breaks_15 (n := 16) rfl (v := nI 0) (by decide) ?_
      exact zr_zret C d_A_breaks_16 (by first | (simp [zc_br, zk_b, c1, c2]; done) | simp_all [zc_br, zk_b]) (by decide) hK (Nat.zero_le _) (Nat.zero_le _)
    · replace c2 := zk_bz c2
      refine zr_iconst C d_A_breaks_11 (n := 12) rfl (v := nI 1) (by decide) ?_
      refine zr_goto C d_A_breaks_12 (t := 16) (by decide) ?_
      exact zr_zret C d_A_breaks_16 (by first | (simp [zc_br, zk_b, c1, c2]; done) | simp_all [zc_br, zk_b]) (by decide) hK (Nat.zero_le _) (Nat.zero_le _)
abbrev rm_A_fateOf : Room := { frames := 11, cells := 0, slots := 0, locals := 288 }
set_option maxHeartbeats 4000000 in
set_option maxRecDepth 100000 in
/-- fateOf -/
theorem sp_A_fateOf (l : Launch) {h : zk_H} {V : Nat → zo_O} {uk ut un : Nat → Nat} {ua : Nat → Int32} {uc : Nat} {B E : Nat → Int32} (hS : zc_at h V uk ut un ua uc B E) (hw : ∀ v, v < 2 → zo_wf (V v)) (hu : zc_uv uk ut un ua uc) (huc : uc ≤ 16) {j : Nat} (hj : j < uc) {K : Option Value → zk_H → Prop} (hK : ∀ (h' : zk_H) (B' E' : Nat → Int32), zc_at h' V uk ut un ua uc B' E' → zc_fr h h' → K (some (.int (zc_ft V uk ut un ua j))) h') : zk_S l y_A_fateOf b_A_fateOf 2 (some .int) rm_A_fateOf [.ref (0 + 1), .int (nI j)] h K := by
  obtain ⟨hx, hO0, hO1, ⟨fu, hf, hfu⟩, hus, hb, he⟩ := id hS
  obtain ⟨uk7, ut6, un4, um⟩ := hu j hj
  refine zk_S_of R_A "fateOf" (by decide) rfl rfl [some (.ref (0 + 1)), some (.int (nI j))] 0 rfl (Nat.le_of_ble_eq_true rfl) (fun p e s m ar below meth c D dA b base C => ?_)
  refine zr_aload_n C d_A_fateOf_0 (n := 1) rfl rfl ?_
  refine zr_get C f_A_33 d_A_fateOf_1 (n := 4) rfl hx rfl ?_
  refine zr_aload_n C d_A_fateOf_4 (n := 5) rfl rfl ?_
  refine zr_get C f_A_21 d_A_fateOf_5 (n := 8) rfl hx rfl ?_
  refine zr_iload_n C d_A_fateOf_8 (n := 9) rfl rfl ?_
  refine zr_aald C d_A_fateOf_9 (n := 10) rfl (t := 1) rfl hf (vp_in_nI (by omega) (by decide)) (by rw [nI_clamp (by omega)]; exact hfu _ (by omega)) ?_
  refine zr_aload_n C d_A_fateOf_10 (n := 11) rfl rfl ?_
  refine zr_get C f_A_12 d_A_fateOf_11 (n := 14) rfl hx rfl ?_
  refine zr_callV2 C k_A_103 d_A_fateOf_14 (nx := 17) rfl hb rfl ⟨by decide, by decide⟩ (Nat.le_of_ble_eq_true rfl) ⟨by decide, by decide⟩ (sp_B_bind l (i := 36) (u := j + 20) (o := 1) (ag := (ua j).toNatClampNeg) hb (hus j (by omega)) hO0 (hw 0 (by decide)) (by omega) (by omega) ut6 uk7 un4 um ?_)
  refine zr_aload_n C d_A_fateOf_17 (n := 18) rfl rfl ?_
  refine zr_get C f_A_33 d_A_fateOf_18 (n := 21) rfl (zk_g1 (by omega) hx) rfl ?_
  refine zr_getN C f_A_107 d_A_fateOf_21 (n := 24) rfl (zk_g0 hb) rfl ?_
  refine zr_if_eq C d_A_fateOf_24 (n := 27) rfl (t := 37) (by decide) (fun c1 => ?_) (fun c1 => ?_)
  · have cER : zb_bind (V 0) (uk j) (ut j) (un j) (ua j).toNatClampNeg B 0 = 0 := c1
    refine zr_aload_n C d_A_fateOf_37 (n := 38) rfl rfl ?_
    refine zr_get C f_A_33 d_A_fateOf_38 (n := 41) rfl (zk_g1 (by omega) hx) rfl ?_
    refine zr_aload_n C d_A_fateOf_41 (n := 42) rfl rfl ?_
    refine zr_get C f_A_21 d_A_fateOf_42 (n := 45) rfl (zk_g1 (by omega) hx) rfl ?_
    refine zr_iload_n C d_A_fateOf_45 (n := 46) rfl rfl ?_
    refine zr_aald C d_A_fateOf_46 (n := 47) rfl (t := 1) rfl (zk_g1 (by omega) hf) (vp_in_nI (by omega) (by decide)) (by rw [nI_clamp (by omega)]; exact hfu _ (by omega)) ?_
    refine zr_aload_n C d_A_fateOf_47 (n := 48) rfl rfl ?_
    refine zr_get C f_A_16 d_A_fateOf_48 (n := 51) rfl (zk_g1 (by omega) hx) rfl ?_
    refine zr_callV2 C k_A_163 d_A_fateOf_51 (nx := 54) rfl (zk_g0 hb) rfl ⟨by decide, by decide⟩ (Nat.le_of_ble_eq_true rfl) ⟨by decide, by decide⟩ (sp_B_fateWith l (i := 36) (u := j + 20) (o := 10) (ag := (ua j).toNatClampNeg) (pa := (zb_bind (V 0) (uk j) (ut j) (un j) (ua j).toNatClampNeg B 6).toNatClampNeg) (zk_g0 hb) (zk_g1 (by omega) (hus j (by omega))) (zo_at_set hO1 (by omega)) (hw 1 (by decide)) ut6 uk7 un4 um (zb_par2 cER) ?_)
    exact zr_iret C d_A_fateOf_54 (by first | exact zc_fate_ok uk7 cER | exact zc_fate_er uk7 c1) (hK _ _ _ (zc_b36 hS _).1 (zc_b36 hS _).2) (Nat.zero_le _) (Nat.zero_le _)
  · refine zr_aload_n C d_A_fateOf_27 (n := 28) rfl rfl ?_
    refine zr_get C f_A_33 d_A_fateOf_28 (n := 31) rfl (zk_g1 (by omega) hx) rfl ?_
    refine zr_getN C f_A_107 d_A_fateOf_31 (n := 34) rfl (zk_g0 hb) rfl ?_
    refine zr_goto C d_A_fateOf_34 (t := 54) (by decide) ?_
    exact zr_iret C d_A_fateOf_54 (by first | exact zc_fate_ok uk7 cER | exact zc_fate_er uk7 c1) (hK _ _ _ (zc_b36 hS _).1 (zc_b36 hS _).2) (Nat.zero_le _) (Nat.zero_le _)
abbrev rm_A_link : Room := { frames := 12, cells := 0, slots := 0, locals := 309 }
set_option maxHeartbeats 4000000 in
set_option maxRecDepth 100000 in
/-- link -/
theorem sp_A_link (l : Launch) {h : zk_H} {V : Nat → zo_O} {uk ut un : Nat → Nat} {ua : Nat → Int32} {uc : Nat} {B E : Nat → Int32} (hS : zc_at h V uk ut un ua uc B E) (hw : ∀ v, v < 2 → zo_wf (V v)) (hu : zc_uv uk ut un ua uc) (huc : uc ≤ 16) {x : Int32} {K : Option Value → zk_H → Prop} (hK : ∀ (h' : zk_H) (B' E' : Nat → Int32), zc_at h' V uk ut un ua uc B' E' → zc_fr h h' → K (some (.int (if zc_bl x (nI uc) = true then zc_ft V uk ut un ua x.toNatClampNeg else -1))) h') : zk_S l y_A_link b_A_link 2 (some .int) rm_A_link [.ref (0 + 1), .int x] h K := by
  obtain ⟨hx, hO0, hO1, ⟨fu, hf, hfu⟩, hus, hb, he⟩ := id hS
  refine zk_S_of R_A "link" (by decide) rfl rfl [some (.ref (0 + 1)), some (.int x)] 0 rfl (Nat.le_of_ble_eq_true rfl) (fun p e s m ar below meth c D dA b base C => ?_)
  refine zr_iload_n C d_A_link_0 (n := 1) rfl rfl ?_
  refine zr_aload_n C d_A_link_1 (n := 2) rfl rfl ?_
  refine zr_get C f_A_26 d_A_link_2 (n := 5) rfl hx rfl ?_
  refine zr_callS2 C k_A_40 d_A_link_5 (nx := 8) rfl ⟨by decide, by decide⟩ (Nat.le_of_ble_eq_true rfl) ⟨by decide, by decide⟩ (sp_A_isBelow l ?_)
  refine zr_if_ne C d_A_link_8 (n := 11) rfl (t := 13) (by decide) (fun c1 => ?_) (fun c1 => ?_)
  · replace c1 := zk_bn c1
    obtain ⟨j, hj, rfl, qj⟩ := zc_bl_n c1 (by omega)
    refine zr_aload_n C d_A_link_13 (n := 14) rfl rfl ?_
    refine zr_iload_n C d_A_link_14 (n := 15) rfl rfl ?_
    refine zr_callV1 C k_A_110 d_A_link_15 (nx := 18) rfl hx rfl ⟨by decide, by decide⟩ (Nat.le_of_ble_eq_true rfl) ⟨by decide, by decide⟩ (sp_A_fateOf l hS hw hu huc hj (fun h1 B1 E1 hS1 hF1 => ?_))
    exact zr_iret C d_A_link_18 rfl (by rw [if_pos c1, qj] at hK; exact hK h1 B1 E1 hS1 hF1) (Nat.zero_le _) (Nat.zero_le _)
  · replace c1 := zk_bz c1
    refine zr_iconst C d_A_link_11 (n := 12) rfl (v := -1) (by decide) ?_
    exact zr_iret C d_A_link_12 rfl (by rw [if_neg (by rw [c1]; decide)] at hK; exact hK h B E hS zc_fr_r) (Nat.zero_le _) (Nat.zero_le _)
abbrev rm_A_compile : Room := { frames := 11, cells := 0, slots := 0, locals := 288 }
set_option maxHeartbeats 4000000 in
set_option maxRecDepth 100000 in
/-- compile -/
theorem sp_A_compile (l : Launch) {h : zk_H} {V : Nat → zo_O} {uk ut un : Nat → Nat} {ua : Nat → Int32} {uc : Nat} {B E : Nat → Int32} (hS : zc_at h V uk ut un ua uc B E) (hw : ∀ v, v < 2 → zo_wf (V v)) (hu : zc_uv uk ut un ua uc) (huc : uc ≤ 16) {x y : Int32} {K : Option Value → zk_H → Prop} (hK : ∀ (h' : zk_H) (B' E' : Nat → Int32), zc_at h' V uk ut un ua uc B' E' → zc_fr h h' → K (some (.int (if zc_bl x (nI uc) = true ∧ zc_bl y (nI 2) = true then zc_bd (V y.toNatClampNeg) (uk x.toNatClampNeg) (ut x.toNatClampNeg) (un x.toNatClampNeg) (ua x.toNatClampNeg).toNatClampNeg 0 else -1))) h') : zk_S l y_A_compile b_A_compile 3 (some .int) rm_A_compile [.ref (0 + 1), .int x, .int y] h K := by
  obtain ⟨hx, hO0, hO1, ⟨fu, hf, hfu⟩, hus, hb, he⟩ := id hS
  refine zk_S_of R_A "compile" (by decide) rfl rfl [some (.ref (0 + 1)), some (.int x), some (.int y)] 0 rfl (Nat.le_of_ble_eq_true rfl) (fun p e s m ar below meth c D dA b base C => ?_)
  refine zr_iload_n C d_A_compile_0 (n := 1) rfl rfl ?_
  refine zr_aload_n C d_A_compile_1 (n := 2) rfl rfl ?_
  refine zr_get C f_A_26 d_A_compile_2 (n := 5) rfl hx rfl ?_
  refine zr_callS2 C k_A_40 d_A_compile_5 (nx := 8) rfl ⟨by decide, by decide⟩ (Nat.le_of_ble_eq_true rfl) ⟨by decide, by decide⟩ (sp_A_isBelow l ?_)
  refine zr_if_eq C d_A_compile_8 (n := 11) rfl (t := 19) (by decide) (fun c1 => ?_) (fun c1 => ?_)
  · replace c1 := zk_bz c1
    refine zr_iconst C d_A_compile_19 (n := 20) rfl (v := -1) (by decide) ?_
    exact zr_iret C d_A_compile_20 rfl (by rw [if_neg (by simp [c1])] at hK; exact hK h B E hS zc_fr_r) (Nat.zero_le _) (Nat.zero_le _)
  · replace c1 := zk_bn c1
    obtain ⟨j, hj, rfl, qj⟩ := zc_bl_n c1 (by first | decide | omega)
    obtain ⟨uk7, ut6, un4, um⟩ := hu j hj
    refine zr_iload_n C d_A_compile_11 (n := 12) rfl rfl ?_
    refine zr_iconst C d_A_compile_12 (n := 13) rfl (v := nI 2) (by decide) ?_
    refine zr_callS2 C k_A_40 d_A_compile_13 (nx := 16) rfl ⟨by decide, by decide⟩ (Nat.le_of_ble_eq_true rfl) ⟨by decide, by decide⟩ (sp_A_isBelow l ?_)
    refine zr_if_ne C d_A_compile_16 (n := 19) rfl (t := 21) (by decide) (fun c2 => ?_) (fun c2 => ?_)
    · replace c2 := zk_bn c2
      obtain ⟨v, hv, rfl, qv⟩ := zc_bl_n c2 (by first | decide | omega)
      refine zr_aload_n C d_A_compile_21 (n := 22) rfl rfl ?_
      refine zr_get C f_A_33 d_A_compile_22 (n := 25) rfl hx rfl ?_
      refine zr_aload_n C d_A_compile_25 (n := 26) rfl rfl ?_
      refine zr_get C f_A_21 d_A_compile_26 (n := 29) rfl hx rfl ?_
      refine zr_iload_n C d_A_compile_29 (n := 30) rfl rfl ?_
      refine zr_aald C d_A_compile_30 (n := 31) rfl (t := 1) rfl hf (vp_in_nI (by omega) (by decide)) (by rw [nI_clamp (by omega)]; exact hfu _ (by omega)) ?_
      refine zr_aload_n C d_A_compile_31 (n := 32) rfl rfl ?_
      refine zr_iload_n C d_A_compile_32 (n := 33) rfl rfl ?_
      refine zr_callV1 C k_A_44 d_A_compile_33 (nx := 36) rfl hx rfl ⟨by decide, by decide⟩ (Nat.le_of_ble_eq_true rfl) ⟨by decide, by decide⟩ (sp_A_offerOf l hS hv ?_)
      have hO := zc_o hS hv
      have ho := hO.1
      refine zr_callV2 C k_A_103 d_A_compile_36 (nx := 39) rfl hb rfl ⟨by decide, by decide⟩ (Nat.le_of_ble_eq_true rfl) ⟨by decide, by decide⟩ (sp_B_bind l (i := 36) (u := j + 20) (o := 9 * v + 1) (ag := (ua j).toNatClampNeg) hb (hus j (by omega)) hO (hw v hv) (by omega) (by omega) ut6 uk7 un4 um ?_)
      refine zr_aload_n C d_A_compile_39 (n := 40) rfl rfl ?_
      refine zr_get C f_A_33 d_A_compile_40 (n := 43) rfl (zk_g1 (by omega) hx) rfl ?_
      refine zr_getN C f_A_107 d_A_compile_43 (n := 46) rfl (zk_g0 hb) rfl ?_
      exact zr_iret C d_A_compile_46 (zc_bd_0 uk7 B) (by rw [if_pos ⟨c1, c2⟩, qj, qv] at hK; exact hK _ _ _ (zc_b36 hS _).1 (zc_b36 hS _).2) (Nat.zero_le _) (Nat.zero_le _)
    · replace c2 := zk_bz c2
      refine zr_iconst C d_A_compile_19 (n := 20) rfl (v := -1) (by decide) ?_
      exact zr_iret C d_A_compile_20 rfl (by rw [if_neg (by simp [c1, c2])] at hK; exact hK h B E hS zc_fr_r) (Nat.zero_le _) (Nat.zero_le _)
theorem zc_rec_1 {V : Nat → zo_O} {k t nm ag : Nat} (hk : k < 7) {B : Nat → Int32} (h : ¬ zb_bind (V 0) k t nm ag B 0 = 0) : zb_bind (V 0) k t nm ag B 0 = zc_rec V k t nm ag := by
  have e := zc_bd_0 (O := V 0) (t := t) (nm := nm) (ag := ag) hk B
  rw [e] at h ⊢
  rw [zc_rec, if_neg h]
theorem zc_rec_2 {V : Nat → zo_O} {k t nm ag : Nat} (hk : k < 7) {B E : Nat → Int32} (h : zb_bind (V 0) k t nm ag B 0 = 0) (g : ¬ zb_bind (V 1) k t nm ag E 0 = 0) : zb_bind (V 1) k t nm ag E 0 = zc_rec V k t nm ag := by
  have e := zc_bd_0 (O := V 0) (t := t) (nm := nm) (ag := ag) hk B
  have e2 := zc_bd_0 (O := V 1) (t := t) (nm := nm) (ag := ag) hk E
  rw [e] at h
  rw [e2] at g ⊢
  rw [zc_rec, if_pos h, if_neg g]
theorem zc_rec_3 {V : Nat → zo_O} {k t nm ag : Nat} (hk : k < 7) {B E : Nat → Int32} (h : zb_bind (V 0) k t nm ag B 0 = 0) (g : zb_bind (V 1) k t nm ag E 0 = 0) : (if zb_sa k (zb_bind (V 0) k t nm ag B) (zb_bind (V 1) k t nm ag E) = true then nI 0 else nI 1) = zc_rec V k t nm ag := by
  have e := zc_bd_0 (O := V 0) (t := t) (nm := nm) (ag := ag) hk B
  have e2 := zc_bd_0 (O := V 1) (t := t) (nm := nm) (ag := ag) hk E
  rw [zb_sa_sm hk ((zb_ind hk B zc_Z).2.2 h) ((zb_ind hk E zc_Z).2.2 g)]
  rw [e] at h
  rw [e2] at g
  rw [zc_rec, if_pos h, if_pos g]
  rfl
abbrev rm_A_recompile : Room := { frames := 11, cells := 0, slots := 0, locals := 288 }
set_option maxHeartbeats 4000000 in
set_option maxRecDepth 100000 in
/-- recompile -/
theorem sp_A_recompile (l : Launch) {h : zk_H} {V : Nat → zo_O} {uk ut un : Nat → Nat} {ua : Nat → Int32} {uc : Nat} {B E : Nat → Int32} (hS : zc_at h V uk ut un ua uc B E) (hw : ∀ v, v < 2 → zo_wf (V v)) (hu : zc_uv uk ut un ua uc) (huc : uc ≤ 16) {x : Int32} {K : Option Value → zk_H → Prop} (hK : ∀ (h' : zk_H) (B' E' : Nat → Int32), zc_at h' V uk ut un ua uc B' E' → zc_fr h h' → K (some (.int (if zc_bl x (nI uc) = true then zc_rec V (uk x.toNatClampNeg) (ut x.toNatClampNeg) (un x.toNatClampNeg) (ua x.toNatClampNeg).toNatClampNeg else -1))) h') : zk_S l y_A_recompile b_A_recompile 2 (some .int) rm_A_recompile [.ref (0 + 1), .int x] h K := by
  obtain ⟨hx, hO0, hO1, ⟨fu, hf, hfu⟩, hus, hb, he⟩ := id hS
  refine zk_S_of R_A "recompile" (by decide) rfl rfl [some (.ref (0 + 1)), some (.int x)] 0 rfl (Nat.le_of_ble_eq_true rfl) (fun p e s m ar below meth c D dA b base C => ?_)
  refine zr_iload_n C d_A_recompile_0 (n := 1) rfl rfl ?_
  refine zr_aload_n C d_A_recompile_1 (n := 2) rfl rfl ?_
  refine zr_get C f_A_26 d_A_recompile_2 (n := 5) rfl hx rfl ?_
  refine zr_callS2 C k_A_40 d_A_recompile_5 (nx := 8) rfl ⟨by decide, by decide⟩ (Nat.le_of_ble_eq_true rfl) ⟨by decide, by decide⟩ (sp_A_isBelow l ?_)
  refine zr_if_ne C d_A_recompile_8 (n := 11) rfl (t := 13) (by decide) (fun c1 => ?_) (fun c1 => ?_)
  · replace c1 := zk_bn c1
    obtain ⟨j, hj, rfl, qj⟩ := zc_bl_n c1 (by omega)
    obtain ⟨uk7, ut6, un4, um⟩ := hu j hj
    refine zr_aload_n C d_A_recompile_13 (n := 14) rfl rfl ?_
    refine zr_get C f_A_33 d_A_recompile_14 (n := 17) rfl hx rfl ?_
    refine zr_aload_n C d_A_recompile_17 (n := 18) rfl rfl ?_
    refine zr_get C f_A_21 d_A_recompile_18 (n := 21) rfl hx rfl ?_
    refine zr_iload_n C d_A_recompile_21 (n := 22) rfl rfl ?_
    refine zr_aald C d_A_recompile_22 (n := 23) rfl (t := 1) rfl hf (vp_in_nI (by omega) (by decide)) (by rw [nI_clamp (by omega)]; exact hfu _ (by omega)) ?_
    refine zr_aload_n C d_A_recompile_23 (n := 24) rfl rfl ?_
    refine zr_get C f_A_12 d_A_recompile_24 (n := 27) rfl hx rfl ?_
    refine zr_callV2 C k_A_103 d_A_recompile_27 (nx := 30) rfl hb rfl ⟨by decide, by decide⟩ (Nat.le_of_ble_eq_true rfl) ⟨by decide, by decide⟩ (sp_B_bind l (i := 36) (u := j + 20) (o := 1) (ag := (ua j).toNatClampNeg) hb (hus j (by omega)) hO0 (hw 0 (by decide)) (by omega) (by omega) ut6 uk7 un4 um ?_)
    refine zr_aload_n C d_A_recompile_30 (n := 31) rfl rfl ?_
    refine zr_get C f_A_33 d_A_recompile_31 (n := 34) rfl (zk_g1 (by omega) hx) rfl ?_
    refine zr_getN C f_A_107 d_A_recompile_34 (n := 37) rfl (zk_g0 hb) rfl ?_
    refine zr_if_eq C d_A_recompile_37 (n := 40) rfl (t := 48) (by decide) (fun c2 => ?_) (fun c2 => ?_)
    · refine zr_aload_n C d_A_recompile_48 (n := 49) rfl rfl ?_
      refine zr_get C f_A_37 d_A_recompile_49 (n := 52) rfl (zk_g1 (by omega) hx) rfl ?_
      refine zr_aload_n C d_A_recompile_52 (n := 53) rfl rfl ?_
      refine zr_get C f_A_21 d_A_recompile_53 (n := 56) rfl (zk_g1 (by omega) hx) rfl ?_
      refine zr_iload_n C d_A_recompile_56 (n := 57) rfl rfl ?_
      refine zr_aald C d_A_recompile_57 (n := 58) rfl (t := 1) rfl (zk_g1 (by omega) hf) (vp_in_nI (by omega) (by decide)) (by rw [nI_clamp (by omega)]; exact hfu _ (by omega)) ?_
      refine zr_aload_n C d_A_recompile_58 (n := 59) rfl rfl ?_
      refine zr_get C f_A_16 d_A_recompile_59 (n := 62) rfl (zk_g1 (by omega) hx) rfl ?_
      refine zr_callV2 C k_A_103 d_A_recompile_62 (nx := 65) rfl (zk_g1 (by omega) he) rfl ⟨by decide, by decide⟩ (Nat.le_of_ble_eq_true rfl) ⟨by decide, by decide⟩ (sp_B_bind l (i := 37) (u := j + 20) (o := 10) (ag := (ua j).toNatClampNeg) (zk_g1 (by omega) he) (zk_g1 (by omega) (hus j (by omega))) (zo_at_set hO1 (by omega)) (hw 1 (by decide)) (by omega) (by omega) ut6 uk7 un4 um ?_)
      refine zr_aload_n C d_A_recompile_65 (n := 66) rfl rfl ?_
      refine zr_get C f_A_37 d_A_recompile_66 (n := 69) rfl (zk_g1 (by omega) (zk_g1 (by omega) hx)) rfl ?_
      refine zr_getN C f_A_107 d_A_recompile_69 (n := 72) rfl (zk_g0 (zk_g1 (by omega) he)) rfl ?_
      refine zr_if_eq C d_A_recompile_72 (n := 75) rfl (t := 83) (by decide) (fun c3 => ?_) (fun c3 => ?_)
      · refine zr_aload_n C d_A_recompile_83 (n := 84) rfl rfl ?_
        refine zr_get C f_A_33 d_A_recompile_84 (n := 87) rfl (zk_g1 (by omega) (zk_g1 (by omega) hx)) rfl ?_
        refine zr_aload_n C d_A_recompile_87 (n := 88) rfl rfl ?_
        refine zr_get C f_A_37 d_A_recompile_88 (n := 91) rfl (zk_g1 (by omega) (zk_g1 (by omega) hx)) rfl ?_
        refine zr_aload_n C d_A_recompile_91 (n := 92) rfl rfl ?_
        refine zr_get C f_A_21 d_A_recompile_92 (n := 95) rfl (zk_g1 (by omega) (zk_g1 (by omega) hx)) rfl ?_
        refine zr_iload_n C d_A_recompile_95 (n := 96) rfl rfl ?_
        refine zr_aald C d_A_recompile_96 (n := 97) rfl (t := 1) rfl (zk_g1 (by omega) (zk_g1 (by omega) hf)) (vp_in_nI (by omega) (by decide)) (by rw [nI_clamp (by omega)]; exact hfu _ (by omega)) ?_
        refine zr_getN C f_A_114 d_A_recompile_97 (n := 100) rfl (zk_g1 (by omega) (zk_g1 (by omega) (hus j (by omega)))) rfl ?_
        refine zr_callV2 C k_A_117 d_A_recompile_100 (nx := 103) rfl (zk_g1 (by omega) (zk_g0 hb)) rfl ⟨by decide, by decide⟩ (Nat.le_of_ble_eq_true rfl) ⟨by decide, by decide⟩ (sp_B_isSameAs l (zk_g1 (by omega) (zk_g0 hb)) (zk_g0 (zk_g1 (by omega) he)) uk7 ?_)
        refine zr_if_eq C d_A_recompile_103 (n := 106) rfl (t := 110) (by decide) (fun c4 => ?_) (fun c4 => ?_)
        · replace c4 := zk_bz c4
          refine zr_iconst C d_A_recompile_110 (n := 111) rfl (v := nI 1) (by decide) ?_
          have w1 := zc_b36 hS (zb_bind (V 0) (uk j) (ut j) (un j) (ua j).toNatClampNeg B)
          have w2 := zc_b37 w1.1 (zb_bind (V 1) (uk j) (ut j) (un j) (ua j).toNatClampNeg E)
          exact zr_iret (y := zc_rec V (uk j) (ut j) (un j) (ua j).toNatClampNeg) C d_A_recompile_111 (by rw [← zc_rec_3 uk7 c2 c3, c4]; rfl) (by rw [if_pos c1, qj] at hK; exact hK _ _ _ w2.1 (zc_fr_t w1.2 w2.2)) (Nat.zero_le _) (Nat.zero_le _)
        · replace c4 := zk_bn c4
          refine zr_iconst C d_A_recompile_106 (n := 107) rfl (v := nI 0) (by decide) ?_
          refine zr_goto C d_A_recompile_107 (t := 111) (by decide) ?_
          have w1 := zc_b36 hS (zb_bind (V 0) (uk j) (ut j) (un j) (ua j).toNatClampNeg B)
          have w2 := zc_b37 w1.1 (zb_bind (V 1) (uk j) (ut j) (un j) (ua j).toNatClampNeg E)
          exact zr_iret (y := zc_rec V (uk j) (ut j) (un j) (ua j).toNatClampNeg) C d_A_recompile_111 (by rw [← zc_rec_3 uk7 c2 c3, c4]; rfl) (by rw [if_pos c1, qj] at hK; exact hK _ _ _ w2.1 (zc_fr_t w1.2 w2.2)) (Nat.zero_le _) (Nat.zero_le _)
      · refine zr_aload_n C d_A_recompile_75 (n := 76) rfl rfl ?_
        refine zr_get C f_A_37 d_A_recompile_76 (n := 79) rfl (zk_g1 (by omega) (zk_g1 (by omega) hx)) rfl ?_
        refine zr_getN C f_A_107 d_A_recompile_79 (n := 82) rfl (zk_g0 (zk_g1 (by omega) he)) rfl ?_
        have w1 := zc_b36 hS (zb_bind (V 0) (uk j) (ut j) (un j) (ua j).toNatClampNeg B)
        have w2 := zc_b37 w1.1 (zb_bind (V 1) (uk j) (ut j) (un j) (ua j).toNatClampNeg E)
        exact zr_iret C d_A_recompile_82 (zc_rec_2 uk7 c2 c3) (by rw [if_pos c1, qj] at hK; exact hK _ _ _ w2.1 (zc_fr_t w1.2 w2.2)) (Nat.zero_le _) (Nat.zero_le _)
    · refine zr_aload_n C d_A_recompile_40 (n := 41) rfl rfl ?_
      refine zr_get C f_A_33 d_A_recompile_41 (n := 44) rfl (zk_g1 (by omega) hx) rfl ?_
      refine zr_getN C f_A_107 d_A_recompile_44 (n := 47) rfl (zk_g0 hb) rfl ?_
      have w1 := zc_b36 hS (zb_bind (V 0) (uk j) (ut j) (un j) (ua j).toNatClampNeg B)
      exact zr_iret C d_A_recompile_47 (zc_rec_1 uk7 c2) (by rw [if_pos c1, qj] at hK; exact hK _ _ _ w1.1 w1.2) (Nat.zero_le _) (Nat.zero_le _)
  · replace c1 := zk_bz c1
    refine zr_iconst C d_A_recompile_11 (n := 12) rfl (v := -1) (by decide) ?_
    exact zr_iret C d_A_recompile_12 rfl (by rw [if_neg (by rw [c1]; decide)] at hK; exact hK h B E hS zc_fr_r) (Nat.zero_le _) (Nat.zero_le _)
abbrev rm_A_breaking : Room := { frames := 12, cells := 0, slots := 0, locals := 309 }
set_option maxHeartbeats 4000000 in
set_option maxRecDepth 100000 in
/-- breaking -/
theorem sp_A_breaking (l : Launch) {h : zk_H} {V : Nat → zo_O} {uk ut un : Nat → Nat} {ua : Nat → Int32} {uc : Nat} {B E : Nat → Int32} (hS : zc_at h V uk ut un ua uc B E) (hw : ∀ v, v < 2 → zo_wf (V v)) (hu : zc_uv uk ut un ua uc) (huc : uc ≤ 16) {K : Option Value → zk_H → Prop} (hK : ∀ (h' : zk_H) (B' E' : Nat → Int32), zc_at h' V uk ut un ua uc B' E' → zc_fr h h' → K (some (.int (nI (zc_cnt (fun i => zc_br (zc_ft V uk ut un ua i)) uc 0 0)))) h') : zk_S l y_A_breaking b_A_breaking 3 (some .int) rm_A_breaking [.ref (0 + 1)] h K := by
  refine zk_S_of R_A "breaking" (by decide) rfl rfl [some (.ref (0 + 1)), none, none] 2 rfl (Nat.le_of_ble_eq_true rfl) (fun p e s m ar below meth c D dA b base C => ?_)
  have L : ∀ (n j a : Nat) (h1 : zk_H) (B1 E1 : Nat → Int32), zc_at h1 V uk ut un ua uc B1 E1 → zc_fr h h1 → n + j = uc → a ≤ j → (∀ (h' : zk_H) (B' E' : Nat → Int32), zc_at h' V uk ut un ua uc B' E' → zc_fr h h' → K (some (.int (nI (zc_cnt (fun i => zc_br (zc_ft V uk ut un ua i)) n j a)))) h') → zk_V p l e rm_A_breaking s m ar below meth c 3 D dA b base (MQ below (zk_Q K D dA b base) ar s rm_A_breaking.cells rm_A_breaking.slots (fun q : Nat => base ≤ q)) 0 0 4 [some (.ref (0 + 1)), some (.int (nI a)), some (.int (nI j))] [] h1 := by
    intro n
    induction n with
    | zero =>
      intro j a h1 B1 E1 hS1 hF1 hn ha hK
      refine zr_iload_n C d_A_breaking_4 (n := 5) rfl rfl ?_
      refine zr_aload_n C d_A_breaking_5 (n := 6) rfl rfl ?_
      refine zr_get C f_A_26 d_A_breaking_6 (n := 9) rfl hS1.1 rfl ?_
      refine zr_icmp_ge C d_A_breaking_9 (n := 12) rfl (t := 32) (by decide) (fun c1 => ?_) (fun c1 => ?_)
      · refine zr_iload_n C d_A_breaking_32 (n := 33) rfl rfl ?_
        exact zr_iret C d_A_breaking_33 rfl (hK h1 B1 E1 hS1 hF1) (Nat.zero_le _) (Nat.zero_le _)
      · exact absurd (zk_nle (by omega) (by omega) c1) (by omega)
    | succ n ih =>
      intro j a h1 B1 E1 hS1 hF1 hn ha hK
      refine zr_iload_n C d_A_breaking_4 (n := 5) rfl rfl ?_
      refine zr_aload_n C d_A_breaking_5 (n := 6) rfl rfl ?_
      refine zr_get C f_A_26 d_A_breaking_6 (n := 9) rfl hS1.1 rfl ?_
      refine zr_icmp_ge C d_A_breaking_9 (n := 12) rfl (t := 32) (by decide) (fun c1 => ?_) (fun c1 => ?_)
      · exact absurd (zk_le (by omega) (by omega) c1) (by omega)
      · have hj : j < uc := by omega
        refine zr_aload_n C d_A_breaking_12 (n := 13) rfl rfl ?_
        refine zr_iload_n C d_A_breaking_13 (n := 14) rfl rfl ?_
        refine zr_callV1 C k_A_110 d_A_breaking_14 (nx := 17) rfl hS1.1 rfl ⟨by decide, by decide⟩ (Nat.le_of_ble_eq_true rfl) ⟨by decide, by decide⟩ (sp_A_fateOf l hS1 hw hu huc hj (fun h2 B2 E2 hS2 hF2 => ?_))
        refine zr_callS1 C k_A_136 d_A_breaking_17 (nx := 20) rfl ⟨by decide, by decide⟩ (Nat.le_of_ble_eq_true rfl) ⟨by decide, by decide⟩ (sp_A_breaks l ?_)
        refine zr_if_eq C d_A_breaking_20 (n := 23) rfl (t := 26) (by decide) (fun c2 => ?_) (fun c2 => ?_)
        · replace c2 := zk_bz c2
          refine zr_iinc C d_A_breaking_26 (n := 29) rfl rfl (w := 1) (by decide) (nI_1 j) (by decide) rfl ?_
          refine zr_goto C d_A_breaking_29 (t := 4) (by decide) ?_
          exact ih (j + 1) _ h2 B2 E2 hS2 (zc_fr_t hF1 hF2) (by omega) (by omega) (by rw [zc_cnt_0 (f := (fun i => zc_br (zc_ft V uk ut un ua i))) (j := j) c2] at hK; exact hK)
        · replace c2 := zk_bn c2
          refine zr_iinc C d_A_breaking_23 (n := 26) rfl rfl (w := 1) (by decide) (nI_1 a) (by decide) rfl ?_
          refine zr_iinc C d_A_breaking_26 (n := 29) rfl rfl (w := 1) (by decide) (nI_1 j) (by decide) rfl ?_
          refine zr_goto C d_A_breaking_29 (t := 4) (by decide) ?_
          exact ih (j + 1) _ h2 B2 E2 hS2 (zc_fr_t hF1 hF2) (by omega) (by omega) (by rw [zc_cnt_1 (f := (fun i => zc_br (zc_ft V uk ut un ua i))) (j := j) c2] at hK; exact hK)
  refine zr_iconst C d_A_breaking_0 (n := 1) rfl (v := nI 0) (by decide) ?_
  refine zr_istore_n C d_A_breaking_1 (n := 2) rfl (by decide) rfl ?_
  refine zr_iconst C d_A_breaking_2 (n := 3) rfl (v := nI 0) (by decide) ?_
  refine zr_istore_n C d_A_breaking_3 (n := 4) rfl (by decide) rfl ?_
  exact L uc 0 0 h B E hS zc_fr_r rfl (Nat.le_refl 0) hK
abbrev rm_A_broken : Room := { frames := 12, cells := 0, slots := 0, locals := 309 }
set_option maxHeartbeats 4000000 in
set_option maxRecDepth 100000 in
/-- broken -/
theorem sp_A_broken (l : Launch) {h : zk_H} {V : Nat → zo_O} {uk ut un : Nat → Nat} {ua : Nat → Int32} {uc : Nat} {B E : Nat → Int32} (hS : zc_at h V uk ut un ua uc B E) (hw : ∀ v, v < 2 → zo_wf (V v)) (hu : zc_uv uk ut un ua uc) (huc : uc ≤ 16) {x : Int32} {K : Option Value → zk_H → Prop} (hK : ∀ (h' : zk_H) (B' E' : Nat → Int32), zc_at h' V uk ut un ua uc B' E' → zc_fr h h' → K (some (.int (zc_kth (fun i => zc_br (zc_ft V uk ut un ua i)) x uc 0 0))) h') : zk_S l y_A_broken b_A_broken 4 (some .int) rm_A_broken [.ref (0 + 1), .int x] h K := by
  refine zk_S_of R_A "broken" (by decide) rfl rfl [some (.ref (0 + 1)), some (.int x), none, none] 2 rfl (Nat.le_of_ble_eq_true rfl) (fun p e s m ar below meth c D dA b base C => ?_)
  have L : ∀ (n j a : Nat) (h1 : zk_H) (B1 E1 : Nat → Int32), zc_at h1 V uk ut un ua uc B1 E1 → zc_fr h h1 → n + j = uc → a ≤ j → (∀ (h' : zk_H) (B' E' : Nat → Int32), zc_at h' V uk ut un ua uc B' E' → zc_fr h h' → K (some (.int (zc_kth (fun i => zc_br (zc_ft V uk ut un ua i)) x n j a))) h') → zk_V p l e rm_A_broken s m ar below meth c 4 D dA b base (MQ below (zk_Q K D dA b base) ar s rm_A_broken.cells rm_A_broken.slots (fun q : Nat => base ≤ q)) 0 0 4 [some (.ref (0 + 1)), some (.int x), some (.int (nI a)), some (.int (nI j))] [] h1 := by
    intro n
    induction n with
    | zero =>
      intro j a h1 B1 E1 hS1 hF1 hn ha hK
      refine zr_iload_n C d_A_broken_4 (n := 5) rfl rfl ?_
      refine zr_aload_n C d_A_broken_5 (n := 6) rfl rfl ?_
      refine zr_get C f_A_26 d_A_broken_6 (n := 9) rfl hS1.1 rfl ?_
      refine zr_icmp_ge C d_A_broken_9 (n := 12) rfl (t := 39) (by decide) (fun c1 => ?_) (fun c1 => ?_)
      · refine zr_iconst C d_A_broken_39 (n := 40) rfl (v := -1) (by decide) ?_
        exact zr_iret C d_A_broken_40 rfl (hK h1 B1 E1 hS1 hF1) (Nat.zero_le _) (Nat.zero_le _)
      · exact absurd (zk_nle (by omega) (by omega) c1) (by omega)
    | succ n ih =>
      intro j a h1 B1 E1 hS1 hF1 hn ha hK
      refine zr_iload_n C d_A_broken_4 (n := 5) rfl rfl ?_
      refine zr_aload_n C d_A_broken_5 (n := 6) rfl rfl ?_
      refine zr_get C f_A_26 d_A_broken_6 (n := 9) rfl hS1.1 rfl ?_
      refine zr_icmp_ge C d_A_broken_9 (n := 12) rfl (t := 39) (by decide) (fun c1 => ?_) (fun c1 => ?_)
      · exact absurd (zk_le (by omega) (by omega) c1) (by omega)
      · have hj : j < uc := by omega
        refine zr_aload_n C d_A_broken_12 (n := 13) rfl rfl ?_
        refine zr_iload_n C d_A_broken_13 (n := 14) rfl rfl ?_
        refine zr_callV1 C k_A_110 d_A_broken_14 (nx := 17) rfl hS1.1 rfl ⟨by decide, by decide⟩ (Nat.le_of_ble_eq_true rfl) ⟨by decide, by decide⟩ (sp_A_fateOf l hS1 hw hu huc hj (fun h2 B2 E2 hS2 hF2 => ?_))
        refine zr_callS1 C k_A_136 d_A_broken_17 (nx := 20) rfl ⟨by decide, by decide⟩ (Nat.le_of_ble_eq_true rfl) ⟨by decide, by decide⟩ (sp_A_breaks l ?_)
        refine zr_if_eq C d_A_broken_20 (n := 23) rfl (t := 33) (by decide) (fun c2 => ?_) (fun c2 => ?_)
        · replace c2 := zk_bz c2
          refine zr_iinc C d_A_broken_33 (n := 36) rfl rfl (w := 1) (by decide) (nI_1 j) (by decide) rfl ?_
          refine zr_goto C d_A_broken_36 (t := 4) (by decide) ?_
          exact ih (j + 1) _ h2 B2 E2 hS2 (zc_fr_t hF1 hF2) (by omega) (by omega) (by rw [zc_kth_0 (f := (fun i => zc_br (zc_ft V uk ut un ua i))) (j := j) c2] at hK; exact hK)
        · replace c2 := zk_bn c2
          refine zr_iload_n C d_A_broken_23 (n := 24) rfl rfl ?_
          refine zr_iload_n C d_A_broken_24 (n := 25) rfl rfl ?_
          refine zr_icmp_ne C d_A_broken_25 (n := 28) rfl (t := 30) (by decide) (fun c3 => ?_) (fun c3 => ?_)
          · refine zr_iinc C d_A_broken_30 (n := 33) rfl rfl (w := 1) (by decide) (nI_1 a) (by decide) rfl ?_
            refine zr_iinc C d_A_broken_33 (n := 36) rfl rfl (w := 1) (by decide) (nI_1 j) (by decide) rfl ?_
            refine zr_goto C d_A_broken_36 (t := 4) (by decide) ?_
            exact ih (j + 1) _ h2 B2 E2 hS2 (zc_fr_t hF1 hF2) (by omega) (by omega) (by rw [zc_kth_n (f := (fun i => zc_br (zc_ft V uk ut un ua i))) (j := j) c2 c3] at hK; exact hK)
          · refine zr_iload_n C d_A_broken_28 (n := 29) rfl rfl ?_
            exact zr_iret C d_A_broken_29 rfl (by rw [zc_kth_y (f := (fun i => zc_br (zc_ft V uk ut un ua i))) (j := j) c2 c3] at hK; exact hK h2 B2 E2 hS2 (zc_fr_t hF1 hF2)) (Nat.zero_le _) (Nat.zero_le _)
  refine zr_iconst C d_A_broken_0 (n := 1) rfl (v := nI 0) (by decide) ?_
  refine zr_istore_n C d_A_broken_1 (n := 2) rfl (by decide) rfl ?_
  refine zr_iconst C d_A_broken_2 (n := 3) rfl (v := nI 0) (by decide) ?_
  refine zr_istore_n C d_A_broken_3 (n := 4) rfl (by decide) rfl ?_
  exact L uc 0 0 h B E hS zc_fr_r rfl (Nat.le_refl 0) hK
abbrev rm_A_differ : Room := { frames := 2, cells := 0, slots := 0, locals := 46 }
set_option maxHeartbeats 4000000 in
set_option maxRecDepth 100000 in
/-- differ -/
theorem sp_A_differ (l : Launch) {h : zk_H} {V : Nat → zo_O} {uk ut un : Nat → Nat} {ua : Nat → Int32} {uc : Nat} {B E : Nat → Int32} (hS : zc_at h V uk ut un ua uc B E) {x : Int32} {K : Option Value → zk_H → Prop} (hK : ∀ (h' : zk_H) (B' E' : Nat → Int32), zc_at h' V uk ut un ua uc B' E' → zc_fr h h' → K (some (.int (zc_diff V x))) h') : zk_S l y_A_differ b_A_differ 4 (some .int) rm_A_differ [.ref (0 + 1), .int x] h K := by
  obtain ⟨hx, hO0, hO1, ⟨fu, hf, hfu⟩, hus, hb, he⟩ := id hS
  refine zk_S_of R_A "differ" (by decide) rfl rfl [some (.ref (0 + 1)), some (.int x), none, none] 2 rfl (Nat.le_of_ble_eq_true rfl) (fun p e s m ar below meth c D dA b base C => ?_)
  refine zr_iload_n C d_A_differ_0 (n := 1) rfl rfl ?_
  refine zr_bipush C d_A_differ_1 (n := 3) rfl (v := nI 6) (by decide) ?_
  refine zr_callS2 C k_A_40 d_A_differ_3 (nx := 6) rfl ⟨by decide, by decide⟩ (Nat.le_of_ble_eq_true rfl) ⟨by decide, by decide⟩ (sp_A_isBelow l ?_)
  refine zr_if_ne C d_A_differ_6 (n := 9) rfl (t := 11) (by decide) (fun c1 => ?_) (fun c1 => ?_)
  · replace c1 := zk_bn c1
    obtain ⟨t, ht, rfl, qt⟩ := zc_bl_n c1 (by first | decide | omega)
    refine zr_aload_n C d_A_differ_11 (n := 12) rfl rfl ?_
    refine zr_get C f_A_12 d_A_differ_12 (n := 15) rfl hx rfl ?_
    refine zr_iload_n C d_A_differ_15 (n := 16) rfl rfl ?_
    refine zr_callV1 C k_A_52 d_A_differ_16 (nx := 19) rfl hO0.1 rfl ⟨by decide, by decide⟩ (Nat.le_of_ble_eq_true rfl) ⟨by decide, by decide⟩ (sp_O_isThere l hO0 ht ?_)
    refine zr_istore_n C d_A_differ_19 (n := 20) rfl (by decide) rfl ?_
    refine zr_aload_n C d_A_differ_20 (n := 21) rfl rfl ?_
    refine zr_get C f_A_16 d_A_differ_21 (n := 24) rfl hx rfl ?_
    refine zr_iload_n C d_A_differ_24 (n := 25) rfl rfl ?_
    refine zr_callV1 C k_A_52 d_A_differ_25 (nx := 28) rfl hO1.1 rfl ⟨by decide, by decide⟩ (Nat.le_of_ble_eq_true rfl) ⟨by decide, by decide⟩ (sp_O_isThere l hO1 ht ?_)
    refine zr_istore_n C d_A_differ_28 (n := 29) rfl (by decide) rfl ?_
    refine zr_iload_n C d_A_differ_29 (n := 30) rfl rfl ?_
    refine zr_if_eq C d_A_differ_30 (n := 33) rfl (t := 50) (by decide) (fun c2 => ?_) (fun c2 => ?_)
    · replace c2 := zk_bz c2
      refine zr_iload_n C d_A_differ_50 (n := 51) rfl rfl ?_
      refine zr_if_eq C d_A_differ_51 (n := 54) rfl (t := 57) (by decide) (fun c3 => ?_) (fun c3 => ?_)
      · replace c3 := zk_bz c3
        refine zr_iload_n C d_A_differ_57 (n := 58) rfl rfl ?_
        refine zr_if_eq C d_A_differ_58 (n := 61) rfl (t := 66) (by decide) (fun c4 => ?_) (fun c4 => ?_)
        · replace c4 := zk_bz c4
          refine zr_bipush C d_A_differ_66 (n := 68) rfl (v := -2) (by decide) ?_
          exact zr_iret C d_A_differ_68 (by first | (simp [zc_diff, qt, c1, c2, c3, c4]; done) | simp_all) (hK h B E hS zc_fr_r) (Nat.zero_le _) (Nat.zero_le _)
        · replace c4 := zk_bn c4
          refine zr_bipush C d_A_differ_61 (n := 63) rfl (v := -4) (by decide) ?_
          refine zr_goto C d_A_differ_63 (t := 68) (by decide) ?_
          exact zr_iret C d_A_differ_68 (by first | (simp [zc_diff, qt, c1, c2, c3, c4]; done) | simp_all) (hK h B E hS zc_fr_r) (Nat.zero_le _) (Nat.zero_le _)
      · replace c3 := zk_bn c3
        refine zr_bipush C d_A_differ_54 (n := 56) rfl (v := -3) (by decide) ?_
        exact zr_iret C d_A_differ_56 (by first | (simp [zc_diff, qt, c1, c2, c3]; done) | simp_all) (hK h B E hS zc_fr_r) (Nat.zero_le _) (Nat.zero_le _)
    · replace c2 := zk_bn c2
      refine zr_iload_n C d_A_differ_33 (n := 34) rfl rfl ?_
      refine zr_if_eq C d_A_differ_34 (n := 37) rfl (t := 50) (by decide) (fun c5 => ?_) (fun c5 => ?_)
      · replace c5 := zk_bz c5
        refine zr_iload_n C d_A_differ_50 (n := 51) rfl rfl ?_
        refine zr_if_eq C d_A_differ_51 (n := 54) rfl (t := 57) (by decide) (fun c6 => ?_) (fun c6 => ?_)
        · replace c6 := zk_bz c6
          refine zr_iload_n C d_A_differ_57 (n := 58) rfl rfl ?_
          refine zr_if_eq C d_A_differ_58 (n := 61) rfl (t := 66) (by decide) (fun c7 => ?_) (fun c7 => ?_)
          · replace c7 := zk_bz c7
            refine zr_bipush C d_A_differ_66 (n := 68) rfl (v := -2) (by decide) ?_
            exact zr_iret C d_A_differ_68 (by first | (simp [zc_diff, qt, c1, c2, c5, c6, c7]; done) | simp_all) (hK h B E hS zc_fr_r) (Nat.zero_le _) (Nat.zero_le _)
          · replace c7 := zk_bn c7
            refine zr_bipush C d_A_differ_61 (n := 63) rfl (v := -4) (by decide) ?_
            refine zr_goto C d_A_differ_63 (t := 68) (by decide) ?_
            exact zr_iret C d_A_differ_68 (by first | (simp [zc_diff, qt, c1, c2, c5, c6, c7]; done) | simp_all) (hK h B E hS zc_fr_r) (Nat.zero_le _) (Nat.zero_le _)
        · replace c6 := zk_bn c6
          refine zr_bipush C d_A_differ_54 (n := 56) rfl (v := -3) (by decide) ?_
          exact zr_iret C d_A_differ_56 (by first | (simp [zc_diff, qt, c1, c2, c5, c6]; done) | simp_all) (hK h B E hS zc_fr_r) (Nat.zero_le _) (Nat.zero_le _)
      · replace c5 := zk_bn c5
        refine zr_aload_n C d_A_differ_37 (n := 38) rfl rfl ?_
        refine zr_get C f_A_12 d_A_differ_38 (n := 41) rfl hx rfl ?_
        refine zr_aload_n C d_A_differ_41 (n := 42) rfl rfl ?_
        refine zr_get C f_A_16 d_A_differ_42 (n := 45) rfl hx rfl ?_
        refine zr_iload_n C d_A_differ_45 (n := 46) rfl rfl ?_
        refine zr_callV2 C k_A_139 d_A_differ_46 (nx := 49) rfl hO0.1 rfl ⟨by decide, by decide⟩ (Nat.le_of_ble_eq_true rfl) ⟨by decide, by decide⟩ (sp_O_differencesFrom l hO0 hO1 ht ?_)
        exact zr_iret C d_A_differ_49 (by first | (simp [zc_diff, qt, c1, c2, c5]; done) | simp_all) (hK h B E hS zc_fr_r) (Nat.zero_le _) (Nat.zero_le _)
  · replace c1 := zk_bz c1
    refine zr_iconst C d_A_differ_9 (n := 10) rfl (v := -1) (by decide) ?_
    exact zr_iret C d_A_differ_10 (by first | (simp [zc_diff, c1]; done) | simp_all) (hK h B E hS zc_fr_r) (Nat.zero_le _) (Nat.zero_le _)
abbrev rm_A_under : Room := { frames := 2, cells := 0, slots := 0, locals := 44 }
set_option maxHeartbeats 4000000 in
set_option maxRecDepth 100000 in
/-- under -/
theorem sp_A_under (l : Launch) {h : zk_H} {V : Nat → zo_O} {uk ut un : Nat → Nat} {ua : Nat → Int32} {uc : Nat} {B E : Nat → Int32} (hS : zc_at h V uk ut un ua uc B E) {x0 x1 x2 : Int32} {K : Option Value → zk_H → Prop} (hK : ∀ (h' : zk_H) (B' E' : Nat → Int32), zc_at h' V uk ut un ua uc B' E' → zc_fr h h' → K (some (.int (zk_b (zc_under V x0 x1 x2)))) h') : zk_S l y_A_under b_A_under 4 (some .boolean) rm_A_under [.ref (0 + 1), .int x0, .int x1, .int x2] h K := by
  obtain ⟨hx, hO0, hO1, ⟨fu, hf, hfu⟩, hus, hb, he⟩ := id hS
  refine zk_S_of R_A "under" (by decide) rfl rfl [some (.ref (0 + 1)), some (.int x0), some (.int x1), some (.int x2)] 0 rfl (Nat.le_of_ble_eq_true rfl) (fun p e s m ar below meth c D dA b base C => ?_)
  refine zr_aload_n C d_A_under_0 (n := 1) rfl rfl ?_
  refine zr_iload_n C d_A_under_1 (n := 2) rfl rfl ?_
  refine zr_iload_n C d_A_under_2 (n := 3) rfl rfl ?_
  refine zr_callV2 C k_A_66 d_A_under_3 (nx := 6) rfl hx rfl ⟨by decide, by decide⟩ (Nat.le_of_ble_eq_true rfl) ⟨by decide, by decide⟩ (sp_A_isTypeThere l hS ?_)
  refine zr_if_eq C d_A_under_6 (n := 9) rfl (t := 18) (by decide) (fun c1 => ?_) (fun c1 => ?_)
  · replace c1 := zk_bz c1
    refine zr_iconst C d_A_under_18 (n := 19) rfl (v := nI 0) (by decide) ?_
    exact zr_zret C d_A_under_19 (by simp [zc_under, c1]; try rfl) (by decide) (hK h B E hS zc_fr_r) (Nat.zero_le _) (Nat.zero_le _)
  · replace c1 := zk_bn c1
    obtain ⟨v, t, hv, ht, rfl, rfl, qv, qt⟩ := zc_tt_n c1
    refine zr_aload_n C d_A_under_9 (n := 10) rfl rfl ?_
    refine zr_iload_n C d_A_under_10 (n := 11) rfl rfl ?_
    refine zr_iload_n C d_A_under_11 (n := 12) rfl rfl ?_
    refine zr_callV2 C k_A_66 d_A_under_12 (nx := 15) rfl hx rfl ⟨by decide, by decide⟩ (Nat.le_of_ble_eq_true rfl) ⟨by decide, by decide⟩ (sp_A_isTypeThere l hS ?_)
    refine zr_if_ne C d_A_under_15 (n := 18) rfl (t := 20) (by decide) (fun c2 => ?_) (fun c2 => ?_)
    · replace c2 := zk_bn c2
      obtain ⟨v9, o9, -, ho9, -, rfl, -, qo⟩ := zc_tt_n c2
      refine zr_aload_n C d_A_under_20 (n := 21) rfl rfl ?_
      refine zr_iload_n C d_A_under_21 (n := 22) rfl rfl ?_
      refine zr_callV1 C k_A_44 d_A_under_22 (nx := 25) rfl hx rfl ⟨by decide, by decide⟩ (Nat.le_of_ble_eq_true rfl) ⟨by decide, by decide⟩ (sp_A_offerOf l hS hv ?_)
      have hO := zc_o hS hv
      have ho := hO.1
      refine zr_iload_n C d_A_under_25 (n := 26) rfl rfl ?_
      refine zr_callV1 C k_A_143 d_A_under_26 (nx := 29) rfl ho rfl ⟨by decide, by decide⟩ (Nat.le_of_ble_eq_true rfl) ⟨by decide, by decide⟩ (sp_O_supertypesOf l hO ht ?_)
      refine zr_iload_n C d_A_under_29 (n := 30) rfl rfl ?_
      refine zr_callS2 C k_A_146 d_A_under_30 (nx := 33) rfl ⟨by decide, by decide⟩ (Nat.le_of_ble_eq_true rfl) ⟨by decide, by decide⟩ (sp_A_holds l ?_)
      exact zr_zret C d_A_under_33 (by simp [zc_under, qv, qt, qo, c1, c2]) (zk_nb _) (hK h B E hS zc_fr_r) (Nat.zero_le _) (Nat.zero_le _)
    · replace c2 := zk_bz c2
      refine zr_iconst C d_A_under_18 (n := 19) rfl (v := nI 0) (by decide) ?_
      exact zr_zret C d_A_under_19 (by simp [zc_under, c1, c2]; try rfl) (by decide) (hK h B E hS zc_fr_r) (Nat.zero_le _) (Nat.zero_le _)
abbrev rm_A_howManyThere : Room := { frames := 0, cells := 0, slots := 0, locals := 0 }
set_option maxHeartbeats 4000000 in
set_option maxRecDepth 100000 in
/-- howManyThere -/
theorem sp_A_howManyThere (l : Launch) {h : zk_H} {i len : Nat} {f : Nat → Int32} (hlen : len < 1000) (hA : h[i]? = some (.inl (0, len, .inl f))) {K : Option Value → zk_H → Prop} (hK : K (some (.int (nI (zc_hm f len)))) h) : zk_S l y_A_howManyThere b_A_howManyThere 3 (some .int) rm_A_howManyThere [.ref (i + 1)] h K := by
  refine zk_S_of R_A "howManyThere" (by decide) rfl rfl [some (.ref (i + 1)), none, none] 2 rfl (Nat.le_of_ble_eq_true rfl) (fun p e s m ar below meth c D dA b base C => ?_)
  have L : ∀ (n j a : Nat), n + j = len → a ≤ j → K (some (.int (nI (zc_cnt (fun j => decide (¬ f j = -1)) n j a)))) h → zk_V p l e rm_A_howManyThere s m ar below meth c 3 D dA b base (MQ below (zk_Q K D dA b base) ar s rm_A_howManyThere.cells rm_A_howManyThere.slots (fun q : Nat => base ≤ q)) 0 0 4 [some (.ref (i + 1)), some (.int (nI a)), some (.int (nI j))] [] h := by
    intro n
    induction n with
    | zero =>
      intro j a hn ha hK
      refine zr_iload_n C d_A_howManyThere_4 (n := 5) rfl rfl ?_
      refine zr_aload_n C d_A_howManyThere_5 (n := 6) rfl rfl ?_
      refine zr_alen C d_A_howManyThere_6 (n := 7) rfl hA (v := nI len) rfl ?_
      refine zr_icmp_ge C d_A_howManyThere_7 (n := 10) rfl (t := 26) (by decide) (fun c1 => ?_) (fun c1 => ?_)
      · refine zr_iload_n C d_A_howManyThere_26 (n := 27) rfl rfl ?_
        exact zr_iret C d_A_howManyThere_27 rfl hK (Nat.zero_le _) (Nat.zero_le _)
      · exact absurd (zk_nle (by omega) (by omega) c1) (by omega)
    | succ n ih =>
      intro j a hn ha hK
      refine zr_iload_n C d_A_howManyThere_4 (n := 5) rfl rfl ?_
      refine zr_aload_n C d_A_howManyThere_5 (n := 6) rfl rfl ?_
      refine zr_alen C d_A_howManyThere_6 (n := 7) rfl hA (v := nI len) rfl ?_
      refine zr_icmp_ge C d_A_howManyThere_7 (n := 10) rfl (t := 26) (by decide) (fun c1 => ?_) (fun c1 => ?_)
      · exact absurd (zk_le (by omega) (by omega) c1) (by omega)
      · refine zr_aload_n C d_A_howManyThere_10 (n := 11) rfl rfl ?_
        refine zr_iload_n C d_A_howManyThere_11 (n := 12) rfl rfl ?_
        refine zr_ialdN C d_A_howManyThere_12 (n := 13) rfl hA rfl (by omega) (by omega) ?_
        refine zr_iconst C d_A_howManyThere_13 (n := 14) rfl (v := -1) (by decide) ?_
        refine zr_icmp_eq C d_A_howManyThere_14 (n := 17) rfl (t := 20) (by decide) (fun c2 => ?_) (fun c2 => ?_)
        · refine zr_iinc C d_A_howManyThere_20 (n := 23) rfl rfl (w := 1) (by decide) (nI_1 j) (by decide) rfl ?_
          refine zr_goto C d_A_howManyThere_23 (t := 4) (by decide) ?_
          exact ih (j + 1) _ (by omega) (by omega) (by rw [zc_cnt_0 (f := (fun j => decide (¬ f j = -1))) (j := j) (by simp [c2])] at hK; exact hK)
        · refine zr_iinc C d_A_howManyThere_17 (n := 20) rfl rfl (w := 1) (by decide) (nI_1 a) (by decide) rfl ?_
          refine zr_iinc C d_A_howManyThere_20 (n := 23) rfl rfl (w := 1) (by decide) (nI_1 j) (by decide) rfl ?_
          refine zr_goto C d_A_howManyThere_23 (t := 4) (by decide) ?_
          exact ih (j + 1) _ (by omega) (by omega) (by rw [zc_cnt_1 (f := (fun j => decide (¬ f j = -1))) (j := j) (by simp [c2])] at hK; exact hK)
  refine zr_iconst C d_A_howManyThere_0 (n := 1) rfl (v := nI 0) (by decide) ?_
  refine zr_istore_n C d_A_howManyThere_1 (n := 2) rfl (by decide) rfl ?_
  refine zr_iconst C d_A_howManyThere_2 (n := 3) rfl (v := nI 0) (by decide) ?_
  refine zr_istore_n C d_A_howManyThere_3 (n := 4) rfl (by decide) rfl ?_
  exact L len 0 0 rfl (Nat.le_refl 0) hK
abbrev rm_A_count : Room := { frames := 1, cells := 0, slots := 0, locals := 22 }
set_option maxHeartbeats 4000000 in
set_option maxRecDepth 100000 in
/-- count -/
theorem sp_A_count (l : Launch) {h : zk_H} {V : Nat → zo_O} {uk ut un : Nat → Nat} {ua : Nat → Int32} {uc : Nat} {B E : Nat → Int32} (hS : zc_at h V uk ut un ua uc B E) {x0 x1 : Int32} {K : Option Value → zk_H → Prop} (hK : ∀ (h' : zk_H) (B' E' : Nat → Int32), zc_at h' V uk ut un ua uc B' E' → zc_fr h h' → K (some (.int (zc_count V uc x0 x1))) h') : zk_S l y_A_count b_A_count 4 (some .int) rm_A_count [.ref (0 + 1), .int x0, .int x1] h K := by
  obtain ⟨hx, hO0, hO1, ⟨fu, hf, hfu⟩, hus, hb, he⟩ := id hS
  refine zk_S_of R_A "count" (by decide) rfl rfl [some (.ref (0 + 1)), some (.int x0), some (.int x1), none] 1 rfl (Nat.le_of_ble_eq_true rfl) (fun p e s m ar below meth c D dA b base C => ?_)
  refine zr_iload_n C d_A_count_0 (n := 1) rfl rfl ?_
  refine zr_iconst C d_A_count_1 (n := 2) rfl (v := nI 2) (by decide) ?_
  refine zr_callS2 C k_A_40 d_A_count_2 (nx := 5) rfl ⟨by decide, by decide⟩ (Nat.le_of_ble_eq_true rfl) ⟨by decide, by decide⟩ (sp_A_isBelow l ?_)
  refine zr_if_ne C d_A_count_5 (n := 8) rfl (t := 10) (by decide) (fun c1 => ?_) (fun c1 => ?_)
  · replace c1 := zk_bn c1
    obtain ⟨v, hv, rfl, qv⟩ := zc_bl_n c1 (by first | decide | omega)
    refine zr_aload_n C d_A_count_10 (n := 11) rfl rfl ?_
    refine zr_iload_n C d_A_count_11 (n := 12) rfl rfl ?_
    refine zr_callV1 C k_A_44 d_A_count_12 (nx := 15) rfl hx rfl ⟨by decide, by decide⟩ (Nat.le_of_ble_eq_true rfl) ⟨by decide, by decide⟩ (sp_A_offerOf l hS hv ?_)
    have hO := zc_o hS hv
    have ho := hO.1
    refine zr_astore_n C d_A_count_15 (n := 16) rfl (by decide) rfl ?_
    refine zr_iload_n C d_A_count_16 (n := 17) rfl rfl ?_
    rcases zc_sw4 x1 with rfl | rfl | rfl | rfl | ⟨qx, q0, q1, q2, q3⟩
    · refine zr_tableIn C d_A_count_17 (by decide) (by decide) (off := 31) (by decide) (t := 48) (by decide) ?_
      refine zr_aload_n C d_A_count_48 (n := 49) rfl rfl ?_
      refine zr_getN C f_A_149 d_A_count_49 (n := 52) rfl ho rfl ?_
      refine zr_callS1 C k_A_153 d_A_count_52 (nx := 55) rfl ⟨by decide, by decide⟩ (Nat.le_of_ble_eq_true rfl) ⟨by decide, by decide⟩ (sp_A_howManyThere l (len := 6) (by decide) hO.2.1 ?_)
      exact zr_iret C d_A_count_55 (by rw [zc_count, if_pos c1, qv]; rw [if_pos rfl]) (hK h B E hS zc_fr_r) (Nat.zero_le _) (Nat.zero_le _)
    · refine zr_tableIn C d_A_count_17 (by decide) (by decide) (off := 39) (by decide) (t := 56) (by decide) ?_
      refine zr_aload_n C d_A_count_56 (n := 57) rfl rfl ?_
      refine zr_getN C f_A_157 d_A_count_57 (n := 60) rfl ho rfl ?_
      refine zr_callS1 C k_A_153 d_A_count_60 (nx := 63) rfl ⟨by decide, by decide⟩ (Nat.le_of_ble_eq_true rfl) ⟨by decide, by decide⟩ (sp_A_howManyThere l (len := 24) (by decide) hO.2.2.2.2.1 ?_)
      exact zr_iret C d_A_count_63 (by rw [zc_count, if_pos c1, qv]; rw [if_neg (by decide), if_pos rfl]) (hK h B E hS zc_fr_r) (Nat.zero_le _) (Nat.zero_le _)
    · refine zr_tableIn C d_A_count_17 (by decide) (by decide) (off := 47) (by decide) (t := 64) (by decide) ?_
      refine zr_aload_n C d_A_count_64 (n := 65) rfl rfl ?_
      refine zr_getN C f_A_160 d_A_count_65 (n := 68) rfl ho rfl ?_
      refine zr_callS1 C k_A_153 d_A_count_68 (nx := 71) rfl ⟨by decide, by decide⟩ (Nat.le_of_ble_eq_true rfl) ⟨by decide, by decide⟩ (sp_A_howManyThere l (len := 72) (by decide) hO.2.2.2.2.2.2.2.1 ?_)
      exact zr_iret C d_A_count_71 (by rw [zc_count, if_pos c1, qv]; rw [if_neg (by decide), if_neg (by decide), if_pos rfl]) (hK h B E hS zc_fr_r) (Nat.zero_le _) (Nat.zero_le _)
    · refine zr_tableIn C d_A_count_17 (by decide) (by decide) (off := 55) (by decide) (t := 72) (by decide) ?_
      refine zr_aload_n C d_A_count_72 (n := 73) rfl rfl ?_
      refine zr_get C f_A_26 d_A_count_73 (n := 76) rfl hx rfl ?_
      exact zr_iret C d_A_count_76 (by rw [zc_count, if_pos c1, qv]; rw [if_neg (by decide), if_neg (by decide), if_neg (by decide), if_pos rfl]) (hK h B E hS zc_fr_r) (Nat.zero_le _) (Nat.zero_le _)
    · refine zr_tableOut C d_A_count_17 qx (t := 77) (by decide) ?_
      refine zr_iconst C d_A_count_77 (n := 78) rfl (v := -1) (by decide) ?_
      exact zr_iret C d_A_count_78 (by rw [zc_count, if_pos c1, qv]; rw [if_neg q0, if_neg q1, if_neg q2, if_neg q3]) (hK h B E hS zc_fr_r) (Nat.zero_le _) (Nat.zero_le _)
  · replace c1 := zk_bz c1
    refine zr_iconst C d_A_count_8 (n := 9) rfl (v := -1) (by decide) ?_
    exact zr_iret C d_A_count_9 (by simp [zc_count, c1]) (hK h B E hS zc_fr_r) (Nat.zero_le _) (Nat.zero_le _)
