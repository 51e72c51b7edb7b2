abbrev zo_O : Type := Nat → Nat → Int32
def zk_bit (x : Int32) (n : Nat) : Bool := decide (¬ (x >>> (nI n &&& 31)) &&& nI 1 = 0)
def zo_at (h : zk_H) (o : Nat) (O : zo_O) : Prop := h[o]? = some (.inr (1, [.ref (o + 2), .ref (o + 3), .ref (o + 4), .ref (o + 5), .ref (o + 6), .ref (o + 7), .ref (o + 8), .ref (o + 9)])) ∧ h[o + 1]? = some (.inl (0, 6, .inl (O 0))) ∧ h[o + 2]? = some (.inl (0, 6, .inl (O 1))) ∧ h[o + 3]? = some (.inl (0, 6, .inl (O 2))) ∧ h[o + 4]? = some (.inl (0, 24, .inl (O 3))) ∧ h[o + 5]? = some (.inl (0, 24, .inl (O 4))) ∧ h[o + 6]? = some (.inl (0, 24, .inl (O 5))) ∧ h[o + 7]? = some (.inl (0, 72, .inl (O 6))) ∧ h[o + 8]? = some (.inl (0, 72, .inl (O 7)))
def zo_th (O : zo_O) (t : Nat) : Bool := decide (¬ O 0 t = -1)
def zo_hf (O : zo_O) (t : Nat) (fl : Int32) : Bool := decide (¬ O 0 t = -1 ∧ ¬ O 0 t &&& fl = 0)
def zo_ma (O : zo_O) (pl : Nat) (an : Int32) : Bool := decide (¬ O 6 pl = -1 ∧ (an = -1 ∨ O 7 pl = an))
def zo_sf (O P : zo_O) (pl : Nat) : Bool := decide (O 3 pl = P 3 pl ∧ (O 3 pl = -1 ∨ (O 4 pl = P 4 pl ∧ O 5 pl = P 5 pl)))
def zo_sm (O P : zo_O) (pl : Nat) : Bool := decide (O 6 pl = P 6 pl ∧ (O 6 pl = -1 ∨ O 7 pl = P 7 pl))
abbrev rm_A_holds : Room := { frames := 0, cells := 0, slots := 0, locals := 0 }
set_option maxHeartbeats 4000000 in
set_option maxRecDepth 100000 in
/-- holds(set, number) -/
theorem sp_A_holds (l : Launch) {h : zk_H} {x : Int32} {n : Nat} {K : Option Value → zk_H → Prop} (hK : K (some (.int (zk_b (zk_bit x n)))) h) : zk_S l y_A_holds b_A_holds 2 (some .boolean) rm_A_holds [.int x, .int (nI n)] h K := by
  refine zk_S_of R_A "holds" (by decide) rfl rfl [some (.int x), some (.int (nI n))] 0 rfl (Nat.le_of_ble_eq_true rfl) (fun p e s m ar below meth c D dA b base C => ?_)
  refine zr_iload_n C d_A_holds_0 (n := 1) rfl rfl ?_
  refine zr_iload_n C d_A_holds_1 (n := 2) rfl rfl ?_
  refine zr_ishr C d_A_holds_2 (n := 3) rfl ?_
  refine zr_iconst C d_A_holds_3 (n := 4) rfl (v := nI 1) (by decide) ?_
  refine zr_iand C d_A_holds_4 (n := 5) rfl ?_
  refine zr_if_eq C d_A_holds_5 (n := 8) rfl (t := 12) (by decide) (fun c1 => ?_) (fun c1 => ?_)
  · refine zr_iconst C d_A_holds_12 (n := 13) rfl (v := nI 0) (by decide) ?_
    exact zr_zret C d_A_holds_13 (by first | (simp [zk_bit, zk_b, c1]; done) | simp_all [zk_bit, zk_b]) (by decide) hK (Nat.zero_le _) (Nat.zero_le _)
  · refine zr_iconst C d_A_holds_8 (n := 9) rfl (v := nI 1) (by decide) ?_
    refine zr_goto C d_A_holds_9 (t := 13) (by decide) ?_
    exact zr_zret C d_A_holds_13 (by first | (simp [zk_bit, zk_b, c1]; done) | simp_all [zk_bit, zk_b]) (by decide) hK (Nat.zero_le _) (Nat.zero_le _)
abbrev rm_A_methodPlace : Room := { frames := 0, cells := 0, slots := 0, locals := 0 }
set_option maxHeartbeats 4000000 in
set_option maxRecDepth 100000 in
/-- methodPlace -/
theorem sp_A_methodPlace (l : Launch) {h : zk_H} {t n q : Nat} {K : Option Value → zk_H → Prop} (hK : K (some (.int (nI (t * 12 + n * 4 + q)))) h) : zk_S l y_A_methodPlace b_A_methodPlace 3 (some .int) rm_A_methodPlace [.int (nI t), .int (nI n), .int (nI q)] h K := by
  refine zk_S_of R_A "methodPlace" (by decide) rfl rfl [some (.int (nI t)), some (.int (nI n)), some (.int (nI q))] 0 rfl (Nat.le_of_ble_eq_true rfl) (fun p e s m ar below meth c D dA b base C => ?_)
  refine zr_iload_n C d_A_methodPlace_0 (n := 1) rfl rfl ?_
  refine zr_bipush C d_A_methodPlace_1 (n := 3) rfl (v := nI 12) (by decide) ?_
  refine zr_imul C d_A_methodPlace_3 (n := 4) rfl ?_
  refine zr_iload_n C d_A_methodPlace_4 (n := 5) rfl rfl ?_
  refine zr_iconst C d_A_methodPlace_5 (n := 6) rfl (v := nI 4) (by decide) ?_
  refine zr_imul C d_A_methodPlace_6 (n := 7) rfl ?_
  refine zr_iadd C d_A_methodPlace_7 (n := 8) rfl ?_
  refine zr_iload_n C d_A_methodPlace_8 (n := 9) rfl rfl ?_
  refine zr_iadd C d_A_methodPlace_9 (n := 10) rfl ?_
  exact zr_iret C d_A_methodPlace_10 (by simp only [pk_mul, nI_add]) hK (Nat.zero_le _) (Nat.zero_le _)
abbrev rm_O_isThere : Room := { frames := 0, cells := 0, slots := 0, locals := 0 }
set_option maxHeartbeats 4000000 in
set_option maxRecDepth 100000 in
/-- isThere -/
theorem sp_O_isThere (l : Launch) {h : zk_H} {o : Nat} {O : zo_O} (hO : zo_at h o O) {t : Nat} (ht : t < 6) {K : Option Value → zk_H → Prop} (hK : K (some (.int (zk_b (zo_th O t)))) h) : zk_S l y_O_isThere b_O_isThere 2 (some .boolean) rm_O_isThere [.ref (o + 1), .int (nI t)] h K := by
  obtain ⟨ho, a0, a1, a2, a3, a4, a5, a6, a7⟩ := id hO
  refine zk_S_of R_O "isThere" (by decide) rfl rfl [some (.ref (o + 1)), some (.int (nI t))] 0 rfl (Nat.le_of_ble_eq_true rfl) (fun p e s m ar below meth c D dA b base C => ?_)
  refine zr_aload_n C d_O_isThere_0 (n := 1) rfl rfl ?_
  refine zr_get C f_O_9 d_O_isThere_1 (n := 4) rfl ho rfl ?_
  refine zr_iload_n C d_O_isThere_4 (n := 5) rfl rfl ?_
  refine zr_ialdN C d_O_isThere_5 (n := 6) rfl a0 rfl (by omega) (by decide) ?_
  refine zr_iconst C d_O_isThere_6 (n := 7) rfl (v := -1) (by decide) ?_
  refine zr_icmp_eq C d_O_isThere_7 (n := 10) rfl (t := 14) (by decide) (fun c1 => ?_) (fun c1 => ?_)
  · refine zr_iconst C d_O_isThere_14 (n := 15) rfl (v := nI 0) (by decide) ?_
    exact zr_zret C d_O_isThere_15 (by first | (simp [zo_th, zk_b, c1]; done) | simp_all [zo_th, zk_b]) (by decide) hK (Nat.zero_le _) (Nat.zero_le _)
  · refine zr_iconst C d_O_isThere_10 (n := 11) rfl (v := nI 1) (by decide) ?_
    refine zr_goto C d_O_isThere_11 (t := 15) (by decide) ?_
    exact zr_zret C d_O_isThere_15 (by first | (simp [zo_th, zk_b, c1]; done) | simp_all [zo_th, zk_b]) (by decide) hK (Nat.zero_le _) (Nat.zero_le _)
abbrev rm_O_hasFlag : Room := { frames := 0, cells := 0, slots := 0, locals := 0 }
set_option maxHeartbeats 4000000 in
set_option maxRecDepth 100000 in
/-- hasFlag -/
theorem sp_O_hasFlag (l : Launch) {h : zk_H} {o : Nat} {O : zo_O} (hO : zo_at h o O) {t : Nat} (ht : t < 6) {x : Int32} {K : Option Value → zk_H → Prop} (hK : K (some (.int (zk_b (zo_hf O t x)))) h) : zk_S l y_O_hasFlag b_O_hasFlag 3 (some .boolean) rm_O_hasFlag [.ref (o + 1), .int (nI t), .int x] h K := by
  obtain ⟨ho, a0, a1, a2, a3, a4, a5, a6, a7⟩ := id hO
  refine zk_S_of R_O "hasFlag" (by decide) rfl rfl [some (.ref (o + 1)), some (.int (nI t)), some (.int x)] 0 rfl (Nat.le_of_ble_eq_true rfl) (fun p e s m ar below meth c D dA b base C => ?_)
  refine zr_aload_n C d_O_hasFlag_0 (n := 1) rfl rfl ?_
  refine zr_get C f_O_9 d_O_hasFlag_1 (n := 4) rfl ho rfl ?_
  refine zr_iload_n C d_O_hasFlag_4 (n := 5) rfl rfl ?_
  refine zr_ialdN C d_O_hasFlag_5 (n := 6) rfl a0 rfl (by omega) (by decide) ?_
  refine zr_iconst C d_O_hasFlag_6 (n := 7) rfl (v := -1) (by decide) ?_
  refine zr_icmp_eq C d_O_hasFlag_7 (n := 10) rfl (t := 25) (by decide) (fun c1 => ?_) (fun c1 => ?_)
  · refine zr_iconst C d_O_hasFlag_25 (n := 26) rfl (v := nI 0) (by decide) ?_
    exact zr_zret C d_O_hasFlag_26 (by first | (simp [zo_hf, zk_b, c1]; done) | simp_all [zo_hf, zk_b]) (by decide) hK (Nat.zero_le _) (Nat.zero_le _)
  · refine zr_aload_n C d_O_hasFlag_10 (n := 11) rfl rfl ?_
    refine zr_get C f_O_9 d_O_hasFlag_11 (n := 14) rfl ho rfl ?_
    refine zr_iload_n C d_O_hasFlag_14 (n := 15) rfl rfl ?_
    refine zr_ialdN C d_O_hasFlag_15 (n := 16) rfl a0 rfl (by omega) (by decide) ?_
    refine zr_iload_n C d_O_hasFlag_16 (n := 17) rfl rfl ?_
    refine zr_iand C d_O_hasFlag_17 (n := 18) rfl ?_
    refine zr_if_eq C d_O_hasFlag_18 (n := 21) rfl (t := 25) (by decide) (fun c2 => ?_) (fun c2 => ?_)
    · refine zr_iconst C d_O_hasFlag_25 (n := 26) rfl (v := nI 0) (by decide) ?_
      exact zr_zret C d_O_hasFlag_26 (by first | (simp [zo_hf, zk_b, c1, c2]; done) | simp_all [zo_hf, zk_b]) (by decide) hK (Nat.zero_le _) (Nat.zero_le _)
    · refine zr_iconst C d_O_hasFlag_21 (n := 22) rfl (v := nI 1) (by decide) ?_
      refine zr_goto C d_O_hasFlag_22 (t := 26) (by decide) ?_
      exact zr_zret C d_O_hasFlag_26 (by first | (simp [zo_hf, zk_b, c1, c2]; done) | simp_all [zo_hf, zk_b]) (by decide) hK (Nat.zero_le _) (Nat.zero_le _)
abbrev rm_O_isInterface : Room := { frames := 1, cells := 0, slots := 0, locals := 22 }
set_option maxHeartbeats 4000000 in
set_option maxRecDepth 100000 in
/-- isInterface -/
theorem sp_O_isInterface (l : Launch) {h : zk_H} {o : Nat} {O : zo_O} (hO : zo_at h o O) {t : Nat} (ht : t < 6) {K : Option Value → zk_H → Prop} (hK : K (some (.int (zk_b (zo_hf O t (nI 1))))) h) : zk_S l y_O_isInterface b_O_isInterface 2 (some .boolean) rm_O_isInterface [.ref (o + 1), .int (nI t)] h K := by
  obtain ⟨ho, a0, a1, a2, a3, a4, a5, a6, a7⟩ := id hO
  refine zk_S_of R_O "isInterface" (by decide) rfl rfl [some (.ref (o + 1)), some (.int (nI t))] 0 rfl (Nat.le_of_ble_eq_true rfl) (fun p e s m ar below meth c D dA b base C => ?_)
  refine zr_aload_n C d_O_isInterface_0 (n := 1) rfl rfl ?_
  refine zr_iload_n C d_O_isInterface_1 (n := 2) rfl rfl ?_
  refine zr_iconst C d_O_isInterface_2 (n := 3) rfl (v := nI 1) (by decide) ?_
  refine zr_callV2 C k_O_36 d_O_isInterface_3 (nx := 6) rfl ho rfl ⟨by decide, by decide⟩ (by decide) ⟨by decide, by decide⟩ (sp_O_hasFlag l hO ht ?_)
  exact zr_zret C d_O_isInterface_6 rfl (zk_nb _) hK (Nat.zero_le _) (Nat.zero_le _)
abbrev rm_O_isHidden : Room := { frames := 1, cells := 0, slots := 0, locals := 22 }
set_option maxHeartbeats 4000000 in
set_option maxRecDepth 100000 in
/-- isHidden -/
theorem sp_O_isHidden (l : Launch) {h : zk_H} {o : Nat} {O : zo_O} (hO : zo_at h o O) {t : Nat} (ht : t < 6) {K : Option Value → zk_H → Prop} (hK : K (some (.int (zk_b (zo_hf O t (nI 8))))) h) : zk_S l y_O_isHidden b_O_isHidden 2 (some .boolean) rm_O_isHidden [.ref (o + 1), .int (nI t)] h K := by
  obtain ⟨ho, a0, a1, a2, a3, a4, a5, a6, a7⟩ := id hO
  refine zk_S_of R_O "isHidden" (by decide) rfl rfl [some (.ref (o + 1)), some (.int (nI t))] 0 rfl (Nat.le_of_ble_eq_true rfl) (fun p e s m ar below meth c D dA b base C => ?_)
  refine zr_aload_n C d_O_isHidden_0 (n := 1) rfl rfl ?_
  refine zr_iload_n C d_O_isHidden_1 (n := 2) rfl rfl ?_
  refine zr_bipush C d_O_isHidden_2 (n := 4) rfl (v := nI 8) (by decide) ?_
  refine zr_callV2 C k_O_36 d_O_isHidden_4 (nx := 7) rfl ho rfl ⟨by decide, by decide⟩ (by decide) ⟨by decide, by decide⟩ (sp_O_hasFlag l hO ht ?_)
  exact zr_zret C d_O_isHidden_7 rfl (zk_nb _) hK (Nat.zero_le _) (Nat.zero_le _)
abbrev rm_O_isFinal : Room := { frames := 1, cells := 0, slots := 0, locals := 22 }
set_option maxHeartbeats 4000000 in
set_option maxRecDepth 100000 in
/-- isFinal -/
theorem sp_O_isFinal (l : Launch) {h : zk_H} {o : Nat} {O : zo_O} (hO : zo_at h o O) {t : Nat} (ht : t < 6) {K : Option Value → zk_H → Prop} (hK : K (some (.int (zk_b (zo_hf O t (nI 4))))) h) : zk_S l y_O_isFinal b_O_isFinal 2 (some .boolean) rm_O_isFinal [.ref (o + 1), .int (nI t)] h K := by
  obtain ⟨ho, a0, a1, a2, a3, a4, a5, a6, a7⟩ := id hO
  refine zk_S_of R_O "isFinal" (by decide) rfl rfl [some (.ref (o + 1)), some (.int (nI t))] 0 rfl (Nat.le_of_ble_eq_true rfl) (fun p e s m ar below meth c D dA b base C => ?_)
  refine zr_aload_n C d_O_isFinal_0 (n := 1) rfl rfl ?_
  refine zr_iload_n C d_O_isFinal_1 (n := 2) rfl rfl ?_
  refine zr_iconst C d_O_isFinal_2 (n := 3) rfl (v := nI 4) (by decide) ?_
  refine zr_callV2 C k_O_36 d_O_isFinal_3 (nx := 6) rfl ho rfl ⟨by decide, by decide⟩ (by decide) ⟨by decide, by decide⟩ (sp_O_hasFlag l hO ht ?_)
  exact zr_zret C d_O_isFinal_6 rfl (zk_nb _) hK (Nat.zero_le _) (Nat.zero_le _)
abbrev rm_O_isAbstract : Room := { frames := 1, cells := 0, slots := 0, locals := 22 }
set_option maxHeartbeats 4000000 in
set_option maxRecDepth 100000 in
/-- isAbstract -/
theorem sp_O_isAbstract (l : Launch) {h : zk_H} {o : Nat} {O : zo_O} (hO : zo_at h o O) {t : Nat} (ht : t < 6) {K : Option Value → zk_H → Prop} (hK : K (some (.int (zk_b (zo_hf O t (nI 3))))) h) : zk_S l y_O_isAbstract b_O_isAbstract 2 (some .boolean) rm_O_isAbstract [.ref (o + 1), .int (nI t)] h K := by
  obtain ⟨ho, a0, a1, a2, a3, a4, a5, a6, a7⟩ := id hO
  refine zk_S_of R_O "isAbstract" (by decide) rfl rfl [some (.ref (o + 1)), some (.int (nI t))] 0 rfl (Nat.le_of_ble_eq_true rfl) (fun p e s m ar below meth c D dA b base C => ?_)
  refine zr_aload_n C d_O_isAbstract_0 (n := 1) rfl rfl ?_
  refine zr_iload_n C d_O_isAbstract_1 (n := 2) rfl rfl ?_
  refine zr_iconst C d_O_isAbstract_2 (n := 3) rfl (v := nI 3) (by decide) ?_
  refine zr_callV2 C k_O_36 d_O_isAbstract_3 (nx := 6) rfl ho rfl ⟨by decide, by decide⟩ (by decide) ⟨by decide, by decide⟩ (sp_O_hasFlag l hO ht ?_)
  exact zr_zret C d_O_isAbstract_6 rfl (zk_nb _) hK (Nat.zero_le _) (Nat.zero_le _)
abbrev rm_O_isMethodAt : Room := { frames := 0, cells := 0, slots := 0, locals := 0 }
set_option maxHeartbeats 4000000 in
set_option maxRecDepth 100000 in
/-- isMethodAt -/
theorem sp_O_isMethodAt (l : Launch) {h : zk_H} {o : Nat} {O : zo_O} (hO : zo_at h o O) {j : Nat} (hj : j < 72) {x : Int32} {K : Option Value → zk_H → Prop} (hK : K (some (.int (zk_b (zo_ma O j x)))) h) : zk_S l y_O_isMethodAt b_O_isMethodAt 3 (some .boolean) rm_O_isMethodAt [.ref (o + 1), .int (nI j), .int x] h K := by
  obtain ⟨ho, a0, a1, a2, a3, a4, a5, a6, a7⟩ := id hO
  refine zk_S_of R_O "isMethodAt" (by decide) rfl rfl [some (.ref (o + 1)), some (.int (nI j)), some (.int x)] 0 rfl (Nat.le_of_ble_eq_true rfl) (fun p e s m ar below meth c D dA b base C => ?_)
  refine zr_aload_n C d_O_isMethodAt_0 (n := 1) rfl rfl ?_
  refine zr_get C f_O_30 d_O_isMethodAt_1 (n := 4) rfl ho rfl ?_
  refine zr_iload_n C d_O_isMethodAt_4 (n := 5) rfl rfl ?_
  refine zr_ialdN C d_O_isMethodAt_5 (n := 6) rfl a6 rfl (by omega) (by decide) ?_
  refine zr_iconst C d_O_isMethodAt_6 (n := 7) rfl (v := -1) (by decide) ?_
  refine zr_icmp_eq C d_O_isMethodAt_7 (n := 10) rfl (t := 29) (by decide) (fun c1 => ?_) (fun c1 => ?_)
  · refine zr_iconst C d_O_isMethodAt_29 (n := 30) rfl (v := nI 0) (by decide) ?_
    exact zr_zret C d_O_isMethodAt_30 (by first | (simp [zo_ma, zk_b, c1]; done) | simp_all [zo_ma, zk_b]) (by decide) hK (Nat.zero_le _) (Nat.zero_le _)
  · refine zr_iload_n C d_O_isMethodAt_10 (n := 11) rfl rfl ?_
    refine zr_iconst C d_O_isMethodAt_11 (n := 12) rfl (v := -1) (by decide) ?_
    refine zr_icmp_eq C d_O_isMethodAt_12 (n := 15) rfl (t := 25) (by decide) (fun c2 => ?_) (fun c2 => ?_)
    · refine zr_iconst C d_O_isMethodAt_25 (n := 26) rfl (v := nI 1) (by decide) ?_
      refine zr_goto C d_O_isMethodAt_26 (t := 30) (by decide) ?_
      exact zr_zret C d_O_isMethodAt_30 (by first | (simp [zo_ma, zk_b, c1, c2]; done) | simp_all [zo_ma, zk_b]) (by decide) hK (Nat.zero_le _) (Nat.zero_le _)
    · refine zr_aload_n C d_O_isMethodAt_15 (n := 16) rfl rfl ?_
      refine zr_get C f_O_33 d_O_isMethodAt_16 (n := 19) rfl ho rfl ?_
      refine zr_iload_n C d_O_isMethodAt_19 (n := 20) rfl rfl ?_
      refine zr_ialdN C d_O_isMethodAt_20 (n := 21) rfl a7 rfl (by omega) (by decide) ?_
      refine zr_iload_n C d_O_isMethodAt_21 (n := 22) rfl rfl ?_
      refine zr_icmp_ne C d_O_isMethodAt_22 (n := 25) rfl (t := 29) (by decide) (fun c3 => ?_) (fun c3 => ?_)
      · refine zr_iconst C d_O_isMethodAt_29 (n := 30) rfl (v := nI 0) (by decide) ?_
        exact zr_zret C d_O_isMethodAt_30 (by first | (simp [zo_ma, zk_b, c1, c2, c3]; done) | simp_all [zo_ma, zk_b]) (by decide) hK (Nat.zero_le _) (Nat.zero_le _)
      · refine zr_iconst C d_O_isMethodAt_25 (n := 26) rfl (v := nI 1) (by decide) ?_
        refine zr_goto C d_O_isMethodAt_26 (t := 30) (by decide) ?_
        exact zr_zret C d_O_isMethodAt_30 (by first | (simp [zo_ma, zk_b, c1, c2, c3]; done) | simp_all [zo_ma, zk_b]) (by decide) hK (Nat.zero_le _) (Nat.zero_le _)
abbrev rm_O_isSameField : Room := { frames := 0, cells := 0, slots := 0, locals := 0 }
set_option maxHeartbeats 4000000 in
set_option maxRecDepth 100000 in
/-- isSameField -/
theorem sp_O_isSameField (l : Launch) {h : zk_H} {o : Nat} {O : zo_O} (hO : zo_at h o O) {q : Nat} {P : zo_O} (hP : zo_at h q P) {j : Nat} (hj : j < 24) {K : Option Value → zk_H → Prop} (hK : K (some (.int (zk_b (zo_sf O P j)))) h) : zk_S l y_O_isSameField b_O_isSameField 3 (some .boolean) rm_O_isSameField [.ref (o + 1), .ref (q + 1), .int (nI j)] h K := by
  obtain ⟨ho, a0, a1, a2, a3, a4, a5, a6, a7⟩ := id hO
  obtain ⟨go, g0, g1, g2, g3, g4, g5, g6, g7⟩ := id hP
  refine zk_S_of R_O "isSameField" (by decide) rfl rfl [some (.ref (o + 1)), some (.ref (q + 1)), some (.int (nI j))] 0 rfl (Nat.le_of_ble_eq_true rfl) (fun p e s m ar below meth c D dA b base C => ?_)
  refine zr_aload_n C d_O_isSameField_0 (n := 1) rfl rfl ?_
  refine zr_get C f_O_21 d_O_isSameField_1 (n := 4) rfl ho rfl ?_
  refine zr_iload_n C d_O_isSameField_4 (n := 5) rfl rfl ?_
  refine zr_ialdN C d_O_isSameField_5 (n := 6) rfl a3 rfl (by omega) (by decide) ?_
  refine zr_aload_n C d_O_isSameField_6 (n := 7) rfl rfl ?_
  refine zr_get C f_O_21 d_O_isSameField_7 (n := 10) rfl go rfl ?_
  refine zr_iload_n C d_O_isSameField_10 (n := 11) rfl rfl ?_
  refine zr_ialdN C d_O_isSameField_11 (n := 12) rfl g3 rfl (by omega) (by decide) ?_
  refine zr_icmp_eq C d_O_isSameField_12 (n := 15) rfl (t := 17) (by decide) (fun c1 => ?_) (fun c1 => ?_)
  · refine zr_aload_n C d_O_isSameField_17 (n := 18) rfl rfl ?_
    refine zr_get C f_O_21 d_O_isSameField_18 (n := 21) rfl ho rfl ?_
    refine zr_iload_n C d_O_isSameField_21 (n := 22) rfl rfl ?_
    refine zr_ialdN C d_O_isSameField_22 (n := 23) rfl a3 rfl (by omega) (by decide) ?_
    refine zr_iconst C d_O_isSameField_23 (n := 24) rfl (v := -1) (by decide) ?_
    refine zr_icmp_ne C d_O_isSameField_24 (n := 27) rfl (t := 29) (by decide) (fun c2 => ?_) (fun c2 => ?_)
    · refine zr_aload_n C d_O_isSameField_29 (n := 30) rfl rfl ?_
      refine zr_get C f_O_24 d_O_isSameField_30 (n := 33) rfl ho rfl ?_
      refine zr_iload_n C d_O_isSameField_33 (n := 34) rfl rfl ?_
      refine zr_ialdN C d_O_isSameField_34 (n := 35) rfl a4 rfl (by omega) (by decide) ?_
      refine zr_aload_n C d_O_isSameField_35 (n := 36) rfl rfl ?_
      refine zr_get C f_O_24 d_O_isSameField_36 (n := 39) rfl go rfl ?_
      refine zr_iload_n C d_O_isSameField_39 (n := 40) rfl rfl ?_
      refine zr_ialdN C d_O_isSameField_40 (n := 41) rfl g4 rfl (by omega) (by decide) ?_
      refine zr_icmp_ne C d_O_isSameField_41 (n := 44) rfl (t := 63) (by decide) (fun c3 => ?_) (fun c3 => ?_)
      · refine zr_iconst C d_O_isSameField_63 (n := 64) rfl (v := nI 0) (by decide) ?_
        exact zr_zret C d_O_isSameField_64 (by first | (simp [zo_sf, zk_b, c1, c2, c3]; done) | simp_all [zo_sf, zk_b]) (by decide) hK (Nat.zero_le _) (Nat.zero_le _)
      · refine zr_aload_n C d_O_isSameField_44 (n := 45) rfl rfl ?_
        refine zr_get C f_O_27 d_O_isSameField_45 (n := 48) rfl ho rfl ?_
        refine zr_iload_n C d_O_isSameField_48 (n := 49) rfl rfl ?_
        refine zr_ialdN C d_O_isSameField_49 (n := 50) rfl a5 rfl (by omega) (by decide) ?_
        refine zr_aload_n C d_O_isSameField_50 (n := 51) rfl rfl ?_
        refine zr_get C f_O_27 d_O_isSameField_51 (n := 54) rfl go rfl ?_
        refine zr_iload_n C d_O_isSameField_54 (n := 55) rfl rfl ?_
        refine zr_ialdN C d_O_isSameField_55 (n := 56) rfl g5 rfl (by omega) (by decide) ?_
        refine zr_icmp_ne C d_O_isSameField_56 (n := 59) rfl (t := 63) (by decide) (fun c4 => ?_) (fun c4 => ?_)
        · refine zr_iconst C d_O_isSameField_63 (n := 64) rfl (v := nI 0) (by decide) ?_
          exact zr_zret C d_O_isSameField_64 (by first | (simp [zo_sf, zk_b, c1, c2, c3, c4]; done) | simp_all [zo_sf, zk_b]) (by decide) hK (Nat.zero_le _) (Nat.zero_le _)
        · refine zr_iconst C d_O_isSameField_59 (n := 60) rfl (v := nI 1) (by decide) ?_
          refine zr_goto C d_O_isSameField_60 (t := 64) (by decide) ?_
          exact zr_zret C d_O_isSameField_64 (by first | (simp [zo_sf, zk_b, c1, c2, c3, c4]; done) | simp_all [zo_sf, zk_b]) (by decide) hK (Nat.zero_le _) (Nat.zero_le _)
    · refine zr_iconst C d_O_isSameField_27 (n := 28) rfl (v := nI 1) (by decide) ?_
      exact zr_zret C d_O_isSameField_28 (by first | (simp [zo_sf, zk_b, c1, c2]; done) | simp_all [zo_sf, zk_b]) (by decide) hK (Nat.zero_le _) (Nat.zero_le _)
  · refine zr_iconst C d_O_isSameField_15 (n := 16) rfl (v := nI 0) (by decide) ?_
    exact zr_zret C d_O_isSameField_16 (by first | (simp [zo_sf, zk_b, c1]; done) | simp_all [zo_sf, zk_b]) (by decide) hK (Nat.zero_le _) (Nat.zero_le _)
abbrev rm_O_isSameMethod : Room := { frames := 0, cells := 0, slots := 0, locals := 0 }
set_option maxHeartbeats 4000000 in
set_option maxRecDepth 100000 in
/-- isSameMethod -/
theorem sp_O_isSameMethod (l : Launch) {h : zk_H} {o : Nat} {O : zo_O} (hO : zo_at h o O) {q : Nat} {P : zo_O} (hP : zo_at h q P) {j : Nat} (hj : j < 72) {K : Option Value → zk_H → Prop} (hK : K (some (.int (zk_b (zo_sm O P j)))) h) : zk_S l y_O_isSameMethod b_O_isSameMethod 3 (some .boolean) rm_O_isSameMethod [.ref (o + 1), .ref (q + 1), .int (nI j)] h K := by
  obtain ⟨ho, a0, a1, a2, a3, a4, a5, a6, a7⟩ := id hO
  obtain ⟨go, g0, g1, g2, g3, g4, g5, g6, g7⟩ := id hP
  refine zk_S_of R_O "isSameMethod" (by decide) rfl rfl [some (.ref (o + 1)), some (.ref (q + 1)), some (.int (nI j))] 0 rfl (Nat.le_of_ble_eq_true rfl) (fun p e s m ar below meth c D dA b base C => ?_)
  refine zr_aload_n C d_O_isSameMethod_0 (n := 1) rfl rfl ?_
  refine zr_get C f_O_30 d_O_isSameMethod_1 (n := 4) rfl ho rfl ?_
  refine zr_iload_n C d_O_isSameMethod_4 (n := 5) rfl rfl ?_
  refine zr_ialdN C d_O_isSameMethod_5 (n := 6) rfl a6 rfl (by omega) (by decide) ?_
  refine zr_aload_n C d_O_isSameMethod_6 (n := 7) rfl rfl ?_
  refine zr_get C f_O_30 d_O_isSameMethod_7 (n := 10) rfl go rfl ?_
  refine zr_iload_n C d_O_isSameMethod_10 (n := 11) rfl rfl ?_
  refine zr_ialdN C d_O_isSameMethod_11 (n := 12) rfl g6 rfl (by omega) (by decide) ?_
  refine zr_icmp_eq C d_O_isSameMethod_12 (n := 15) rfl (t := 17) (by decide) (fun c1 => ?_) (fun c1 => ?_)
  · refine zr_aload_n C d_O_isSameMethod_17 (n := 18) rfl rfl ?_
    refine zr_get C f_O_30 d_O_isSameMethod_18 (n := 21) rfl ho rfl ?_
    refine zr_iload_n C d_O_isSameMethod_21 (n := 22) rfl rfl ?_
    refine zr_ialdN C d_O_isSameMethod_22 (n := 23) rfl a6 rfl (by omega) (by decide) ?_
    refine zr_iconst C d_O_isSameMethod_23 (n := 24) rfl (v := -1) (by decide) ?_
    refine zr_icmp_eq C d_O_isSameMethod_24 (n := 27) rfl (t := 42) (by decide) (fun c2 => ?_) (fun c2 => ?_)
    · refine zr_iconst C d_O_isSameMethod_42 (n := 43) rfl (v := nI 1) (by decide) ?_
      refine zr_goto C d_O_isSameMethod_43 (t := 47) (by decide) ?_
      exact zr_zret C d_O_isSameMethod_47 (by first | (simp [zo_sm, zk_b, c1, c2]; done) | simp_all [zo_sm, zk_b]) (by decide) hK (Nat.zero_le _) (Nat.zero_le _)
    · refine zr_aload_n C d_O_isSameMethod_27 (n := 28) rfl rfl ?_
      refine zr_get C f_O_33 d_O_isSameMethod_28 (n := 31) rfl ho rfl ?_
      refine zr_iload_n C d_O_isSameMethod_31 (n := 32) rfl rfl ?_
      refine zr_ialdN C d_O_isSameMethod_32 (n := 33) rfl a7 rfl (by omega) (by decide) ?_
      refine zr_aload_n C d_O_isSameMethod_33 (n := 34) rfl rfl ?_
      refine zr_get C f_O_33 d_O_isSameMethod_34 (n := 37) rfl go rfl ?_
      refine zr_iload_n C d_O_isSameMethod_37 (n := 38) rfl rfl ?_
      refine zr_ialdN C d_O_isSameMethod_38 (n := 39) rfl g7 rfl (by omega) (by decide) ?_
      refine zr_icmp_ne C d_O_isSameMethod_39 (n := 42) rfl (t := 46) (by decide) (fun c3 => ?_) (fun c3 => ?_)
      · refine zr_iconst C d_O_isSameMethod_46 (n := 47) rfl (v := nI 0) (by decide) ?_
        exact zr_zret C d_O_isSameMethod_47 (by first | (simp [zo_sm, zk_b, c1, c2, c3]; done) | simp_all [zo_sm, zk_b]) (by decide) hK (Nat.zero_le _) (Nat.zero_le _)
      · refine zr_iconst C d_O_isSameMethod_42 (n := 43) rfl (v := nI 1) (by decide) ?_
        refine zr_goto C d_O_isSameMethod_43 (t := 47) (by decide) ?_
        exact zr_zret C d_O_isSameMethod_47 (by first | (simp [zo_sm, zk_b, c1, c2, c3]; done) | simp_all [zo_sm, zk_b]) (by decide) hK (Nat.zero_le _) (Nat.zero_le _)
  · refine zr_iconst C d_O_isSameMethod_15 (n := 16) rfl (v := nI 0) (by decide) ?_
    exact zr_zret C d_O_isSameMethod_16 (by first | (simp [zo_sm, zk_b, c1]; done) | simp_all [zo_sm, zk_b]) (by decide) hK (Nat.zero_le _) (Nat.zero_le _)
