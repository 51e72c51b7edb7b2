def zo_fnum (fl v : Int32) : Int32 := if fl &&& nI 16 = 0 then nI 0 else v
def zo_fth (O : zo_O) (j : Nat) : Bool := decide (¬ O 3 j = -1)
def zo_mth (O : zo_O) (j : Nat) : Bool := decide (¬ O 6 j = -1)
def zo_cl (s : Nat) : Nat → Nat → (Nat → Int32) → Nat → Int32
  | 0, _, f => f
  | n + 1, j, f => zo_cl s n (j + 1) (upd f (s + j) (-1))
def zo_d3 (O P : zo_O) (t : Nat) : Nat := (if O 0 t = P 0 t then 0 else 1) + (if O 1 t = P 1 t then 0 else 1) + (if O 2 t = P 2 t then 0 else 1)
def zo_dL (f : Nat → Bool) : Nat → Nat → Nat → Nat
  | 0, _, a => a
  | n + 1, j, a => zo_dL f n (j + 1) (if f j = true then a else a + 1)
theorem zo_dL_1 {f : Nat → Bool} {n j a : Nat} (h : f j = true) : zo_dL f (n + 1) j a = zo_dL f n (j + 1) a := by rw [zo_dL, if_pos h]
theorem zo_dL_0 {f : Nat → Bool} {n j a : Nat} (h : f j = false) : zo_dL f (n + 1) j a = zo_dL f n (j + 1) (a + 1) := by rw [zo_dL, if_neg (by rw [h]; decide)]
def zo_df (O P : zo_O) (t : Nat) : Nat := zo_dL (fun j => zo_sm O P (t * 12 + j)) 12 0 (zo_dL (fun j => zo_sf O P (t * 4 + j)) 4 0 (zo_d3 O P t))
abbrev rm_O_putType : Room := { frames := 0, cells := 0, slots := 0, locals := 0 }
set_option maxHeartbeats 4000000 in
set_option maxRecDepth 100000 in
/-- putType -/
theorem sp_O_putType (l : Launch) {h : zk_H} {o : Nat} {O : zo_O} (hO : zo_at h o O) {t : Nat} (ht : t < 6) {x1 x2 x3 : Int32} {K : Option Value → zk_H → Prop} (hK : K none (((h.set (o + 1) (.inl (0, 6, .inl (upd (O 0) t x1)))).set (o + 2) (.inl (0, 6, .inl (upd (O 1) t x2)))).set (o + 3) (.inl (0, 6, .inl (upd (O 2) t x3))))) : zk_S l y_O_putType b_O_putType 5 none rm_O_putType [.ref (o + 1), .int (nI t), .int x1, .int x2, .int x3] h K := by
  obtain ⟨ho, a0, a1, a2, a3, a4, a5, a6, a7⟩ := id hO
  refine zk_S_of R_O "putType" (by decide) rfl rfl [some (.ref (o + 1)), some (.int (nI t)), some (.int x1), some (.int x2), some (.int x3)] 0 rfl (Nat.le_of_ble_eq_true rfl) (fun p e s m ar below meth c D dA b base C => ?_)
  refine zr_aload_n C d_O_putType_0 (n := 1) rfl rfl ?_
  refine zr_get C f_O_9 d_O_putType_1 (n := 4) rfl ho rfl ?_
  refine zr_iload_n C d_O_putType_4 (n := 5) rfl rfl ?_
  refine zr_iload_n C d_O_putType_5 (n := 6) rfl rfl ?_
  refine zr_iastN C d_O_putType_6 (n := 7) rfl a0 rfl (by omega) (by decide) ?_
  refine zr_aload_n C d_O_putType_7 (n := 8) rfl rfl ?_
  refine zr_get C f_O_15 d_O_putType_8 (n := 11) rfl (zk_g1 (by omega) ho) rfl ?_
  refine zr_iload_n C d_O_putType_11 (n := 12) rfl rfl ?_
  refine zr_iload_n C d_O_putType_12 (n := 13) rfl rfl ?_
  refine zr_iastN C d_O_putType_13 (n := 14) rfl (zk_g1 (by omega) a1) rfl (by omega) (by decide) ?_
  refine zr_aload_n C d_O_putType_14 (n := 15) rfl rfl ?_
  refine zr_get C f_O_18 d_O_putType_15 (n := 18) rfl (zk_g1 (by omega) (zk_g1 (by omega) ho)) rfl ?_
  refine zr_iload_n C d_O_putType_18 (n := 19) rfl rfl ?_
  refine zr_iload C d_O_putType_19 (n := 21) rfl rfl ?_
  refine zr_iastN C d_O_putType_21 (n := 22) rfl (zk_g1 (by omega) (zk_g1 (by omega) a2)) rfl (by omega) (by decide) ?_
  exact zr_vret C d_O_putType_22 hK (Nat.zero_le _) (Nat.zero_le _)
abbrev rm_O_putField : Room := { frames := 0, cells := 0, slots := 0, locals := 0 }
set_option maxHeartbeats 4000000 in
set_option maxRecDepth 100000 in
/-- putField(place, kind, flags, number) -/
theorem sp_O_putField (l : Launch) {h : zk_H} {o : Nat} {O : zo_O} (hO : zo_at h o O) {j : Nat} (hj : j < 24) {x1 x2 x3 : Int32} {K : Option Value → zk_H → Prop} (hK : K none (((h.set (o + 4) (.inl (0, 24, .inl (upd (O 3) j x2)))).set (o + 5) (.inl (0, 24, .inl (upd (O 4) j x1)))).set (o + 6) (.inl (0, 24, .inl (upd (O 5) j (zo_fnum x2 x3)))))) : zk_S l y_O_putField b_O_putField 5 none rm_O_putField [.ref (o + 1), .int (nI j), .int x1, .int x2, .int x3] h K := by
  obtain ⟨ho, a0, a1, a2, a3, a4, a5, a6, a7⟩ := id hO
  refine zk_S_of R_O "putField" (by decide) rfl rfl [some (.ref (o + 1)), some (.int (nI j)), some (.int x1), some (.int x2), some (.int x3)] 0 rfl (Nat.le_of_ble_eq_true rfl) (fun p e s m ar below meth c D dA b base C => ?_)
  refine zr_aload_n C d_O_putField_0 (n := 1) rfl rfl ?_
  refine zr_get C f_O_21 d_O_putField_1 (n := 4) rfl ho rfl ?_
  refine zr_iload_n C d_O_putField_4 (n := 5) rfl rfl ?_
  refine zr_iload_n C d_O_putField_5 (n := 6) rfl rfl ?_
  refine zr_iastN C d_O_putField_6 (n := 7) rfl a3 rfl (by omega) (by decide) ?_
  refine zr_aload_n C d_O_putField_7 (n := 8) rfl rfl ?_
  refine zr_get C f_O_24 d_O_putField_8 (n := 11) rfl (zk_g1 (by omega) ho) rfl ?_
  refine zr_iload_n C d_O_putField_11 (n := 12) rfl rfl ?_
  refine zr_iload_n C d_O_putField_12 (n := 13) rfl rfl ?_
  refine zr_iastN C d_O_putField_13 (n := 14) rfl (zk_g1 (by omega) a4) rfl (by omega) (by decide) ?_
  refine zr_aload_n C d_O_putField_14 (n := 15) rfl rfl ?_
  refine zr_get C f_O_27 d_O_putField_15 (n := 18) rfl (zk_g1 (by omega) (zk_g1 (by omega) ho)) rfl ?_
  refine zr_iload_n C d_O_putField_18 (n := 19) rfl rfl ?_
  refine zr_iload_n C d_O_putField_19 (n := 20) rfl rfl ?_
  refine zr_bipush C d_O_putField_20 (n := 22) rfl (v := nI 16) (by decide) ?_
  refine zr_iand C d_O_putField_22 (n := 23) rfl ?_
  refine zr_if_eq C d_O_putField_23 (n := 26) rfl (t := 31) (by decide) (fun c1 => ?_) (fun c1 => ?_)
  · refine zr_iconst C d_O_putField_31 (n := 32) rfl (v := nI 0) (by decide) ?_
    refine zr_iastN C d_O_putField_32 (n := 33) rfl (zk_g1 (by omega) (zk_g1 (by omega) a5)) rfl (by omega) (by decide) ?_
    exact zr_vret C d_O_putField_33 (by rw [zo_fnum, if_pos c1] at hK; exact hK) (Nat.zero_le _) (Nat.zero_le _)
  · refine zr_iload C d_O_putField_26 (n := 28) rfl rfl ?_
    refine zr_goto C d_O_putField_28 (t := 32) (by decide) ?_
    refine zr_iastN C d_O_putField_32 (n := 33) rfl (zk_g1 (by omega) (zk_g1 (by omega) a5)) rfl (by omega) (by decide) ?_
    exact zr_vret C d_O_putField_33 (by rw [zo_fnum, if_neg c1] at hK; exact hK) (Nat.zero_le _) (Nat.zero_le _)
abbrev rm_O_removeField : Room := { frames := 0, cells := 0, slots := 0, locals := 0 }
set_option maxHeartbeats 4000000 in
set_option maxRecDepth 100000 in
/-- removeField -/
theorem sp_O_removeField (l : Launch) {h : zk_H} {o : Nat} {O : zo_O} (hO : zo_at h o O) {j : Nat} (hj : j < 24) {K : Option Value → zk_H → Prop} (hK : K (some (.int (zk_b (zo_fth O j)))) (h.set (o + 4) (.inl (0, 24, .inl (upd (O 3) j (-1)))))) : zk_S l y_O_removeField b_O_removeField 3 (some .boolean) rm_O_removeField [.ref (o + 1), .int (nI j)] h K := by
  obtain ⟨ho, a0, a1, a2, a3, a4, a5, a6, a7⟩ := id hO
  refine zk_S_of R_O "removeField" (by decide) rfl rfl [some (.ref (o + 1)), some (.int (nI j)), none] 1 rfl (Nat.le_of_ble_eq_true rfl) (fun p e s m ar below meth c D dA b base C => ?_)
  refine zr_aload_n C d_O_removeField_0 (n := 1) rfl rfl ?_
  refine zr_get C f_O_21 d_O_removeField_1 (n := 4) rfl ho rfl ?_
  refine zr_iload_n C d_O_removeField_4 (n := 5) rfl rfl ?_
  refine zr_ialdN C d_O_removeField_5 (n := 6) rfl a3 rfl (by omega) (by decide) ?_
  refine zr_iconst C d_O_removeField_6 (n := 7) rfl (v := -1) (by decide) ?_
  refine zr_icmp_eq C d_O_removeField_7 (n := 10) rfl (t := 14) (by decide) (fun c1 => ?_) (fun c1 => ?_)
  · refine zr_iconst C d_O_removeField_14 (n := 15) rfl (v := nI 0) (by decide) ?_
    refine zr_istore_n C d_O_removeField_15 (n := 16) rfl (by decide) rfl ?_
    refine zr_aload_n C d_O_removeField_16 (n := 17) rfl rfl ?_
    refine zr_get C f_O_21 d_O_removeField_17 (n := 20) rfl ho rfl ?_
    refine zr_iload_n C d_O_removeField_20 (n := 21) rfl rfl ?_
    refine zr_iconst C d_O_removeField_21 (n := 22) rfl (v := -1) (by decide) ?_
    refine zr_iastN C d_O_removeField_22 (n := 23) rfl a3 rfl (by omega) (by decide) ?_
    refine zr_iload_n C d_O_removeField_23 (n := 24) rfl rfl ?_
    exact zr_zret C d_O_removeField_24 (by simp [zo_fth, zk_b, c1]) (by decide) hK (Nat.zero_le _) (Nat.zero_le _)
  · refine zr_iconst C d_O_removeField_10 (n := 11) rfl (v := nI 1) (by decide) ?_
    refine zr_goto C d_O_removeField_11 (t := 15) (by decide) ?_
    refine zr_istore_n C d_O_removeField_15 (n := 16) rfl (by decide) rfl ?_
    refine zr_aload_n C d_O_removeField_16 (n := 17) rfl rfl ?_
    refine zr_get C f_O_21 d_O_removeField_17 (n := 20) rfl ho rfl ?_
    refine zr_iload_n C d_O_removeField_20 (n := 21) rfl rfl ?_
    refine zr_iconst C d_O_removeField_21 (n := 22) rfl (v := -1) (by decide) ?_
    refine zr_iastN C d_O_removeField_22 (n := 23) rfl a3 rfl (by omega) (by decide) ?_
    refine zr_iload_n C d_O_removeField_23 (n := 24) rfl rfl ?_
    exact zr_zret C d_O_removeField_24 (by simp [zo_fth, zk_b, c1]) (by decide) hK (Nat.zero_le _) (Nat.zero_le _)
abbrev rm_O_removeMethod : Room := { frames := 0, cells := 0, slots := 0, locals := 0 }
set_option maxHeartbeats 4000000 in
set_option maxRecDepth 100000 in
/-- removeMethod -/
theorem sp_O_removeMethod (l : Launch) {h : zk_H} {o : Nat} {O : zo_O} (hO : zo_at h o O) {j : Nat} (hj : j < 72) {K : Option Value → zk_H → Prop} (hK : K (some (.int (zk_b (zo_mth O j)))) (h.set (o + 7) (.inl (0, 72, .inl (upd (O 6) j (-1)))))) : zk_S l y_O_removeMethod b_O_removeMethod 3 (some .boolean) rm_O_removeMethod [.ref (o + 1), .int (nI j)] h K := by
  obtain ⟨ho, a0, a1, a2, a3, a4, a5, a6, a7⟩ := id hO
  refine zk_S_of R_O "removeMethod" (by decide) rfl rfl [some (.ref (o + 1)), some (.int (nI j)), none] 1 rfl (Nat.le_of_ble_eq_true rfl) (fun p e s m ar below meth c D dA b base C => ?_)
  refine zr_aload_n C d_O_removeMethod_0 (n := 1) rfl rfl ?_
  refine zr_get C f_O_30 d_O_removeMethod_1 (n := 4) rfl ho rfl ?_
  refine zr_iload_n C d_O_removeMethod_4 (n := 5) rfl rfl ?_
  refine zr_ialdN C d_O_removeMethod_5 (n := 6) rfl a6 rfl (by omega) (by decide) ?_
  refine zr_iconst C d_O_removeMethod_6 (n := 7) rfl (v := -1) (by decide) ?_
  refine zr_icmp_eq C d_O_removeMethod_7 (n := 10) rfl (t := 14) (by decide) (fun c1 => ?_) (fun c1 => ?_)
  · refine zr_iconst C d_O_removeMethod_14 (n := 15) rfl (v := nI 0) (by decide) ?_
    refine zr_istore_n C d_O_removeMethod_15 (n := 16) rfl (by decide) rfl ?_
    refine zr_aload_n C d_O_removeMethod_16 (n := 17) rfl rfl ?_
    refine zr_get C f_O_30 d_O_removeMethod_17 (n := 20) rfl ho rfl ?_
    refine zr_iload_n C d_O_removeMethod_20 (n := 21) rfl rfl ?_
    refine zr_iconst C d_O_removeMethod_21 (n := 22) rfl (v := -1) (by decide) ?_
    refine zr_iastN C d_O_removeMethod_22 (n := 23) rfl a6 rfl (by omega) (by decide) ?_
    refine zr_iload_n C d_O_removeMethod_23 (n := 24) rfl rfl ?_
    exact zr_zret C d_O_removeMethod_24 (by simp [zo_mth, zk_b, c1]) (by decide) hK (Nat.zero_le _) (Nat.zero_le _)
  · refine zr_iconst C d_O_removeMethod_10 (n := 11) rfl (v := nI 1) (by decide) ?_
    refine zr_goto C d_O_removeMethod_11 (t := 15) (by decide) ?_
    refine zr_istore_n C d_O_removeMethod_15 (n := 16) rfl (by decide) rfl ?_
    refine zr_aload_n C d_O_removeMethod_16 (n := 17) rfl rfl ?_
    refine zr_get C f_O_30 d_O_removeMethod_17 (n := 20) rfl ho rfl ?_
    refine zr_iload_n C d_O_removeMethod_20 (n := 21) rfl rfl ?_
    refine zr_iconst C d_O_removeMethod_21 (n := 22) rfl (v := -1) (by decide) ?_
    refine zr_iastN C d_O_removeMethod_22 (n := 23) rfl a6 rfl (by omega) (by decide) ?_
    refine zr_iload_n C d_O_removeMethod_23 (n := 24) rfl rfl ?_
    exact zr_zret C d_O_removeMethod_24 (by simp [zo_mth, zk_b, c1]) (by decide) hK (Nat.zero_le _) (Nat.zero_le _)
abbrev rm_O_putMethod : Room := { frames := 0, cells := 0, slots := 0, locals := 0 }
set_option maxHeartbeats 4000000 in
set_option maxRecDepth 100000 in
/-- putMethod(place, answer, flags) -/
theorem sp_O_putMethod (l : Launch) {h : zk_H} {o : Nat} {O : zo_O} (hO : zo_at h o O) {j : Nat} (hj : j < 72) {x1 x2 : Int32} {K : Option Value → zk_H → Prop} (hK : K none ((h.set (o + 7) (.inl (0, 72, .inl (upd (O 6) j x2)))).set (o + 8) (.inl (0, 72, .inl (upd (O 7) j x1))))) : zk_S l y_O_putMethod b_O_putMethod 4 none rm_O_putMethod [.ref (o + 1), .int (nI j), .int x1, .int x2] h K := by
  obtain ⟨ho, a0, a1, a2, a3, a4, a5, a6, a7⟩ := id hO
  refine zk_S_of R_O "putMethod" (by decide) rfl rfl [some (.ref (o + 1)), some (.int (nI j)), some (.int x1), some (.int x2)] 0 rfl (Nat.le_of_ble_eq_true rfl) (fun p e s m ar below meth c D dA b base C => ?_)
  refine zr_aload_n C d_O_putMethod_0 (n := 1) rfl rfl ?_
  refine zr_get C f_O_30 d_O_putMethod_1 (n := 4) rfl ho rfl ?_
  refine zr_iload_n C d_O_putMethod_4 (n := 5) rfl rfl ?_
  refine zr_iload_n C d_O_putMethod_5 (n := 6) rfl rfl ?_
  refine zr_iastN C d_O_putMethod_6 (n := 7) rfl a6 rfl (by omega) (by decide) ?_
  refine zr_aload_n C d_O_putMethod_7 (n := 8) rfl rfl ?_
  refine zr_get C f_O_33 d_O_putMethod_8 (n := 11) rfl (zk_g1 (by omega) ho) rfl ?_
  refine zr_iload_n C d_O_putMethod_11 (n := 12) rfl rfl ?_
  refine zr_iload_n C d_O_putMethod_12 (n := 13) rfl rfl ?_
  refine zr_iastN C d_O_putMethod_13 (n := 14) rfl (zk_g1 (by omega) a7) rfl (by omega) (by decide) ?_
  exact zr_vret C d_O_putMethod_14 hK (Nat.zero_le _) (Nat.zero_le _)
theorem zk_ss {h : zk_H} {i : Nat} {x : zk_E} (hh : h[i]? = some x) : h.set i x = h := by
  apply List.ext_getElem?
  intro j
  by_cases hj : i = j
  · subst hj
    rw [hh]
    exact zk_g0 hh
  · exact zk_g1 hj rfl
theorem zk_sset {h : zk_H} {i : Nat} {x y : zk_E} : (h.set i x).set i y = h.set i y := List.set_set ..
abbrev rm_O_removeType : Room := { frames := 1, cells := 0, slots := 0, locals := 24 }
set_option maxHeartbeats 4000000 in
set_option maxRecDepth 100000 in
/-- removeType -/
theorem sp_O_removeType (l : Launch) {h : zk_H} {o : Nat} {O : zo_O} (hO : zo_at h o O) {t : Nat} (ht : t < 6) {K : Option Value → zk_H → Prop} (hK : K none (((((h.set (o + 1) (.inl (0, 6, .inl (upd (O 0) t (-1))))).set (o + 2) (.inl (0, 6, .inl (upd (O 1) t (nI 6))))).set (o + 3) (.inl (0, 6, .inl (upd (O 2) t (nI 0))))).set (o + 4) (.inl (0, 24, .inl (zo_cl (t * 4) 4 0 (O 3))))).set (o + 7) (.inl (0, 72, .inl (zo_cl (t * 12) 12 0 (O 6)))))) : zk_S l y_O_removeType b_O_removeType 3 none rm_O_removeType [.ref (o + 1), .int (nI t)] h K := by
  obtain ⟨ho, a0, a1, a2, a3, a4, a5, a6, a7⟩ := id hO
  refine zk_S_of R_O "removeType" (by decide) rfl rfl [some (.ref (o + 1)), some (.int (nI t)), none] 1 rfl (Nat.le_of_ble_eq_true rfl) (fun p e s m ar below meth c D dA b base C => ?_)
  have L2 : ∀ (n j : Nat) (h2 : zk_H) (f : Nat → Int32), h2[o]? = h[o]? → h2[o + 7]? = some (.inl (0, 72, .inl f)) → n + j = 12 → K none (h2.set (o + 7) (.inl (0, 72, .inl (zo_cl (t * 12) n j f)))) → zk_V p l e rm_O_removeType s m ar below meth c 3 D dA b base (MQ below (zk_Q K D dA b base) ar s rm_O_removeType.cells rm_O_removeType.slots (fun q : Nat => base ≤ q)) 0 0 35 [some (.ref (o + 1)), some (.int (nI t)), some (.int (nI j))] [] h2 := by
    intro n
    induction n with
    | zero =>
      intro j h2 f bo b6 hj hK
      rw [ho] at bo
      refine zr_iload_n C d_O_removeType_35 (n := 36) rfl rfl ?_
      refine zr_bipush C d_O_removeType_36 (n := 38) rfl (v := nI 12) (by decide) ?_
      refine zr_icmp_ge C d_O_removeType_38 (n := 41) rfl (t := 59) (by decide) (fun c1 => ?_) (fun c1 => ?_)
      · exact zr_vret C d_O_removeType_59 (by rw [zo_cl, zk_ss b6] at hK; exact hK) (Nat.zero_le _) (Nat.zero_le _)
      · exact absurd (zk_nle (by omega) (by omega) c1) (by omega)
    | succ n ih =>
      intro j h2 f bo b6 hj hK
      have bo0 := bo
      rw [ho] at bo
      refine zr_iload_n C d_O_removeType_35 (n := 36) rfl rfl ?_
      refine zr_bipush C d_O_removeType_36 (n := 38) rfl (v := nI 12) (by decide) ?_
      refine zr_icmp_ge C d_O_removeType_38 (n := 41) rfl (t := 59) (by decide) (fun c1 => ?_) (fun c1 => ?_)
      · exact absurd (zk_le (by omega) (by omega) c1) (by omega)
      · refine zr_aload_n C d_O_removeType_41 (n := 42) rfl rfl ?_
        refine zr_get C f_O_30 d_O_removeType_42 (n := 45) rfl bo rfl ?_
        refine zr_iload_n C d_O_removeType_45 (n := 46) rfl rfl ?_
        refine zr_bipush C d_O_removeType_46 (n := 48) rfl (v := nI 12) (by decide) ?_
        refine zr_imul C d_O_removeType_48 (n := 49) rfl ?_
        refine zr_iload_n C d_O_removeType_49 (n := 50) rfl rfl ?_
        refine zr_iadd C d_O_removeType_50 (n := 51) rfl ?_
        refine zr_iconst C d_O_removeType_51 (n := 52) rfl (v := -1) (by decide) ?_
        refine zr_iastN C d_O_removeType_52 (n := 53) rfl b6 (j := t * 12 + j) (by simp only [pk_mul, nI_add]) (by omega) (by decide) ?_
        refine zr_iinc C d_O_removeType_53 (n := 56) rfl rfl (w := 1) (by decide) (nI_1 j) (by decide) rfl ?_
        refine zr_goto C d_O_removeType_56 (t := 35) (by decide) ?_
        exact ih (j + 1) _ _ (zk_g1 (by omega) bo0) (zk_g0 b6) (by omega) (by rw [zk_sset]; exact hK)
  have L1 : ∀ (n j : Nat) (h2 : zk_H) (f : Nat → Int32), h2[o]? = h[o]? → h2[o + 4]? = some (.inl (0, 24, .inl f)) → h2[o + 7]? = some (.inl (0, 72, .inl (O 6))) → n + j = 4 → K none ((h2.set (o + 4) (.inl (0, 24, .inl (zo_cl (t * 4) n j f)))).set (o + 7) (.inl (0, 72, .inl (zo_cl (t * 12) 12 0 (O 6))))) → zk_V p l e rm_O_removeType s m ar below meth c 3 D dA b base (MQ below (zk_Q K D dA b base) ar s rm_O_removeType.cells rm_O_removeType.slots (fun q : Nat => base ≤ q)) 0 0 11 [some (.ref (o + 1)), some (.int (nI t)), some (.int (nI j))] [] h2 := by
    intro n
    induction n with
    | zero =>
      intro j h2 f bo b3 b6 hj hK
      have bo0 := bo
      rw [ho] at bo
      refine zr_iload_n C d_O_removeType_11 (n := 12) rfl rfl ?_
      refine zr_iconst C d_O_removeType_12 (n := 13) rfl (v := nI 4) (by decide) ?_
      refine zr_icmp_ge C d_O_removeType_13 (n := 16) rfl (t := 33) (by decide) (fun c1 => ?_) (fun c1 => ?_)
      · refine zr_iconst C d_O_removeType_33 (n := 34) rfl (v := nI 0) (by decide) ?_
        refine zr_istore_n C d_O_removeType_34 (n := 35) rfl (by decide) rfl ?_
        exact L2 12 0 _ _ bo0 b6 rfl (by rw [zo_cl, zk_ss b3] at hK; exact hK)
      · exact absurd (zk_nle (by omega) (by omega) c1) (by omega)
    | succ n ih =>
      intro j h2 f bo b3 b6 hj hK
      have bo0 := bo
      rw [ho] at bo
      refine zr_iload_n C d_O_removeType_11 (n := 12) rfl rfl ?_
      refine zr_iconst C d_O_removeType_12 (n := 13) rfl (v := nI 4) (by decide) ?_
      refine zr_icmp_ge C d_O_removeType_13 (n := 16) rfl (t := 33) (by decide) (fun c1 => ?_) (fun c1 => ?_)
      · exact absurd (zk_le (by omega) (by omega) c1) (by omega)
      · refine zr_aload_n C d_O_removeType_16 (n := 17) rfl rfl ?_
        refine zr_get C f_O_21 d_O_removeType_17 (n := 20) rfl bo rfl ?_
        refine zr_iload_n C d_O_removeType_20 (n := 21) rfl rfl ?_
        refine zr_iconst C d_O_removeType_21 (n := 22) rfl (v := nI 4) (by decide) ?_
        refine zr_imul C d_O_removeType_22 (n := 23) rfl ?_
        refine zr_iload_n C d_O_removeType_23 (n := 24) rfl rfl ?_
        refine zr_iadd C d_O_removeType_24 (n := 25) rfl ?_
        refine zr_iconst C d_O_removeType_25 (n := 26) rfl (v := -1) (by decide) ?_
        refine zr_iastN C d_O_removeType_26 (n := 27) rfl b3 (j := t * 4 + j) (by simp only [pk_mul, nI_add]) (by omega) (by decide) ?_
        refine zr_iinc C d_O_removeType_27 (n := 30) rfl rfl (w := 1) (by decide) (nI_1 j) (by decide) rfl ?_
        refine zr_goto C d_O_removeType_30 (t := 11) (by decide) ?_
        exact ih (j + 1) _ _ (zk_g1 (by omega) bo0) (zk_g0 b3) (zk_g1 (by omega) b6) (by omega) (by rw [zk_sset]; exact hK)
  refine zr_aload_n C d_O_removeType_0 (n := 1) rfl rfl ?_
  refine zr_iload_n C d_O_removeType_1 (n := 2) rfl rfl ?_
  refine zr_iconst C d_O_removeType_2 (n := 3) rfl (v := -1) (by decide) ?_
  refine zr_bipush C d_O_removeType_3 (n := 5) rfl (v := nI 6) (by decide) ?_
  refine zr_iconst C d_O_removeType_5 (n := 6) rfl (v := nI 0) (by decide) ?_
  refine zr_callV4 C k_O_50 d_O_removeType_6 (nx := 9) rfl ho rfl ⟨by decide, by decide⟩ (by decide) ⟨by decide, by decide⟩ (sp_O_putType l hO ht ?_)
  refine zr_iconst C d_O_removeType_9 (n := 10) rfl (v := nI 0) (by decide) ?_
  refine zr_istore_n C d_O_removeType_10 (n := 11) rfl (by decide) rfl ?_
  exact L1 4 0 _ _ (zk_g1 (by omega) (zk_g1 (by omega) (zk_g1 (by omega) rfl))) (zk_g1 (by omega) (zk_g1 (by omega) (zk_g1 (by omega) a3))) (zk_g1 (by omega) (zk_g1 (by omega) (zk_g1 (by omega) a6))) rfl hK
abbrev rm_O_becomeAs : Room := { frames := 1, cells := 0, slots := 0, locals := 100 }
set_option maxHeartbeats 4000000 in
set_option maxRecDepth 100000 in
/-- becomeAs -/
theorem sp_O_becomeAs (l : Launch) {h : zk_H} {o : Nat} {O : zo_O} (hO : zo_at h o O) {q : Nat} {P : zo_O} (hP : zo_at h q P) (hd : o + 9 ≤ q ∨ q + 9 ≤ o) {K : Option Value → zk_H → Prop} (hK : K none ((((((((h.set (o + 1) (.inl (0, 6, .inl (va_cpy (P 0) (O 0) 0 0 6)))).set (o + 2) (.inl (0, 6, .inl (va_cpy (P 1) (O 1) 0 0 6)))).set (o + 3) (.inl (0, 6, .inl (va_cpy (P 2) (O 2) 0 0 6)))).set (o + 4) (.inl (0, 24, .inl (va_cpy (P 3) (O 3) 0 0 24)))).set (o + 5) (.inl (0, 24, .inl (va_cpy (P 4) (O 4) 0 0 24)))).set (o + 6) (.inl (0, 24, .inl (va_cpy (P 5) (O 5) 0 0 24)))).set (o + 7) (.inl (0, 72, .inl (va_cpy (P 6) (O 6) 0 0 72)))).set (o + 8) (.inl (0, 72, .inl (va_cpy (P 7) (O 7) 0 0 72))))) : zk_S l y_O_becomeAs b_O_becomeAs 2 none rm_O_becomeAs [.ref (o + 1), .ref (q + 1)] h K := by
  obtain ⟨ho, a0, a1, a2, a3, a4, a5, a6, a7⟩ := id hO
  obtain ⟨go, g0, g1, g2, g3, g4, g5, g6, g7⟩ := id hP
  refine zk_S_of R_O "becomeAs" (by decide) rfl rfl [some (.ref (o + 1)), some (.ref (q + 1))] 0 rfl (Nat.le_of_ble_eq_true rfl) (fun p e s m ar below meth c D dA b base C => ?_)
  refine zr_aload_n C d_O_becomeAs_0 (n := 1) rfl rfl ?_
  refine zr_get C f_O_9 d_O_becomeAs_1 (n := 4) rfl go rfl ?_
  refine zr_iconst C d_O_becomeAs_4 (n := 5) rfl (v := nI 0) (by decide) ?_
  refine zr_aload_n C d_O_becomeAs_5 (n := 6) rfl rfl ?_
  refine zr_get C f_O_9 d_O_becomeAs_6 (n := 9) rfl ho rfl ?_
  refine zr_iconst C d_O_becomeAs_9 (n := 10) rfl (v := nI 0) (by decide) ?_
  refine zr_bipush C d_O_becomeAs_10 (n := 12) rfl (v := nI 6) (by decide) ?_
  refine zr_copyi C a_O_54 d_O_becomeAs_12 (n := 15) rfl g0 a0 (by decide) (N := 6) (by decide) (by decide) (by decide) (by simp) (by decide) (by decide) ?_
  refine zr_aload_n C d_O_becomeAs_15 (n := 16) rfl rfl ?_
  refine zr_get C f_O_15 d_O_becomeAs_16 (n := 19) rfl (zk_g1 (by omega) go) rfl ?_
  refine zr_iconst C d_O_becomeAs_19 (n := 20) rfl (v := nI 0) (by decide) ?_
  refine zr_aload_n C d_O_becomeAs_20 (n := 21) rfl rfl ?_
  refine zr_get C f_O_15 d_O_becomeAs_21 (n := 24) rfl (zk_g1 (by omega) ho) rfl ?_
  refine zr_iconst C d_O_becomeAs_24 (n := 25) rfl (v := nI 0) (by decide) ?_
  refine zr_bipush C d_O_becomeAs_25 (n := 27) rfl (v := nI 6) (by decide) ?_
  refine zr_copyi C a_O_54 d_O_becomeAs_27 (n := 30) rfl (zk_g1 (by omega) g1) (zk_g1 (by omega) a1) (by decide) (N := 6) (by decide) (by decide) (by decide) (by simp) (by decide) (by decide) ?_
  refine zr_aload_n C d_O_becomeAs_30 (n := 31) rfl rfl ?_
  refine zr_get C f_O_18 d_O_becomeAs_31 (n := 34) rfl (zk_g1 (by omega) (zk_g1 (by omega) go)) rfl ?_
  refine zr_iconst C d_O_becomeAs_34 (n := 35) rfl (v := nI 0) (by decide) ?_
  refine zr_aload_n C d_O_becomeAs_35 (n := 36) rfl rfl ?_
  refine zr_get C f_O_18 d_O_becomeAs_36 (n := 39) rfl (zk_g1 (by omega) (zk_g1 (by omega) ho)) rfl ?_
  refine zr_iconst C d_O_becomeAs_39 (n := 40) rfl (v := nI 0) (by decide) ?_
  refine zr_bipush C d_O_becomeAs_40 (n := 42) rfl (v := nI 6) (by decide) ?_
  refine zr_copyi C a_O_54 d_O_becomeAs_42 (n := 45) rfl (zk_g1 (by omega) (zk_g1 (by omega) g2)) (zk_g1 (by omega) (zk_g1 (by omega) a2)) (by decide) (N := 6) (by decide) (by decide) (by decide) (by simp) (by decide) (by decide) ?_
  refine zr_aload_n C d_O_becomeAs_45 (n := 46) rfl rfl ?_
  refine zr_get C f_O_21 d_O_becomeAs_46 (n := 49) rfl (zk_g1 (by omega) (zk_g1 (by omega) (zk_g1 (by omega) go))) rfl ?_
  refine zr_iconst C d_O_becomeAs_49 (n := 50) rfl (v := nI 0) (by decide) ?_
  refine zr_aload_n C d_O_becomeAs_50 (n := 51) rfl rfl ?_
  refine zr_get C f_O_21 d_O_becomeAs_51 (n := 54) rfl (zk_g1 (by omega) (zk_g1 (by omega) (zk_g1 (by omega) ho))) rfl ?_
  refine zr_iconst C d_O_becomeAs_54 (n := 55) rfl (v := nI 0) (by decide) ?_
  refine zr_bipush C d_O_becomeAs_55 (n := 57) rfl (v := nI 24) (by decide) ?_
  refine zr_copyi C a_O_54 d_O_becomeAs_57 (n := 60) rfl (zk_g1 (by omega) (zk_g1 (by omega) (zk_g1 (by omega) g3))) (zk_g1 (by omega) (zk_g1 (by omega) (zk_g1 (by omega) a3))) (by decide) (N := 24) (by decide) (by decide) (by decide) (by simp) (by decide) (by decide) ?_
  refine zr_aload_n C d_O_becomeAs_60 (n := 61) rfl rfl ?_
  refine zr_get C f_O_24 d_O_becomeAs_61 (n := 64) rfl (zk_g1 (by omega) (zk_g1 (by omega) (zk_g1 (by omega) (zk_g1 (by omega) go)))) rfl ?_
  refine zr_iconst C d_O_becomeAs_64 (n := 65) rfl (v := nI 0) (by decide) ?_
  refine zr_aload_n C d_O_becomeAs_65 (n := 66) rfl rfl ?_
  refine zr_get C f_O_24 d_O_becomeAs_66 (n := 69) rfl (zk_g1 (by omega) (zk_g1 (by omega) (zk_g1 (by omega) (zk_g1 (by omega) ho)))) rfl ?_
  refine zr_iconst C d_O_becomeAs_69 (n := 70) rfl (v := nI 0) (by decide) ?_
  refine zr_bipush C d_O_becomeAs_70 (n := 72) rfl (v := nI 24) (by decide) ?_
  refine zr_copyi C a_O_54 d_O_becomeAs_72 (n := 75) rfl (zk_g1 (by omega) (zk_g1 (by omega) (zk_g1 (by omega) (zk_g1 (by omega) g4)))) (zk_g1 (by omega) (zk_g1 (by omega) (zk_g1 (by omega) (zk_g1 (by omega) a4)))) (by decide) (N := 24) (by decide) (by decide) (by decide) (by simp) (by decide) (by decide) ?_
  refine zr_aload_n C d_O_becomeAs_75 (n := 76) rfl rfl ?_
  refine zr_get C f_O_27 d_O_becomeAs_76 (n := 79) rfl (zk_g1 (by omega) (zk_g1 (by omega) (zk_g1 (by omega) (zk_g1 (by omega) (zk_g1 (by omega) go))))) rfl ?_
  refine zr_iconst C d_O_becomeAs_79 (n := 80) rfl (v := nI 0) (by decide) ?_
  refine zr_aload_n C d_O_becomeAs_80 (n := 81) rfl rfl ?_
  refine zr_get C f_O_27 d_O_becomeAs_81 (n := 84) rfl (zk_g1 (by omega) (zk_g1 (by omega) (zk_g1 (by omega) (zk_g1 (by omega) (zk_g1 (by omega) ho))))) rfl ?_
  refine zr_iconst C d_O_becomeAs_84 (n := 85) rfl (v := nI 0) (by decide) ?_
  refine zr_bipush C d_O_becomeAs_85 (n := 87) rfl (v := nI 24) (by decide) ?_
  refine zr_copyi C a_O_54 d_O_becomeAs_87 (n := 90) rfl (zk_g1 (by omega) (zk_g1 (by omega) (zk_g1 (by omega) (zk_g1 (by omega) (zk_g1 (by omega) g5))))) (zk_g1 (by omega) (zk_g1 (by omega) (zk_g1 (by omega) (zk_g1 (by omega) (zk_g1 (by omega) a5))))) (by decide) (N := 24) (by decide) (by decide) (by decide) (by simp) (by decide) (by decide) ?_
  refine zr_aload_n C d_O_becomeAs_90 (n := 91) rfl rfl ?_
  refine zr_get C f_O_30 d_O_becomeAs_91 (n := 94) rfl (zk_g1 (by omega) (zk_g1 (by omega) (zk_g1 (by omega) (zk_g1 (by omega) (zk_g1 (by omega) (zk_g1 (by omega) go)))))) rfl ?_
  refine zr_iconst C d_O_becomeAs_94 (n := 95) rfl (v := nI 0) (by decide) ?_
  refine zr_aload_n C d_O_becomeAs_95 (n := 96) rfl rfl ?_
  refine zr_get C f_O_30 d_O_becomeAs_96 (n := 99) rfl (zk_g1 (by omega) (zk_g1 (by omega) (zk_g1 (by omega) (zk_g1 (by omega) (zk_g1 (by omega) (zk_g1 (by omega) ho)))))) rfl ?_
  refine zr_iconst C d_O_becomeAs_99 (n := 100) rfl (v := nI 0) (by decide) ?_
  refine zr_bipush C d_O_becomeAs_100 (n := 102) rfl (v := nI 72) (by decide) ?_
  refine zr_copyi C a_O_54 d_O_becomeAs_102 (n := 105) rfl (zk_g1 (by omega) (zk_g1 (by omega) (zk_g1 (by omega) (zk_g1 (by omega) (zk_g1 (by omega) (zk_g1 (by omega) g6)))))) (zk_g1 (by omega) (zk_g1 (by omega) (zk_g1 (by omega) (zk_g1 (by omega) (zk_g1 (by omega) (zk_g1 (by omega) a6)))))) (by decide) (N := 72) (by decide) (by decide) (by decide) (by simp) (by decide) (by decide) ?_
  refine zr_aload_n C d_O_becomeAs_105 (n := 106) rfl rfl ?_
  refine zr_get C f_O_33 d_O_becomeAs_106 (n := 109) rfl (zk_g1 (by omega) (zk_g1 (by omega) (zk_g1 (by omega) (zk_g1 (by omega) (zk_g1 (by omega) (zk_g1 (by omega) (zk_g1 (by omega) go))))))) rfl ?_
  refine zr_iconst C d_O_becomeAs_109 (n := 110) rfl (v := nI 0) (by decide) ?_
  refine zr_aload_n C d_O_becomeAs_110 (n := 111) rfl rfl ?_
  refine zr_get C f_O_33 d_O_becomeAs_111 (n := 114) rfl (zk_g1 (by omega) (zk_g1 (by omega) (zk_g1 (by omega) (zk_g1 (by omega) (zk_g1 (by omega) (zk_g1 (by omega) (zk_g1 (by omega) ho))))))) rfl ?_
  refine zr_iconst C d_O_becomeAs_114 (n := 115) rfl (v := nI 0) (by decide) ?_
  refine zr_bipush C d_O_becomeAs_115 (n := 117) rfl (v := nI 72) (by decide) ?_
  refine zr_copyi C a_O_54 d_O_becomeAs_117 (n := 120) rfl (zk_g1 (by omega) (zk_g1 (by omega) (zk_g1 (by omega) (zk_g1 (by omega) (zk_g1 (by omega) (zk_g1 (by omega) (zk_g1 (by omega) g7))))))) (zk_g1 (by omega) (zk_g1 (by omega) (zk_g1 (by omega) (zk_g1 (by omega) (zk_g1 (by omega) (zk_g1 (by omega) (zk_g1 (by omega) a7))))))) (by decide) (N := 72) (by decide) (by decide) (by decide) (by simp) (by decide) (by decide) ?_
  exact zr_vret C d_O_becomeAs_120 hK (Nat.zero_le _) (Nat.zero_le _)
abbrev rm_O_differencesFrom : Room := { frames := 1, cells := 0, slots := 0, locals := 22 }
set_option maxHeartbeats 4000000 in
set_option maxRecDepth 100000 in
/-- differencesFrom -/
theorem sp_O_differencesFrom (l : Launch) {h : zk_H} {o : Nat} {O : zo_O} (hO : zo_at h o O) {q : Nat} {P : zo_O} (hP : zo_at h q P) {t : Nat} (ht : t < 6) {K : Option Value → zk_H → Prop} (hK : K (some (.int (nI (zo_df O P t)))) h) : zk_S l y_O_differencesFrom b_O_differencesFrom 5 (some .int) rm_O_differencesFrom [.ref (o + 1), .ref (q + 1), .int (nI t)] h K := by
  obtain ⟨ho, a0, a1, a2, a3, a4, a5, a6, a7⟩ := id hO
  obtain ⟨go, g0, g1, g2, g3, g4, g5, g6, g7⟩ := id hP
  refine zk_S_of R_O "differencesFrom" (by decide) rfl rfl [some (.ref (o + 1)), some (.ref (q + 1)), some (.int (nI t)), none, none] 2 rfl (Nat.le_of_ble_eq_true rfl) (fun p e s m ar below meth c D dA b base C => ?_)
  have L2 : ∀ (n j a : Nat), n + j = 12 → K (some (.int (nI (zo_dL (fun j => zo_sm O P (t * 12 + j)) n j a)))) h → zk_V p l e rm_O_differencesFrom s m ar below meth c 5 D dA b base (MQ below (zk_Q K D dA b base) ar s rm_O_differencesFrom.cells rm_O_differencesFrom.slots (fun q : Nat => base ≤ q)) 0 0 91 [some (.ref (o + 1)), some (.ref (q + 1)), some (.int (nI t)), some (.int (nI a)), some (.int (nI j))] [] h := by
    intro n
    induction n with
    | zero =>
      intro j a hj hK
      rw [zo_dL] at hK
      refine zr_iload C d_O_differencesFrom_91 (n := 93) rfl rfl ?_
      refine zr_bipush C d_O_differencesFrom_93 (n := 95) rfl (v := nI 12) (by decide) ?_
      refine zr_icmp_ge C d_O_differencesFrom_95 (n := 98) rfl (t := 122) (by decide) (fun c1 => ?_) (fun c1 => ?_)
      · refine zr_iload_n C d_O_differencesFrom_122 (n := 123) rfl rfl ?_
        exact zr_iret C d_O_differencesFrom_123 rfl hK (Nat.zero_le _) (Nat.zero_le _)
      · exact absurd (zk_nle (by omega) (by omega) c1) (by omega)
    | succ n ih =>
      intro j a hj hK
      refine zr_iload C d_O_differencesFrom_91 (n := 93) rfl rfl ?_
      refine zr_bipush C d_O_differencesFrom_93 (n := 95) rfl (v := nI 12) (by decide) ?_
      refine zr_icmp_ge C d_O_differencesFrom_95 (n := 98) rfl (t := 122) (by decide) (fun c1 => ?_) (fun c1 => ?_)
      · exact absurd (zk_le (by omega) (by omega) c1) (by omega)
      · refine zr_aload_n C d_O_differencesFrom_98 (n := 99) rfl rfl ?_
        refine zr_aload_n C d_O_differencesFrom_99 (n := 100) rfl rfl ?_
        refine zr_iload_n C d_O_differencesFrom_100 (n := 101) rfl rfl ?_
        refine zr_bipush C d_O_differencesFrom_101 (n := 103) rfl (v := nI 12) (by decide) ?_
        refine zr_imul C d_O_differencesFrom_103 (n := 104) rfl ?_
        refine zr_iload C d_O_differencesFrom_104 (n := 106) rfl rfl ?_
        refine zr_iadd C d_O_differencesFrom_106 (n := 107) rfl ?_
        refine zr_toe (y := nI (t * 12 + j)) (by simp only [pk_mul, nI_add]) ?_
        refine zr_callV2 C k_O_79 d_O_differencesFrom_107 (nx := 110) rfl ho rfl ⟨by decide, by decide⟩ (by decide) ⟨by decide, by decide⟩ (sp_O_isSameMethod l hO hP (by omega) ?_)
        refine zr_if_ne C d_O_differencesFrom_110 (n := 113) rfl (t := 116) (by decide) (fun c2 => ?_) (fun c2 => ?_)
        · replace c2 := zk_bn c2
          refine zr_iinc C d_O_differencesFrom_116 (n := 119) rfl rfl (w := 1) (by decide) (nI_1 j) (by decide) rfl ?_
          refine zr_goto C d_O_differencesFrom_119 (t := 91) (by decide) ?_
          exact ih (j + 1) _ (by omega) (by rw [zo_dL_1 (f := (fun j => zo_sm O P (t * 12 + j))) (j := j) c2] at hK; exact hK)
        · replace c2 := zk_bz c2
          refine zr_iinc C d_O_differencesFrom_113 (n := 116) rfl rfl (w := 1) (by decide) (nI_1 a) (by decide) rfl ?_
          refine zr_iinc C d_O_differencesFrom_116 (n := 119) rfl rfl (w := 1) (by decide) (nI_1 j) (by decide) rfl ?_
          refine zr_goto C d_O_differencesFrom_119 (t := 91) (by decide) ?_
          exact ih (j + 1) _ (by omega) (by rw [zo_dL_0 (f := (fun j => zo_sm O P (t * 12 + j))) (j := j) c2] at hK; exact hK)
  have L1 : ∀ (n j a : Nat), n + j = 4 → K (some (.int (nI (zo_dL (fun j => zo_sm O P (t * 12 + j)) 12 0 (zo_dL (fun j => zo_sf O P (t * 4 + j)) n j a))))) h → zk_V p l e rm_O_differencesFrom s m ar below meth c 5 D dA b base (MQ below (zk_Q K D dA b base) ar s rm_O_differencesFrom.cells rm_O_differencesFrom.slots (fun q : Nat => base ≤ q)) 0 0 59 [some (.ref (o + 1)), some (.ref (q + 1)), some (.int (nI t)), some (.int (nI a)), some (.int (nI j))] [] h := by
    intro n
    induction n with
    | zero =>
      intro j a hj hK
      rw [zo_dL] at hK
      refine zr_iload C d_O_differencesFrom_59 (n := 61) rfl rfl ?_
      refine zr_iconst C d_O_differencesFrom_61 (n := 62) rfl (v := nI 4) (by decide) ?_
      refine zr_icmp_ge C d_O_differencesFrom_62 (n := 65) rfl (t := 88) (by decide) (fun c1 => ?_) (fun c1 => ?_)
      · refine zr_iconst C d_O_differencesFrom_88 (n := 89) rfl (v := nI 0) (by decide) ?_
        refine zr_istore C d_O_differencesFrom_89 (n := 91) rfl (by decide) rfl ?_
        exact L2 12 0 a rfl hK
      · exact absurd (zk_nle (by omega) (by omega) c1) (by omega)
    | succ n ih =>
      intro j a hj hK
      refine zr_iload C d_O_differencesFrom_59 (n := 61) rfl rfl ?_
      refine zr_iconst C d_O_differencesFrom_61 (n := 62) rfl (v := nI 4) (by decide) ?_
      refine zr_icmp_ge C d_O_differencesFrom_62 (n := 65) rfl (t := 88) (by decide) (fun c1 => ?_) (fun c1 => ?_)
      · exact absurd (zk_le (by omega) (by omega) c1) (by omega)
      · refine zr_aload_n C d_O_differencesFrom_65 (n := 66) rfl rfl ?_
        refine zr_aload_n C d_O_differencesFrom_66 (n := 67) rfl rfl ?_
        refine zr_iload_n C d_O_differencesFrom_67 (n := 68) rfl rfl ?_
        refine zr_iconst C d_O_differencesFrom_68 (n := 69) rfl (v := nI 4) (by decide) ?_
        refine zr_imul C d_O_differencesFrom_69 (n := 70) rfl ?_
        refine zr_iload C d_O_differencesFrom_70 (n := 72) rfl rfl ?_
        refine zr_iadd C d_O_differencesFrom_72 (n := 73) rfl ?_
        refine zr_toe (y := nI (t * 4 + j)) (by simp only [pk_mul, nI_add]) ?_
        refine zr_callV2 C k_O_75 d_O_differencesFrom_73 (nx := 76) rfl ho rfl ⟨by decide, by decide⟩ (by decide) ⟨by decide, by decide⟩ (sp_O_isSameField l hO hP (by omega) ?_)
        refine zr_if_ne C d_O_differencesFrom_76 (n := 79) rfl (t := 82) (by decide) (fun c2 => ?_) (fun c2 => ?_)
        · replace c2 := zk_bn c2
          refine zr_iinc C d_O_differencesFrom_82 (n := 85) rfl rfl (w := 1) (by decide) (nI_1 j) (by decide) rfl ?_
          refine zr_goto C d_O_differencesFrom_85 (t := 59) (by decide) ?_
          exact ih (j + 1) _ (by omega) (by rw [zo_dL_1 (f := (fun j => zo_sf O P (t * 4 + j))) (j := j) c2] at hK; exact hK)
        · replace c2 := zk_bz c2
          refine zr_iinc C d_O_differencesFrom_79 (n := 82) rfl rfl (w := 1) (by decide) (nI_1 a) (by decide) rfl ?_
          refine zr_iinc C d_O_differencesFrom_82 (n := 85) rfl rfl (w := 1) (by decide) (nI_1 j) (by decide) rfl ?_
          refine zr_goto C d_O_differencesFrom_85 (t := 59) (by decide) ?_
          exact ih (j + 1) _ (by omega) (by rw [zo_dL_0 (f := (fun j => zo_sf O P (t * 4 + j))) (j := j) c2] at hK; exact hK)
  refine zr_iconst C d_O_differencesFrom_0 (n := 1) rfl (v := nI 0) (by decide) ?_
  refine zr_istore_n C d_O_differencesFrom_1 (n := 2) rfl (by decide) rfl ?_
  refine zr_aload_n C d_O_differencesFrom_2 (n := 3) rfl rfl ?_
  refine zr_get C f_O_9 d_O_differencesFrom_3 (n := 6) rfl ho rfl ?_
  refine zr_iload_n C d_O_differencesFrom_6 (n := 7) rfl rfl ?_
  refine zr_ialdN C d_O_differencesFrom_7 (n := 8) rfl a0 rfl (by omega) (by decide) ?_
  refine zr_aload_n C d_O_differencesFrom_8 (n := 9) rfl rfl ?_
  refine zr_get C f_O_9 d_O_differencesFrom_9 (n := 12) rfl go rfl ?_
  refine zr_iload_n C d_O_differencesFrom_12 (n := 13) rfl rfl ?_
  refine zr_ialdN C d_O_differencesFrom_13 (n := 14) rfl g0 rfl (by omega) (by decide) ?_
  refine zr_icmp_eq C d_O_differencesFrom_14 (n := 17) rfl (t := 20) (by decide) (fun c1 => ?_) (fun c1 => ?_)
  · refine zr_aload_n C d_O_differencesFrom_20 (n := 21) rfl rfl ?_
    refine zr_get C f_O_15 d_O_differencesFrom_21 (n := 24) rfl ho rfl ?_
    refine zr_iload_n C d_O_differencesFrom_24 (n := 25) rfl rfl ?_
    refine zr_ialdN C d_O_differencesFrom_25 (n := 26) rfl a1 rfl (by omega) (by decide) ?_
    refine zr_aload_n C d_O_differencesFrom_26 (n := 27) rfl rfl ?_
    refine zr_get C f_O_15 d_O_differencesFrom_27 (n := 30) rfl go rfl ?_
    refine zr_iload_n C d_O_differencesFrom_30 (n := 31) rfl rfl ?_
    refine zr_ialdN C d_O_differencesFrom_31 (n := 32) rfl g1 rfl (by omega) (by decide) ?_
    refine zr_icmp_eq C d_O_differencesFrom_32 (n := 35) rfl (t := 38) (by decide) (fun c2 => ?_) (fun c2 => ?_)
    · refine zr_aload_n C d_O_differencesFrom_38 (n := 39) rfl rfl ?_
      refine zr_get C f_O_18 d_O_differencesFrom_39 (n := 42) rfl ho rfl ?_
      refine zr_iload_n C d_O_differencesFrom_42 (n := 43) rfl rfl ?_
      refine zr_ialdN C d_O_differencesFrom_43 (n := 44) rfl a2 rfl (by omega) (by decide) ?_
      refine zr_aload_n C d_O_differencesFrom_44 (n := 45) rfl rfl ?_
      refine zr_get C f_O_18 d_O_differencesFrom_45 (n := 48) rfl go rfl ?_
      refine zr_iload_n C d_O_differencesFrom_48 (n := 49) rfl rfl ?_
      refine zr_ialdN C d_O_differencesFrom_49 (n := 50) rfl g2 rfl (by omega) (by decide) ?_
      refine zr_icmp_eq C d_O_differencesFrom_50 (n := 53) rfl (t := 56) (by decide) (fun c3 => ?_) (fun c3 => ?_)
      · refine zr_iconst C d_O_differencesFrom_56 (n := 57) rfl (v := nI 0) (by decide) ?_
        refine zr_istore C d_O_differencesFrom_57 (n := 59) rfl (by decide) rfl ?_
        exact L1 4 0 _ rfl (by simp only [zo_df, zo_d3, c1, c2, c3, if_true, if_false] at hK; exact hK)
      · refine zr_iinc C d_O_differencesFrom_53 (n := 56) rfl rfl (w := 1) (by decide) (nI_1 _) (by decide) rfl ?_
        refine zr_iconst C d_O_differencesFrom_56 (n := 57) rfl (v := nI 0) (by decide) ?_
        refine zr_istore C d_O_differencesFrom_57 (n := 59) rfl (by decide) rfl ?_
        exact L1 4 0 _ rfl (by simp only [zo_df, zo_d3, c1, c2, c3, if_true, if_false] at hK; exact hK)
    · refine zr_iinc C d_O_differencesFrom_35 (n := 38) rfl rfl (w := 1) (by decide) (nI_1 _) (by decide) rfl ?_
      refine zr_aload_n C d_O_differencesFrom_38 (n := 39) rfl rfl ?_
      refine zr_get C f_O_18 d_O_differencesFrom_39 (n := 42) rfl ho rfl ?_
      refine zr_iload_n C d_O_differencesFrom_42 (n := 43) rfl rfl ?_
      refine zr_ialdN C d_O_differencesFrom_43 (n := 44) rfl a2 rfl (by omega) (by decide) ?_
      refine zr_aload_n C d_O_differencesFrom_44 (n := 45) rfl rfl ?_
      refine zr_get C f_O_18 d_O_differencesFrom_45 (n := 48) rfl go rfl ?_
      refine zr_iload_n C d_O_differencesFrom_48 (n := 49) rfl rfl ?_
      refine zr_ialdN C d_O_differencesFrom_49 (n := 50) rfl g2 rfl (by omega) (by decide) ?_
      refine zr_icmp_eq C d_O_differencesFrom_50 (n := 53) rfl (t := 56) (by decide) (fun c4 => ?_) (fun c4 => ?_)
      · refine zr_iconst C d_O_differencesFrom_56 (n := 57) rfl (v := nI 0) (by decide) ?_
        refine zr_istore C d_O_differencesFrom_57 (n := 59) rfl (by decide) rfl ?_
        exact L1 4 0 _ rfl (by simp only [zo_df, zo_d3, c1, c2, c4, if_true, if_false] at hK; exact hK)
      · refine zr_iinc C d_O_differencesFrom_53 (n := 56) rfl rfl (w := 1) (by decide) (nI_1 _) (by decide) rfl ?_
        refine zr_iconst C d_O_differencesFrom_56 (n := 57) rfl (v := nI 0) (by decide) ?_
        refine zr_istore C d_O_differencesFrom_57 (n := 59) rfl (by decide) rfl ?_
        exact L1 4 0 _ rfl (by simp only [zo_df, zo_d3, c1, c2, c4, if_true, if_false] at hK; exact hK)
  · refine zr_iinc C d_O_differencesFrom_17 (n := 20) rfl rfl (w := 1) (by decide) (nI_1 _) (by decide) rfl ?_
    refine zr_aload_n C d_O_differencesFrom_20 (n := 21) rfl rfl ?_
    refine zr_get C f_O_15 d_O_differencesFrom_21 (n := 24) rfl ho rfl ?_
    refine zr_iload_n C d_O_differencesFrom_24 (n := 25) rfl rfl ?_
    refine zr_ialdN C d_O_differencesFrom_25 (n := 26) rfl a1 rfl (by omega) (by decide) ?_
    refine zr_aload_n C d_O_differencesFrom_26 (n := 27) rfl rfl ?_
    refine zr_get C f_O_15 d_O_differencesFrom_27 (n := 30) rfl go rfl ?_
    refine zr_iload_n C d_O_differencesFrom_30 (n := 31) rfl rfl ?_
    refine zr_ialdN C d_O_differencesFrom_31 (n := 32) rfl g1 rfl (by omega) (by decide) ?_
    refine zr_icmp_eq C d_O_differencesFrom_32 (n := 35) rfl (t := 38) (by decide) (fun c5 => ?_) (fun c5 => ?_)
    · refine zr_aload_n C d_O_differencesFrom_38 (n := 39) rfl rfl ?_
      refine zr_get C f_O_18 d_O_differencesFrom_39 (n := 42) rfl ho rfl ?_
      refine zr_iload_n C d_O_differencesFrom_42 (n := 43) rfl rfl ?_
      refine zr_ialdN C d_O_differencesFrom_43 (n := 44) rfl a2 rfl (by omega) (by decide) ?_
      refine zr_aload_n C d_O_differencesFrom_44 (n := 45) rfl rfl ?_
      refine zr_get C f_O_18 d_O_differencesFrom_45 (n := 48) rfl go rfl ?_
      refine zr_iload_n C d_O_differencesFrom_48 (n := 49) rfl rfl ?_
      refine zr_ialdN C d_O_differencesFrom_49 (n := 50) rfl g2 rfl (by omega) (by decide) ?_
      refine zr_icmp_eq C d_O_differencesFrom_50 (n := 53) rfl (t := 56) (by decide) (fun c6 => ?_) (fun c6 => ?_)
      · refine zr_iconst C d_O_differencesFrom_56 (n := 57) rfl (v := nI 0) (by decide) ?_
        refine zr_istore C d_O_differencesFrom_57 (n := 59) rfl (by decide) rfl ?_
        exact L1 4 0 _ rfl (by simp only [zo_df, zo_d3, c1, c5, c6, if_true, if_false] at hK; exact hK)
      · refine zr_iinc C d_O_differencesFrom_53 (n := 56) rfl rfl (w := 1) (by decide) (nI_1 _) (by decide) rfl ?_
        refine zr_iconst C d_O_differencesFrom_56 (n := 57) rfl (v := nI 0) (by decide) ?_
        refine zr_istore C d_O_differencesFrom_57 (n := 59) rfl (by decide) rfl ?_
        exact L1 4 0 _ rfl (by simp only [zo_df, zo_d3, c1, c5, c6, if_true, if_false] at hK; exact hK)
    · refine zr_iinc C d_O_differencesFrom_35 (n := 38) rfl rfl (w := 1) (by decide) (nI_1 _) (by decide) rfl ?_
      refine zr_aload_n C d_O_differencesFrom_38 (n := 39) rfl rfl ?_
      refine zr_get C f_O_18 d_O_differencesFrom_39 (n := 42) rfl ho rfl ?_
      refine zr_iload_n C d_O_differencesFrom_42 (n := 43) rfl rfl ?_
      refine zr_ialdN C d_O_differencesFrom_43 (n := 44) rfl a2 rfl (by omega) (by decide) ?_
      refine zr_aload_n C d_O_differencesFrom_44 (n := 45) rfl rfl ?_
      refine zr_get C f_O_18 d_O_differencesFrom_45 (n := 48) rfl go rfl ?_
      refine zr_iload_n C d_O_differencesFrom_48 (n := 49) rfl rfl ?_
      refine zr_ialdN C d_O_differencesFrom_49 (n := 50) rfl g2 rfl (by omega) (by decide) ?_
      refine zr_icmp_eq C d_O_differencesFrom_50 (n := 53) rfl (t := 56) (by decide) (fun c7 => ?_) (fun c7 => ?_)
      · refine zr_iconst C d_O_differencesFrom_56 (n := 57) rfl (v := nI 0) (by decide) ?_
        refine zr_istore C d_O_differencesFrom_57 (n := 59) rfl (by decide) rfl ?_
        exact L1 4 0 _ rfl (by simp only [zo_df, zo_d3, c1, c5, c7, if_true, if_false] at hK; exact hK)
      · refine zr_iinc C d_O_differencesFrom_53 (n := 56) rfl rfl (w := 1) (by decide) (nI_1 _) (by decide) rfl ?_
        refine zr_iconst C d_O_differencesFrom_56 (n := 57) rfl (v := nI 0) (by decide) ?_
        refine zr_istore C d_O_differencesFrom_57 (n := 59) rfl (by decide) rfl ?_
        exact L1 4 0 _ rfl (by simp only [zo_df, zo_d3, c1, c5, c7, if_true, if_false] at hK; exact hK)
