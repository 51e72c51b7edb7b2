abbrev rm_A_init : Room := { frames := 2, cells := 37, slots := 582, locals := 41 }
theorem zk_ao : Cond.arrayOver (.object "ApiCompare$Use") ∈ zk_tb := zk_mem 93 (by decide +kernel) rfl
theorem zk_cl19 : Cond.classLink R_A 19 "ApiCompare$Use" ∈ zk_tb := zk_mem 92 (by decide +kernel) rfl
def zo_i2 (h : zk_H) (o : Nat) : Prop := ∃ O, zo_at h o O ∧ zo_ini O
theorem zo_i2_k {h h' : zk_H} {o : Nat} (hO : zo_i2 h o) (hk : ∀ j, o ≤ j → j ≤ o + 8 → h'[j]? = h[j]?) : zo_i2 h' o := by
  obtain ⟨O, h1, h2⟩ := hO
  exact ⟨O, zo_at_kept h1 hk, h2⟩
set_option maxHeartbeats 4000000 in
set_option maxRecDepth 100000 in
/-- ApiCompare() -/
theorem sp_A_init (l : Launch) {h : zk_H} (hn : h.length = 1) (hob : h[0]? = some (.inr (3, [.null, .null, .null, .int 0, .null, .null]))) {K : Option Value → zk_H → Prop} (hK : ∀ (h' : zk_H) (V : Nat → zo_O), h'.length = 38 → zc_at h' V (fun _ => 0) (fun _ => 0) (fun _ => 0) (fun _ => 0) 0 (fun _ => 0) (fun _ => 0) → zo_ini (V 0) → zo_ini (V 1) → K none h') : zk_S l y_A_init b_A_init 2 none rm_A_init [.ref (0 + 1)] h K := by
  refine zk_S_of R_A "<init>" (by decide) rfl rfl [some (.ref (0 + 1)), none] 1 rfl (Nat.le_of_ble_eq_true rfl) (fun p e s m ar below meth c D dA b base C => ?_)
  have J62 : ∀ (h1 : zk_H) (fu : Nat → Option Nat), h1.length = 36 → h1[0]? = some (.inr (3, [.ref 2, .ref 11, .ref 20, .int 0, .null, .null])) → zo_i2 h1 1 → zo_i2 h1 10 → h1[19]? = some (.inl (1, 16, .inr (.inr (.inr (.inr fu))))) → (∀ j, j < 16 → fu j = some (j + 20 + 1)) → (∀ j, j < 16 → h1[j + 20]? = some (zu_c 0 0 0 0)) → zk_V p l e rm_A_init s m ar below meth c 2 D dA b base (MQ below (zk_Q K D dA b base) ar s rm_A_init.cells rm_A_init.slots (fun q : Nat => base ≤ q)) 35 564 62 [some (.ref (0 + 1)), some (.int (nI 16))] [] h1 := by
    intro h1 fu hl ho hO0 hO1 hf hfu hus
    refine zr_aload_n C d_A_init_62 (n := 63) rfl rfl ?_
    refine zr_iconst C d_A_init_63 (n := 64) rfl (v := 0) (by decide) ?_
    refine zr_put C f_A_26 Y_A rfl rfl d_A_init_64 (n := 67) rfl ho (Nat.le_of_ble_eq_true rfl) (fun _ _ => rfl) (fun _ _ => rfl) ?_
    rw [show [Value.ref 2, .ref 11, .ref 20, .int 0, .null, .null].set 3 (.int 0) = [Value.ref 2, .ref 11, .ref 20, .int 0, .null, .null] from rfl, zk_ss ho]
    refine zr_aload_n C d_A_init_67 (n := 68) rfl rfl ?_
    refine zr_new C n_A_30 Y_B d_A_init_68 (n := 71) rfl [.int 0, .int 0, .int 0, .int 0, .int 0, .int 0, .int 0, .int 0, .int 0] (by decide) (fun _ _ => rfl) 36 hl (by decide) (by decide) ?_
    refine zr_dup C d_A_init_71 (n := 72) rfl rfl ?_
    refine zr_callIN0 C k_A_32 d_A_init_72 (nx := 75) rfl ⟨by decide, by decide⟩ (Nat.le_of_ble_eq_true rfl) ⟨by decide, by decide⟩ (sp_B_init l ?_)
    refine zr_putF C f_A_33 Y_A rfl rfl rfl rfl d_A_init_75 (n := 78) rfl (zk_ap ho) (Nat.le_of_ble_eq_true rfl) (fun _ _ => rfl) (fun _ _ => rfl) ?_
    refine zr_aload_n C d_A_init_78 (n := 79) rfl rfl ?_
    refine zr_new C n_A_30 Y_B d_A_init_79 (n := 82) rfl [.int 0, .int 0, .int 0, .int 0, .int 0, .int 0, .int 0, .int 0, .int 0] (by decide) (fun _ _ => rfl) 37 (by simp [hl]) (by decide) (by decide) ?_
    refine zr_dup C d_A_init_82 (n := 83) rfl rfl ?_
    refine zr_callIN0 C k_A_32 d_A_init_83 (nx := 86) rfl ⟨by decide, by decide⟩ (Nat.le_of_ble_eq_true rfl) ⟨by decide, by decide⟩ (sp_B_init l ?_)
    refine zr_putF C f_A_37 Y_A rfl rfl rfl rfl d_A_init_86 (n := 89) rfl (zk_ap (zk_g0 (zk_ap ho))) (Nat.le_of_ble_eq_true rfl) (fun _ _ => rfl) (fun _ _ => rfl) ?_
    obtain ⟨O0, q0, i0⟩ := hO0
    obtain ⟨O1, q1, i1⟩ := hO1
    have kp : ∀ j, 0 < j → j < 36 → ∀ x y z w : zk_E, ((((h1 ++ [x]).set 0 y) ++ [z]).set 0 w)[j]? = h1[j]? := fun j h0 hj x y z w => by
      rw [zk_gs (by omega), zk_al (n := 37) (by simp [hl]) (by omega), zk_gs (by omega), zk_al hl hj]
    refine zr_vret C d_A_init_89 (hK _ (fun v => if v = 0 then O0 else O1) (by simp [hl]) ⟨zk_g0 (zk_ap (zk_g0 (zk_ap ho))), zo_at_kept q0 (fun j a b => kp j (by omega) (by omega) _ _ _ _), zo_at_kept q1 (fun j a b => kp j (by omega) (by omega) _ _ _ _), ⟨fu, (kp 19 (by omega) (by omega) _ _ _ _).trans hf, hfu⟩, fun j hj => (kp (j + 20) (by omega) (by omega) _ _ _ _).trans (hus j hj), zk_g1 (by omega) (zk_ap (zk_g1 (by omega) (zk_aq hl))), zk_g1 (by omega) (zk_aq (by simp [hl]))⟩ i0 i1) (by decide) (by decide)
  have L37 : ∀ (q i : Nat) (h1 : zk_H) (fu : Nat → Option Nat), q + i = 16 → h1.length = i + 20 → h1[0]? = some (.inr (3, [.ref 2, .ref 11, .ref 20, .int 0, .null, .null])) → zo_i2 h1 1 → zo_i2 h1 10 → h1[19]? = some (.inl (1, 16, .inr (.inr (.inr (.inr fu))))) → (∀ j, j < i → fu j = some (j + 20 + 1)) → (∀ j, j < i → h1[j + 20]? = some (zu_c 0 0 0 0)) → zk_V p l e rm_A_init s m ar below meth c 2 D dA b base (MQ below (zk_Q K D dA b base) ar s rm_A_init.cells rm_A_init.slots (fun q : Nat => base ≤ q)) (19 + i) (500 + 4 * i) 37 [some (.ref (0 + 1)), some (.int (nI i))] [] h1 := by
    intro q
    induction q with
    | zero =>
      intro i h1 fu hq hl ho hO0 hO1 hf hfu hus
      have hi : i = 16 := by omega
      subst hi
      refine zr_iload_n C d_A_init_37 (n := 38) rfl rfl ?_
      refine zr_bipush C d_A_init_38 (n := 40) rfl (v := nI 16) (by decide) ?_
      refine zr_icmp_ge C d_A_init_40 (n := 43) rfl (t := 62) (by decide) (fun c1 => ?_) (fun c1 => ?_)
      · exact zr_kc 35 564 rfl rfl (J62 h1 fu hl ho hO0 hO1 hf hfu hus)
      · exact absurd (by decide) c1
    | succ q ih =>
      intro i h1 fu hq hl ho hO0 hO1 hf hfu hus
      refine zr_iload_n C d_A_init_37 (n := 38) rfl rfl ?_
      refine zr_bipush C d_A_init_38 (n := 40) rfl (v := nI 16) (by decide) ?_
      refine zr_icmp_ge C d_A_init_40 (n := 43) rfl (t := 62) (by decide) (fun c1 => ?_) (fun c1 => ?_)
      · exact absurd (zk_le (by omega) (by omega) c1) (by omega)
      · refine zr_aload_n C d_A_init_43 (n := 44) rfl rfl ?_
        refine zr_get C f_A_21 d_A_init_44 (n := 47) rfl ho rfl ?_
        refine zr_iload_n C d_A_init_47 (n := 48) rfl rfl ?_
        refine zr_new C n_A_19 Y_U d_A_init_48 (n := 51) rfl [.int 0, .int 0, .int 0, .int 0] (by decide) (fun _ _ => rfl) (i + 20) hl (by show _ ≤ 37; omega) (by show _ ≤ 582; omega) ?_
        refine zr_dup C d_A_init_51 (n := 52) rfl rfl ?_
        refine zr_callIN0 C k_A_25 d_A_init_52 (nx := 55) rfl ⟨by decide, by decide⟩ (Nat.le_of_ble_eq_true rfl) ⟨by show _ ≤ 37; show 19 + i + 1 + 0 ≤ 37; omega, by show _ ≤ 582; show 500 + 4 * i + 4 + 0 ≤ 582; omega⟩ (sp_U_init l ?_)
        refine zr_aast C d_A_init_55 (n := 56) rfl (t := 1) (ci := 2) (E := (R_U, T_U, 4)) rfl rfl (zk_ap hf) (zk_aq hl) (vp_in_nI (by omega) (by decide)) ?_
        rw [nI_clamp (by omega)]
        refine zr_iinc C d_A_init_56 (n := 59) rfl rfl (w := 1) (by decide) (nI_1 i) (by decide) rfl ?_
        refine zr_goto C d_A_init_59 (t := 37) (by decide) ?_
        refine zr_kc (19 + (i + 1)) (500 + 4 * (i + 1)) (by show 19 + i + 1 + 0 = _; omega) (by show 500 + 4 * i + 4 + 0 = _; omega) ?_
        have kp : ∀ j, j < i + 20 → j ≠ 19 → ∀ x y : zk_E, ((h1 ++ [x]).set 19 y)[j]? = h1[j]? := fun j hj hne x y => by
          rw [zk_gs (by omega), zk_al hl hj]
        refine ih (i + 1) _ _ (by omega) (by simp only [List.length_set, List.length_append, hl, List.length_cons, List.length_nil]; first | done | omega) ((kp 0 (by omega) (by omega) _ _).trans ho) (zo_i2_k hO0 (fun j a b => kp j (by omega) (by omega) _ _)) (zo_i2_k hO1 (fun j a b => kp j (by omega) (by omega) _ _)) (zk_g0 (zk_ap hf)) (fun j hj => ?_) (fun j hj => ?_)
        · by_cases hji : j = i
          · subst hji; exact va_up_self ..
          · rw [show va_up fu i (some (i + 20 + 1)) j = fu j from if_neg hji]; exact hfu j (by omega)
        · by_cases hji : j = i
          · subst hji; exact zk_g1 (by omega) (zk_aq hl)
          · exact (kp (j + 20) (by omega) (by omega) _ _).trans (hus j (by omega))
  refine zr_aload_n C d_A_init_0 (n := 1) rfl rfl ?_
  refine zr_objInit C o_A_3 d_A_init_1 (n := 4) rfl (by decide) (by decide) ?_
  refine zr_aload_n C d_A_init_4 (n := 5) rfl rfl ?_
  refine zr_new C n_A_9 Y_O d_A_init_5 (n := 8) rfl [.null, .null, .null, .null, .null, .null, .null, .null] (by decide) (fun _ _ => rfl) 1 hn (by decide) (by decide) ?_
  refine zr_dup C d_A_init_8 (n := 9) rfl rfl ?_
  refine zr_callI0 C k_A_11 d_A_init_9 (nx := 12) rfl ⟨by decide, by decide⟩ (Nat.le_of_ble_eq_true rfl) ⟨by decide, by decide⟩ (sp_O_init l (n := 1) (by simp [hn]) (zk_aq hn) (fun h1 O1 hl1 hp1 hO1 hi1 => ?_))
  have ho1 : h1[0]? = some (.inr (3, [.null, .null, .null, .int 0, .null, .null])) := (hp1 0 (by omega)).trans (zk_ap hob)
  refine zr_putF C f_A_12 Y_A rfl rfl rfl rfl d_A_init_12 (n := 15) rfl ho1 (Nat.le_of_ble_eq_true rfl) (fun _ _ => rfl) (fun _ _ => rfl) ?_
  refine zr_aload_n C d_A_init_15 (n := 16) rfl rfl ?_
  refine zr_new C n_A_9 Y_O d_A_init_16 (n := 19) rfl [.null, .null, .null, .null, .null, .null, .null, .null] (by decide) (fun _ _ => rfl) 10 (by simp [hl1]) (by decide) (by decide) ?_
  refine zr_dup C d_A_init_19 (n := 20) rfl rfl ?_
  refine zr_callI0 C k_A_11 d_A_init_20 (nx := 23) rfl ⟨by decide, by decide⟩ (Nat.le_of_ble_eq_true rfl) ⟨by decide, by decide⟩ (sp_O_init l (n := 10) (by simp [hl1]) (zk_aq (by simp [hl1])) (fun h2 O2 hl2 hp2 hO2 hi2 => ?_))
  have ho2 : h2[0]? = some (.inr (3, [.ref 2, .null, .null, .int 0, .null, .null])) := (hp2 0 (by omega)).trans (zk_ap (zk_g0 ho1))
  have hO1' : zo_at h2 1 O1 := zo_at_kept hO1 (fun j a b => (hp2 j (by omega)).trans ((zk_al (n := 10) (by simp [hl1]) (by omega)).trans (zk_gs (by omega))))
  refine zr_putF C f_A_16 Y_A rfl rfl rfl rfl d_A_init_23 (n := 26) rfl ho2 (Nat.le_of_ble_eq_true rfl) (fun _ _ => rfl) (fun _ _ => rfl) ?_
  refine zr_aload_n C d_A_init_26 (n := 27) rfl rfl ?_
  refine zr_bipush C d_A_init_27 (n := 29) rfl (v := nI 16) (by decide) ?_
  refine zr_newq C (t := 1) rfl zk_cl19 zk_ao d_A_init_29 (n := 32) rfl (len := 16) (by decide) (by decide) (by decide) 19 (by simp [hl2]) (by decide) (by decide) ?_
  refine zr_putF C f_A_21 Y_A rfl rfl rfl rfl d_A_init_32 (n := 35) rfl (zk_ap (zk_g0 ho2)) (Nat.le_of_ble_eq_true rfl) (fun _ _ => rfl) (fun _ _ => rfl) ?_
  refine zr_iconst C d_A_init_35 (n := 36) rfl (v := nI 0) (by decide) ?_
  refine zr_istore_n C d_A_init_36 (n := 37) rfl (by decide) rfl ?_
  have kp : ∀ j, 0 < j → j < 19 → ∀ x y z : zk_E, (((h2.set 0 x) ++ [y]).set 0 z)[j]? = h2[j]? := fun j h0 hj x y z => by
    rw [zk_gs (by omega), zk_al (n := 19) (by simp [hl2]) hj, zk_gs (by omega)]
  refine zr_kc (19 + 0) (500 + 4 * 0) rfl rfl ?_
  exact L37 16 0 _ _ rfl (by simp [hl2]) (zk_g0 (zk_ap (zk_g0 ho2))) ⟨O1, zo_at_kept hO1' (fun j a b => kp j (by omega) (by omega) _ _ _), hi1⟩ ⟨O2, zo_at_kept hO2 (fun j a b => kp j (by omega) (by omega) _ _ _), hi2⟩ (zk_g1 (by omega) (zk_aq (by simp [hl2]))) (fun j hj => absurd hj (by omega)) (fun j hj => absurd hj (by omega))
