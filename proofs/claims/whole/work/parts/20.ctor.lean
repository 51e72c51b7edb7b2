theorem zk_ci : Cond.arrayClass .int ∈ zk_tb := zk_mem 91 (by decide +kernel) rfl
theorem zk_cz : Cond.arrayClass .boolean ∈ zk_tb := zk_mem 484 (by decide +kernel) rfl
theorem zk_ap {h : zk_H} {j : Nat} {x : zk_E} {l : zk_H} (hh : h[j]? = some x) : (h ++ l)[j]? = some x := by
  rw [List.getElem?_append_left (List.getElem?_eq_some_iff.mp hh).1]
  exact hh
theorem zk_aq {h : zk_H} {n : Nat} {x : zk_E} (hh : h.length = n) : (h ++ [x])[n]? = some x := by
  subst hh
  simp
theorem zk_al {h : zk_H} {n j : Nat} {l : zk_H} (hh : h.length = n) (hj : j < n) : (h ++ l)[j]? = h[j]? := List.getElem?_append_left (by omega)
def zo_w (O : zo_O) (a : Nat) (f : Nat → Int32) : zo_O := fun b => if b = a then f else O b
def zo_ini (O : zo_O) : Prop := (∀ t, t < 6 → O 0 t = -1 ∧ O 1 t = nI 6 ∧ O 2 t = nI 0) ∧ (∀ j, j < 24 → O 3 j = -1) ∧ (∀ j, j < 72 → O 6 j = -1)
theorem zr_kc {p : Program} {l : Launch} {e : Env} {R : Room} {s : State} {m : MethodId} {args : Array Value} {below : List Frame} {meth : Method} {c : Code} {nL : Nat} {D : va_G} {dA : Nat → ClassId} {b base : Nat} {Q : State → Prop} {kc ks pc : Nat} {ll : List (Option Value)} {st : List Value} {h : zk_H} (kc2 ks2 : Nat) (h1 : kc = kc2) (h2 : ks = ks2) (k : zk_V p l e R s m args below meth c nL D dA b base Q kc2 ks2 pc ll st h) : zk_V p l e R s m args below meth c nL D dA b base Q kc ks pc ll st h := by
  subst h1
  subst h2
  exact k
theorem zo_at_w0 {h : zk_H} {o : Nat} {O : zo_O} {f : Nat → Int32} (hO : zo_at h o O) : zo_at (h.set (o + 1) (.inl (0, 6, .inl f))) o (zo_w O 0 f) := by
  obtain ⟨ho, a0, a1, a2, a3, a4, a5, a6, a7⟩ := hO
  exact ⟨zk_g1 (by omega) ho, zk_g0 a0, zk_g1 (by omega) a1, zk_g1 (by omega) a2, zk_g1 (by omega) a3, zk_g1 (by omega) a4, zk_g1 (by omega) a5, zk_g1 (by omega) a6, zk_g1 (by omega) a7⟩
theorem zo_at_w1 {h : zk_H} {o : Nat} {O : zo_O} {f : Nat → Int32} (hO : zo_at h o O) : zo_at (h.set (o + 2) (.inl (0, 6, .inl f))) o (zo_w O 1 f) := by
  obtain ⟨ho, a0, a1, a2, a3, a4, a5, a6, a7⟩ := hO
  exact ⟨zk_g1 (by omega) ho, zk_g1 (by omega) a0, zk_g0 a1, zk_g1 (by omega) a2, zk_g1 (by omega) a3, zk_g1 (by omega) a4, zk_g1 (by omega) a5, zk_g1 (by omega) a6, zk_g1 (by omega) a7⟩
theorem zo_at_w3 {h : zk_H} {o : Nat} {O : zo_O} {f : Nat → Int32} (hO : zo_at h o O) : zo_at (h.set (o + 4) (.inl (0, 24, .inl f))) o (zo_w O 3 f) := by
  obtain ⟨ho, a0, a1, a2, a3, a4, a5, a6, a7⟩ := hO
  exact ⟨zk_g1 (by omega) ho, zk_g1 (by omega) a0, zk_g1 (by omega) a1, zk_g1 (by omega) a2, zk_g0 a3, zk_g1 (by omega) a4, zk_g1 (by omega) a5, zk_g1 (by omega) a6, zk_g1 (by omega) a7⟩
theorem zo_at_w6 {h : zk_H} {o : Nat} {O : zo_O} {f : Nat → Int32} (hO : zo_at h o O) : zo_at (h.set (o + 7) (.inl (0, 72, .inl f))) o (zo_w O 6 f) := by
  obtain ⟨ho, a0, a1, a2, a3, a4, a5, a6, a7⟩ := hO
  exact ⟨zk_g1 (by omega) ho, zk_g1 (by omega) a0, zk_g1 (by omega) a1, zk_g1 (by omega) a2, zk_g1 (by omega) a3, zk_g1 (by omega) a4, zk_g1 (by omega) a5, zk_g0 a6, zk_g1 (by omega) a7⟩
abbrev rm_O_init : Room := { frames := 1, cells := 8, slots := 234, locals := 20 }
theorem zk_lts {f : Nat → Int32} {j : Nat} {x : Int32} (h : ∀ i, i < j → f i = x) {i : Nat} (hi : i < j + 1) : upd f j x i = x := by
  by_cases q : i = j
  · subst q; exact pk_us
  · rw [pk_un q]; exact h i (by omega)
set_option maxHeartbeats 4000000 in
set_option maxRecDepth 100000 in
/-- Offer() -/
theorem sp_O_init (l : Launch) {h : zk_H} {n : Nat} (hn : h.length = n + 1) (hob : h[n]? = some (.inr (1, [.null, .null, .null, .null, .null, .null, .null, .null]))) {K : Option Value → zk_H → Prop} (hK : ∀ (h' : zk_H) (O : zo_O), h'.length = n + 9 → (∀ j, j < n → h'[j]? = h[j]?) → zo_at h' n O → zo_ini O → K none h') : zk_S l y_O_init b_O_init 2 none rm_O_init [.ref (n + 1)] h K := by
  refine zk_S_of R_O "<init>" (by decide) rfl rfl [some (.ref (n + 1)), none] 1 rfl (Nat.le_of_ble_eq_true rfl) (fun p e s m ar below meth c D dA b base C => ?_)
  have L3 : ∀ (q j : Nat) (h1 : zk_H) (O : zo_O), q + j = 72 → h1.length = n + 9 → (∀ j, j < n → h1[j]? = h[j]?) → zo_at h1 n O → (∀ t, t < 6 → O 0 t = -1 ∧ O 1 t = nI 6 ∧ O 2 t = nI 0) → (∀ i, i < 24 → O 3 i = -1) → (∀ i, i < j → O 6 i = -1) → zk_V p l e rm_O_init s m ar below meth c 2 D dA b base (MQ below (zk_Q K D dA b base) ar s rm_O_init.cells rm_O_init.slots (fun q : Nat => base ≤ q)) 8 234 123 [some (.ref (n + 1)), some (.int (nI j))] [] h1 := by
    intro q
    induction q with
    | zero =>
      intro j h1 O hq hl hp hO i0 i3 i6
      obtain ⟨ho, a0, a1, a2, a3, a4, a5, a6, a7⟩ := id hO
      refine zr_iload_n C d_O_init_123 (n := 124) rfl rfl ?_
      refine zr_aload_n C d_O_init_124 (n := 125) rfl rfl ?_
      refine zr_get C f_O_30 d_O_init_125 (n := 128) rfl ho rfl ?_
      refine zr_alen C d_O_init_128 (n := 129) rfl a6 (v := nI 72) rfl ?_
      refine zr_icmp_ge C d_O_init_129 (n := 132) rfl (t := 145) (by decide) (fun c1 => ?_) (fun c1 => ?_)
      · exact zr_vret C d_O_init_145 (hK h1 O hl hp hO ⟨i0, i3, fun i hi => i6 i (by omega)⟩) (by decide) (by decide)
      · exact absurd (zk_nle (by omega) (by omega) c1) (by omega)
    | succ q ih =>
      intro j h1 O hq hl hp hO i0 i3 i6
      obtain ⟨ho, a0, a1, a2, a3, a4, a5, a6, a7⟩ := id hO
      refine zr_iload_n C d_O_init_123 (n := 124) rfl rfl ?_
      refine zr_aload_n C d_O_init_124 (n := 125) rfl rfl ?_
      refine zr_get C f_O_30 d_O_init_125 (n := 128) rfl ho rfl ?_
      refine zr_alen C d_O_init_128 (n := 129) rfl a6 (v := nI 72) rfl ?_
      refine zr_icmp_ge C d_O_init_129 (n := 132) rfl (t := 145) (by decide) (fun c1 => ?_) (fun c1 => ?_)
      · exact absurd (zk_le (by omega) (by omega) c1) (by omega)
      · refine zr_aload_n C d_O_init_132 (n := 133) rfl rfl ?_
        refine zr_get C f_O_30 d_O_init_133 (n := 136) rfl ho rfl ?_
        refine zr_iload_n C d_O_init_136 (n := 137) rfl rfl ?_
        refine zr_iconst C d_O_init_137 (n := 138) rfl (v := -1) (by decide) ?_
        refine zr_iastN C d_O_init_138 (n := 139) rfl a6 rfl (by omega) (by decide) ?_
        refine zr_iinc C d_O_init_139 (n := 142) rfl rfl (w := 1) (by decide) (nI_1 j) (by decide) rfl ?_
        refine zr_goto C d_O_init_142 (t := 123) (by decide) ?_
        exact ih (j + 1) _ _ (by omega) (by simp only [List.length_set]; exact hl) (fun i hi => (zk_gs (by omega)).trans (hp i hi)) (zo_at_w6 hO) i0 i3 (fun i hi => zk_lts (f := O 6) i6 hi)
  have L2 : ∀ (q j : Nat) (h1 : zk_H) (O : zo_O), q + j = 24 → h1.length = n + 9 → (∀ j, j < n → h1[j]? = h[j]?) → zo_at h1 n O → (∀ t, t < 6 → O 0 t = -1 ∧ O 1 t = nI 6 ∧ O 2 t = nI 0) → (∀ i, i < j → O 3 i = -1) → zk_V p l e rm_O_init s m ar below meth c 2 D dA b base (MQ below (zk_Q K D dA b base) ar s rm_O_init.cells rm_O_init.slots (fun q : Nat => base ≤ q)) 8 234 99 [some (.ref (n + 1)), some (.int (nI j))] [] h1 := by
    intro q
    induction q with
    | zero =>
      intro j h1 O hq hl hp hO i0 i3
      obtain ⟨ho, a0, a1, a2, a3, a4, a5, a6, a7⟩ := id hO
      refine zr_iload_n C d_O_init_99 (n := 100) rfl rfl ?_
      refine zr_aload_n C d_O_init_100 (n := 101) rfl rfl ?_
      refine zr_get C f_O_21 d_O_init_101 (n := 104) rfl ho rfl ?_
      refine zr_alen C d_O_init_104 (n := 105) rfl a3 (v := nI 24) rfl ?_
      refine zr_icmp_ge C d_O_init_105 (n := 108) rfl (t := 121) (by decide) (fun c1 => ?_) (fun c1 => ?_)
      · refine zr_iconst C d_O_init_121 (n := 122) rfl (v := nI 0) (by decide) ?_
        refine zr_istore_n C d_O_init_122 (n := 123) rfl (by decide) rfl ?_
        exact L3 72 0 h1 O rfl hl hp hO i0 (fun i hi => i3 i (by omega)) (fun i hi => absurd hi (by omega))
      · exact absurd (zk_nle (by omega) (by omega) c1) (by omega)
    | succ q ih =>
      intro j h1 O hq hl hp hO i0 i3
      obtain ⟨ho, a0, a1, a2, a3, a4, a5, a6, a7⟩ := id hO
      refine zr_iload_n C d_O_init_99 (n := 100) rfl rfl ?_
      refine zr_aload_n C d_O_init_100 (n := 101) rfl rfl ?_
      refine zr_get C f_O_21 d_O_init_101 (n := 104) rfl ho rfl ?_
      refine zr_alen C d_O_init_104 (n := 105) rfl a3 (v := nI 24) rfl ?_
      refine zr_icmp_ge C d_O_init_105 (n := 108) rfl (t := 121) (by decide) (fun c1 => ?_) (fun c1 => ?_)
      · exact absurd (zk_le (by omega) (by omega) c1) (by omega)
      · refine zr_aload_n C d_O_init_108 (n := 109) rfl rfl ?_
        refine zr_get C f_O_21 d_O_init_109 (n := 112) rfl ho rfl ?_
        refine zr_iload_n C d_O_init_112 (n := 113) rfl rfl ?_
        refine zr_iconst C d_O_init_113 (n := 114) rfl (v := -1) (by decide) ?_
        refine zr_iastN C d_O_init_114 (n := 115) rfl a3 rfl (by omega) (by decide) ?_
        refine zr_iinc C d_O_init_115 (n := 118) rfl rfl (w := 1) (by decide) (nI_1 j) (by decide) rfl ?_
        refine zr_goto C d_O_init_118 (t := 99) (by decide) ?_
        exact ih (j + 1) _ _ (by omega) (by simp only [List.length_set]; exact hl) (fun i hi => (zk_gs (by omega)).trans (hp i hi)) (zo_at_w3 hO) i0 (fun i hi => zk_lts (f := O 3) i3 hi)
  have L1 : ∀ (q j : Nat) (h1 : zk_H) (O : zo_O), q + j = 6 → h1.length = n + 9 → (∀ j, j < n → h1[j]? = h[j]?) → zo_at h1 n O → (∀ i, i < j → O 0 i = -1 ∧ O 1 i = nI 6) → (∀ t, t < 6 → O 2 t = nI 0) → zk_V p l e rm_O_init s m ar below meth c 2 D dA b base (MQ below (zk_Q K D dA b base) ar s rm_O_init.cells rm_O_init.slots (fun q : Nat => base ≤ q)) 8 234 70 [some (.ref (n + 1)), some (.int (nI j))] [] h1 := by
    intro q
    induction q with
    | zero =>
      intro j h1 O hq hl hp hO i0 i2
      obtain ⟨ho, a0, a1, a2, a3, a4, a5, a6, a7⟩ := id hO
      refine zr_iload_n C d_O_init_70 (n := 71) rfl rfl ?_
      refine zr_bipush C d_O_init_71 (n := 73) rfl (v := nI 6) (by decide) ?_
      refine zr_icmp_ge C d_O_init_73 (n := 76) rfl (t := 97) (by decide) (fun c1 => ?_) (fun c1 => ?_)
      · refine zr_iconst C d_O_init_97 (n := 98) rfl (v := nI 0) (by decide) ?_
        refine zr_istore_n C d_O_init_98 (n := 99) rfl (by decide) rfl ?_
        exact L2 24 0 h1 O rfl hl hp hO (fun t ht => ⟨(i0 t (by omega)).1, (i0 t (by omega)).2, i2 t ht⟩) (fun i hi => absurd hi (by omega))
      · exact absurd (zk_nle (by omega) (by omega) c1) (by omega)
    | succ q ih =>
      intro j h1 O hq hl hp hO i0 i2
      obtain ⟨ho, a0, a1, a2, a3, a4, a5, a6, a7⟩ := id hO
      refine zr_iload_n C d_O_init_70 (n := 71) rfl rfl ?_
      refine zr_bipush C d_O_init_71 (n := 73) rfl (v := nI 6) (by decide) ?_
      refine zr_icmp_ge C d_O_init_73 (n := 76) rfl (t := 97) (by decide) (fun c1 => ?_) (fun c1 => ?_)
      · exact absurd (zk_le (by omega) (by omega) c1) (by omega)
      · refine zr_aload_n C d_O_init_76 (n := 77) rfl rfl ?_
        refine zr_get C f_O_9 d_O_init_77 (n := 80) rfl ho rfl ?_
        refine zr_iload_n C d_O_init_80 (n := 81) rfl rfl ?_
        refine zr_iconst C d_O_init_81 (n := 82) rfl (v := -1) (by decide) ?_
        refine zr_iastN C d_O_init_82 (n := 83) rfl a0 rfl (by omega) (by decide) ?_
        refine zr_aload_n C d_O_init_83 (n := 84) rfl rfl ?_
        refine zr_get C f_O_15 d_O_init_84 (n := 87) rfl (zk_g1 (by omega) ho) rfl ?_
        refine zr_iload_n C d_O_init_87 (n := 88) rfl rfl ?_
        refine zr_bipush C d_O_init_88 (n := 90) rfl (v := nI 6) (by decide) ?_
        refine zr_iastN C d_O_init_90 (n := 91) rfl (zk_g1 (by omega) a1) rfl (by omega) (by decide) ?_
        refine zr_iinc C d_O_init_91 (n := 94) rfl rfl (w := 1) (by decide) (nI_1 j) (by decide) rfl ?_
        refine zr_goto C d_O_init_94 (t := 70) (by decide) ?_
        exact ih (j + 1) _ _ (by omega) (by simp only [List.length_set]; exact hl) (fun i hi => ((zk_gs (by omega)).trans (zk_gs (by omega))).trans (hp i hi)) (zo_at_w1 (zo_at_w0 hO)) (fun i hi => ⟨zk_lts (f := O 0) (fun i hi => (i0 i hi).1) hi, zk_lts (f := O 1) (fun i hi => (i0 i hi).2) hi⟩) i2
  have J8 : ∀ (h1 : zk_H), h1.length = n + 9 → (∀ j, j < n → h1[j]? = h[j]?) → h1[n]? = some (.inr (1, [.ref (n + 2), .ref (n + 3), .ref (n + 4), .ref (n + 5), .ref (n + 6), .ref (n + 7), .ref (n + 8), .ref (n + 9)])) → h1[n + 1]? = some (.inl (0, 6, .inl (fun _ => 0))) → h1[n + 2]? = some (.inl (0, 6, .inl (fun _ => 0))) → h1[n + 3]? = some (.inl (0, 6, .inl (fun _ => 0))) → h1[n + 4]? = some (.inl (0, 24, .inl (fun _ => 0))) → h1[n + 5]? = some (.inl (0, 24, .inl (fun _ => 0))) → h1[n + 6]? = some (.inl (0, 24, .inl (fun _ => 0))) → h1[n + 7]? = some (.inl (0, 72, .inl (fun _ => 0))) → h1[n + 8]? = some (.inl (0, 72, .inl (fun _ => 0))) → zk_V p l e rm_O_init s m ar below meth c 2 D dA b base (MQ below (zk_Q K D dA b base) ar s rm_O_init.cells rm_O_init.slots (fun q : Nat => base ≤ q)) 8 234 68 [some (.ref (n + 1)), none] [] h1 := by
    intro h1 hl hp ho a0 a1 a2 a3 a4 a5 a6 a7
    refine zr_iconst C d_O_init_68 (n := 69) rfl (v := nI 0) (by decide) ?_
    refine zr_istore_n C d_O_init_69 (n := 70) rfl (by decide) rfl ?_
    exact L1 6 0 h1 (fun _ _ => 0) rfl hl hp ⟨ho, a0, a1, a2, a3, a4, a5, a6, a7⟩ (fun i hi => absurd hi (by omega)) (fun _ _ => rfl)
  have J7 : ∀ (h1 : zk_H), h1.length = n + 8 → (∀ j, j < n → h1[j]? = h[j]?) → h1[n]? = some (.inr (1, [.ref (n + 2), .ref (n + 3), .ref (n + 4), .ref (n + 5), .ref (n + 6), .ref (n + 7), .ref (n + 8), .null])) → h1[n + 1]? = some (.inl (0, 6, .inl (fun _ => 0))) → h1[n + 2]? = some (.inl (0, 6, .inl (fun _ => 0))) → h1[n + 3]? = some (.inl (0, 6, .inl (fun _ => 0))) → h1[n + 4]? = some (.inl (0, 24, .inl (fun _ => 0))) → h1[n + 5]? = some (.inl (0, 24, .inl (fun _ => 0))) → h1[n + 6]? = some (.inl (0, 24, .inl (fun _ => 0))) → h1[n + 7]? = some (.inl (0, 72, .inl (fun _ => 0))) → zk_V p l e rm_O_init s m ar below meth c 2 D dA b base (MQ below (zk_Q K D dA b base) ar s rm_O_init.cells rm_O_init.slots (fun q : Nat => base ≤ q)) 7 162 60 [some (.ref (n + 1)), none] [] h1 := by
    intro h1 hl hp ho a0 a1 a2 a3 a4 a5 a6
    refine zr_aload_n C d_O_init_60 (n := 61) rfl rfl ?_
    refine zr_bipush C d_O_init_61 (n := 63) rfl (v := nI 72) (by decide) ?_
    refine zr_newi C zk_ci d_O_init_63 (n := 65) rfl (len := 72) (by decide) (by decide) (by decide) (n + 8) hl (by decide) (by decide) ?_
    refine zr_putF C f_O_33 Y_O rfl rfl rfl rfl d_O_init_65 (n := 68) rfl (zk_ap ho) (Nat.le_of_ble_eq_true rfl) (fun _ _ => rfl) (fun _ _ => rfl) ?_
    exact J8 _ (by simp [hl]) (fun j hj => ((zk_gs (by omega)).trans (zk_al hl (by omega))).trans (hp j hj)) (zk_g0 (zk_ap ho)) (zk_g1 (by omega) (zk_ap a0)) (zk_g1 (by omega) (zk_ap a1)) (zk_g1 (by omega) (zk_ap a2)) (zk_g1 (by omega) (zk_ap a3)) (zk_g1 (by omega) (zk_ap a4)) (zk_g1 (by omega) (zk_ap a5)) (zk_g1 (by omega) (zk_ap a6)) (zk_g1 (by omega) (zk_aq hl))
  have J6 : ∀ (h1 : zk_H), h1.length = n + 7 → (∀ j, j < n → h1[j]? = h[j]?) → h1[n]? = some (.inr (1, [.ref (n + 2), .ref (n + 3), .ref (n + 4), .ref (n + 5), .ref (n + 6), .ref (n + 7), .null, .null])) → h1[n + 1]? = some (.inl (0, 6, .inl (fun _ => 0))) → h1[n + 2]? = some (.inl (0, 6, .inl (fun _ => 0))) → h1[n + 3]? = some (.inl (0, 6, .inl (fun _ => 0))) → h1[n + 4]? = some (.inl (0, 24, .inl (fun _ => 0))) → h1[n + 5]? = some (.inl (0, 24, .inl (fun _ => 0))) → h1[n + 6]? = some (.inl (0, 24, .inl (fun _ => 0))) → zk_V p l e rm_O_init s m ar below meth c 2 D dA b base (MQ below (zk_Q K D dA b base) ar s rm_O_init.cells rm_O_init.slots (fun q : Nat => base ≤ q)) 6 90 52 [some (.ref (n + 1)), none] [] h1 := by
    intro h1 hl hp ho a0 a1 a2 a3 a4 a5
    refine zr_aload_n C d_O_init_52 (n := 53) rfl rfl ?_
    refine zr_bipush C d_O_init_53 (n := 55) rfl (v := nI 72) (by decide) ?_
    refine zr_newi C zk_ci d_O_init_55 (n := 57) rfl (len := 72) (by decide) (by decide) (by decide) (n + 7) hl (by decide) (by decide) ?_
    refine zr_putF C f_O_30 Y_O rfl rfl rfl rfl d_O_init_57 (n := 60) rfl (zk_ap ho) (Nat.le_of_ble_eq_true rfl) (fun _ _ => rfl) (fun _ _ => rfl) ?_
    exact J7 _ (by simp [hl]) (fun j hj => ((zk_gs (by omega)).trans (zk_al hl (by omega))).trans (hp j hj)) (zk_g0 (zk_ap ho)) (zk_g1 (by omega) (zk_ap a0)) (zk_g1 (by omega) (zk_ap a1)) (zk_g1 (by omega) (zk_ap a2)) (zk_g1 (by omega) (zk_ap a3)) (zk_g1 (by omega) (zk_ap a4)) (zk_g1 (by omega) (zk_ap a5)) (zk_g1 (by omega) (zk_aq hl))
  have J5 : ∀ (h1 : zk_H), h1.length = n + 6 → (∀ j, j < n → h1[j]? = h[j]?) → h1[n]? = some (.inr (1, [.ref (n + 2), .ref (n + 3), .ref (n + 4), .ref (n + 5), .ref (n + 6), .null, .null, .null])) → h1[n + 1]? = some (.inl (0, 6, .inl (fun _ => 0))) → h1[n + 2]? = some (.inl (0, 6, .inl (fun _ => 0))) → h1[n + 3]? = some (.inl (0, 6, .inl (fun _ => 0))) → h1[n + 4]? = some (.inl (0, 24, .inl (fun _ => 0))) → h1[n + 5]? = some (.inl (0, 24, .inl (fun _ => 0))) → zk_V p l e rm_O_init s m ar below meth c 2 D dA b base (MQ below (zk_Q K D dA b base) ar s rm_O_init.cells rm_O_init.slots (fun q : Nat => base ≤ q)) 5 66 44 [some (.ref (n + 1)), none] [] h1 := by
    intro h1 hl hp ho a0 a1 a2 a3 a4
    refine zr_aload_n C d_O_init_44 (n := 45) rfl rfl ?_
    refine zr_bipush C d_O_init_45 (n := 47) rfl (v := nI 24) (by decide) ?_
    refine zr_newi C zk_ci d_O_init_47 (n := 49) rfl (len := 24) (by decide) (by decide) (by decide) (n + 6) hl (by decide) (by decide) ?_
    refine zr_putF C f_O_27 Y_O rfl rfl rfl rfl d_O_init_49 (n := 52) rfl (zk_ap ho) (Nat.le_of_ble_eq_true rfl) (fun _ _ => rfl) (fun _ _ => rfl) ?_
    exact J6 _ (by simp [hl]) (fun j hj => ((zk_gs (by omega)).trans (zk_al hl (by omega))).trans (hp j hj)) (zk_g0 (zk_ap ho)) (zk_g1 (by omega) (zk_ap a0)) (zk_g1 (by omega) (zk_ap a1)) (zk_g1 (by omega) (zk_ap a2)) (zk_g1 (by omega) (zk_ap a3)) (zk_g1 (by omega) (zk_ap a4)) (zk_g1 (by omega) (zk_aq hl))
  have J4 : ∀ (h1 : zk_H), h1.length = n + 5 → (∀ j, j < n → h1[j]? = h[j]?) → h1[n]? = some (.inr (1, [.ref (n + 2), .ref (n + 3), .ref (n + 4), .ref (n + 5), .null, .null, .null, .null])) → h1[n + 1]? = some (.inl (0, 6, .inl (fun _ => 0))) → h1[n + 2]? = some (.inl (0, 6, .inl (fun _ => 0))) → h1[n + 3]? = some (.inl (0, 6, .inl (fun _ => 0))) → h1[n + 4]? = some (.inl (0, 24, .inl (fun _ => 0))) → zk_V p l e rm_O_init s m ar below meth c 2 D dA b base (MQ below (zk_Q K D dA b base) ar s rm_O_init.cells rm_O_init.slots (fun q : Nat => base ≤ q)) 4 42 36 [some (.ref (n + 1)), none] [] h1 := by
    intro h1 hl hp ho a0 a1 a2 a3
    refine zr_aload_n C d_O_init_36 (n := 37) rfl rfl ?_
    refine zr_bipush C d_O_init_37 (n := 39) rfl (v := nI 24) (by decide) ?_
    refine zr_newi C zk_ci d_O_init_39 (n := 41) rfl (len := 24) (by decide) (by decide) (by decide) (n + 5) hl (by decide) (by decide) ?_
    refine zr_putF C f_O_24 Y_O rfl rfl rfl rfl d_O_init_41 (n := 44) rfl (zk_ap ho) (Nat.le_of_ble_eq_true rfl) (fun _ _ => rfl) (fun _ _ => rfl) ?_
    exact J5 _ (by simp [hl]) (fun j hj => ((zk_gs (by omega)).trans (zk_al hl (by omega))).trans (hp j hj)) (zk_g0 (zk_ap ho)) (zk_g1 (by omega) (zk_ap a0)) (zk_g1 (by omega) (zk_ap a1)) (zk_g1 (by omega) (zk_ap a2)) (zk_g1 (by omega) (zk_ap a3)) (zk_g1 (by omega) (zk_aq hl))
  have J3 : ∀ (h1 : zk_H), h1.length = n + 4 → (∀ j, j < n → h1[j]? = h[j]?) → h1[n]? = some (.inr (1, [.ref (n + 2), .ref (n + 3), .ref (n + 4), .null, .null, .null, .null, .null])) → h1[n + 1]? = some (.inl (0, 6, .inl (fun _ => 0))) → h1[n + 2]? = some (.inl (0, 6, .inl (fun _ => 0))) → h1[n + 3]? = some (.inl (0, 6, .inl (fun _ => 0))) → zk_V p l e rm_O_init s m ar below meth c 2 D dA b base (MQ below (zk_Q K D dA b base) ar s rm_O_init.cells rm_O_init.slots (fun q : Nat => base ≤ q)) 3 18 28 [some (.ref (n + 1)), none] [] h1 := by
    intro h1 hl hp ho a0 a1 a2
    refine zr_aload_n C d_O_init_28 (n := 29) rfl rfl ?_
    refine zr_bipush C d_O_init_29 (n := 31) rfl (v := nI 24) (by decide) ?_
    refine zr_newi C zk_ci d_O_init_31 (n := 33) rfl (len := 24) (by decide) (by decide) (by decide) (n + 4) hl (by decide) (by decide) ?_
    refine zr_putF C f_O_21 Y_O rfl rfl rfl rfl d_O_init_33 (n := 36) rfl (zk_ap ho) (Nat.le_of_ble_eq_true rfl) (fun _ _ => rfl) (fun _ _ => rfl) ?_
    exact J4 _ (by simp [hl]) (fun j hj => ((zk_gs (by omega)).trans (zk_al hl (by omega))).trans (hp j hj)) (zk_g0 (zk_ap ho)) (zk_g1 (by omega) (zk_ap a0)) (zk_g1 (by omega) (zk_ap a1)) (zk_g1 (by omega) (zk_ap a2)) (zk_g1 (by omega) (zk_aq hl))
  have J2 : ∀ (h1 : zk_H), h1.length = n + 3 → (∀ j, j < n → h1[j]? = h[j]?) → h1[n]? = some (.inr (1, [.ref (n + 2), .ref (n + 3), .null, .null, .null, .null, .null, .null])) → h1[n + 1]? = some (.inl (0, 6, .inl (fun _ => 0))) → h1[n + 2]? = some (.inl (0, 6, .inl (fun _ => 0))) → zk_V p l e rm_O_init s m ar below meth c 2 D dA b base (MQ below (zk_Q K D dA b base) ar s rm_O_init.cells rm_O_init.slots (fun q : Nat => base ≤ q)) 2 12 20 [some (.ref (n + 1)), none] [] h1 := by
    intro h1 hl hp ho a0 a1
    refine zr_aload_n C d_O_init_20 (n := 21) rfl rfl ?_
    refine zr_bipush C d_O_init_21 (n := 23) rfl (v := nI 6) (by decide) ?_
    refine zr_newi C zk_ci d_O_init_23 (n := 25) rfl (len := 6) (by decide) (by decide) (by decide) (n + 3) hl (by decide) (by decide) ?_
    refine zr_putF C f_O_18 Y_O rfl rfl rfl rfl d_O_init_25 (n := 28) rfl (zk_ap ho) (Nat.le_of_ble_eq_true rfl) (fun _ _ => rfl) (fun _ _ => rfl) ?_
    exact J3 _ (by simp [hl]) (fun j hj => ((zk_gs (by omega)).trans (zk_al hl (by omega))).trans (hp j hj)) (zk_g0 (zk_ap ho)) (zk_g1 (by omega) (zk_ap a0)) (zk_g1 (by omega) (zk_ap a1)) (zk_g1 (by omega) (zk_aq hl))
  have J1 : ∀ (h1 : zk_H), h1.length = n + 2 → (∀ j, j < n → h1[j]? = h[j]?) → h1[n]? = some (.inr (1, [.ref (n + 2), .null, .null, .null, .null, .null, .null, .null])) → h1[n + 1]? = some (.inl (0, 6, .inl (fun _ => 0))) → zk_V p l e rm_O_init s m ar below meth c 2 D dA b base (MQ below (zk_Q K D dA b base) ar s rm_O_init.cells rm_O_init.slots (fun q : Nat => base ≤ q)) 1 6 12 [some (.ref (n + 1)), none] [] h1 := by
    intro h1 hl hp ho a0
    refine zr_aload_n C d_O_init_12 (n := 13) rfl rfl ?_
    refine zr_bipush C d_O_init_13 (n := 15) rfl (v := nI 6) (by decide) ?_
    refine zr_newi C zk_ci d_O_init_15 (n := 17) rfl (len := 6) (by decide) (by decide) (by decide) (n + 2) hl (by decide) (by decide) ?_
    refine zr_putF C f_O_15 Y_O rfl rfl rfl rfl d_O_init_17 (n := 20) rfl (zk_ap ho) (Nat.le_of_ble_eq_true rfl) (fun _ _ => rfl) (fun _ _ => rfl) ?_
    exact J2 _ (by simp [hl]) (fun j hj => ((zk_gs (by omega)).trans (zk_al hl (by omega))).trans (hp j hj)) (zk_g0 (zk_ap ho)) (zk_g1 (by omega) (zk_ap a0)) (zk_g1 (by omega) (zk_aq hl))
  have J0 : ∀ (h1 : zk_H), h1.length = n + 1 → (∀ j, j < n → h1[j]? = h[j]?) → h1[n]? = some (.inr (1, [.null, .null, .null, .null, .null, .null, .null, .null])) → zk_V p l e rm_O_init s m ar below meth c 2 D dA b base (MQ below (zk_Q K D dA b base) ar s rm_O_init.cells rm_O_init.slots (fun q : Nat => base ≤ q)) 0 0 4 [some (.ref (n + 1)), none] [] h1 := by
    intro h1 hl hp ho
    refine zr_aload_n C d_O_init_4 (n := 5) rfl rfl ?_
    refine zr_bipush C d_O_init_5 (n := 7) rfl (v := nI 6) (by decide) ?_
    refine zr_newi C zk_ci d_O_init_7 (n := 9) rfl (len := 6) (by decide) (by decide) (by decide) (n + 1) hl (by decide) (by decide) ?_
    refine zr_putF C f_O_9 Y_O rfl rfl rfl rfl d_O_init_9 (n := 12) rfl (zk_ap ho) (Nat.le_of_ble_eq_true rfl) (fun _ _ => rfl) (fun _ _ => rfl) ?_
    exact J1 _ (by simp [hl]) (fun j hj => ((zk_gs (by omega)).trans (zk_al hl (by omega))).trans (hp j hj)) (zk_g0 (zk_ap ho)) (zk_g1 (by omega) (zk_aq hl))
  refine zr_aload_n C d_O_init_0 (n := 1) rfl rfl ?_
  refine zr_objInit C o_O_3 d_O_init_1 (n := 4) rfl (by decide) (by decide) ?_
  exact J0 h hn (fun _ _ => rfl) hob
