def zb_l (B : Nat → Int32) : List Value := [.int (B 0), .int (B 1), .int (B 2), .int (B 3), .int (B 4), .int (B 5), .int (B 6), .int (B 7), .int (B 8)]
abbrev zb_c (B : Nat → Int32) : zk_E := .inr (0, zb_l B)
abbrev zu_c (k t nm : Nat) (a : Int32) : zk_E := .inr (2, [.int (nI k), .int (nI t), .int (nI nm), .int a])
theorem zk_fb (c : Bool) : fits .boolean (.int (zk_b c)) = true := by cases c <;> decide
theorem zk_nm1 {j : Nat} (hj : j < 2147483648) : ¬ nI j = -1 := fun h => by
  have h2 := congrArg Int32.toInt h
  rw [nI_toInt hj] at h2
  have h3 : (-1 : Int32).toInt = -1 := by decide
  omega
def zb_pl (r : Int32) : Option Nat := if r = -1 then none else some r.toNatClampNeg
theorem zb_pl_n : zb_pl (-1) = none := if_pos rfl
theorem zb_pl_s {j : Nat} (hj : j < 2147483648) : zb_pl (nI j) = some j := by rw [zb_pl, if_neg (zk_nm1 hj), nI_clamp hj]
theorem zo_ffL_pl {f : Nat → Int32} {x z : Int32} {P : Int32 → Prop} (hz : P z) (hf : ∀ i, P (f i)) : ∀ n i, P (zo_ffL f x z n i)
  | 0, _ => hz
  | n + 1, i => by
    rw [zo_ffL]
    by_cases h : zk_bit x i = true ∧ ¬ f i = -1
    · rw [if_pos h]; exact hf i
    · rw [if_neg h]; exact zo_ffL_pl hz hf n (i + 1)
/-- where findField answers -/
theorem zo_ffL_pl2 {f : Nat → Int32} {x z : Int32} {P : Int32 → Prop} (hz : P z) : ∀ n i, (∀ k, k < n + i → P (f k)) → P (zo_ffL f x z n i)
  | 0, _, _ => hz
  | n + 1, i, hf => by
    rw [zo_ffL]
    by_cases h : zk_bit x i = true ∧ ¬ f i = -1
    · rw [if_pos h]; exact hf i (by omega)
    · rw [if_neg h]; exact zo_ffL_pl2 hz n (i + 1) (fun k hk => hf k (by omega))
theorem zo_ff_pl {O : zo_O} (hw : zo_wf O) {nm : Nat} (hnm : nm < 4) {kd : Int32} : ∀ d t, t < 6 → zo_ff O nm kd d t = -1 ∨ ∃ j, j < 24 ∧ zo_ff O nm kd d t = nI j
  | 0, t, _ => Or.inl rfl
  | d + 1, t, ht => by
    rw [zo_ff]
    by_cases h : ¬ O 3 (t * 4 + nm) = -1 ∧ (kd = -1 ∨ O 4 (t * 4 + nm) = kd)
    · rw [if_pos h]; exact Or.inr ⟨t * 4 + nm, by omega, rfl⟩
    · rw [if_neg h]
      refine zo_ffL_pl2 (P := fun r => r = -1 ∨ ∃ j, j < 24 ∧ r = nI j) ?_ t 0 (fun k hk => zo_ff_pl hw hnm d k (by omega))
      by_cases h6 : O 1 t = nI 6
      · rw [if_pos h6]; exact Or.inl rfl
      · rw [if_neg h6]
        obtain ⟨s, hs, e⟩ := (hw t ht).resolve_left h6
        rw [e, nI_clamp (by omega)]
        exact zo_ff_pl hw hnm d s (by omega)
theorem zo_mi_pl {O : zo_O} {nm pa : Nat} (hnm : nm < 3) (hpa : pa < 4) {an x : Int32} : ∀ n, n ≤ 6 → zo_mi O nm pa an x n = -1 ∨ ∃ j, j < 72 ∧ zo_mi O nm pa an x n = nI j ∧ j % 4 = pa
  | 0, _ => Or.inl rfl
  | n + 1, hn => by
    rw [zo_mi]
    by_cases h : zk_bit x n = true ∧ zo_hf O n (nI 1) = true ∧ zo_ma O (n * 12 + nm * 4 + pa) an = true
    · rw [if_pos h]; exact Or.inr ⟨n * 12 + nm * 4 + pa, by omega, rfl, by omega⟩
    · rw [if_neg h]; exact zo_mi_pl hnm hpa n (by omega)
theorem zo_mc_pl {O : zo_O} (hw : zo_wf O) {nm pa : Nat} (hnm : nm < 3) (hpa : pa < 4) {an z : Int32} (hz : z = -1 ∨ ∃ j, j < 72 ∧ z = nI j ∧ j % 4 = pa) : ∀ n hd, hd ≤ 6 → zo_mc O nm pa an z n hd = -1 ∨ ∃ j, j < 72 ∧ zo_mc O nm pa an z n hd = nI j ∧ j % 4 = pa
  | 0, _, _ => hz
  | n + 1, hd, hhd => by
    by_cases h6 : hd = 6
    · subst h6; rw [zo_mc_end]; exact hz
    · rw [zo_mc, if_neg h6]
      by_cases h : zo_ma O (hd * 12 + nm * 4 + pa) an = true
      · rw [if_pos h]; exact Or.inr ⟨hd * 12 + nm * 4 + pa, by omega, rfl, by omega⟩
      · rw [if_neg h]
        obtain ⟨s, hs, e⟩ := zo_wf_up hw (t := hd) (by omega)
        rw [e, nI_clamp (by omega)]
        exact zo_mc_pl hw hnm hpa hz n s hs
theorem zo_fm_pl {O : zo_O} (hw : zo_wf O) {t nm pa : Nat} (ht : t < 6) (hnm : nm < 3) (hpa : pa < 4) {an : Int32} : zo_fm O t nm pa an = -1 ∨ ∃ j, j < 72 ∧ zo_fm O t nm pa an = nI j ∧ j % 4 = pa := zo_mc_pl hw hnm hpa (zo_mi_pl hnm hpa 6 (Nat.le_refl 6)) 6 t (by omega)
def zb_nz (x y : Int32) : Bool := decide (¬ x &&& y = 0)
/-- bindField, from the place on -/
def zb_f (O : zo_O) (k : Nat) (B : Nat → Int32) (r : Option Nat) : Int32 × (Nat → Int32) := match r with
  | none => (-4, B)
  | some j => if zb_nz (O 3 j) (nI 8) = true then (-4, B) else if k = 1 ∧ zb_nz (O 3 j) (nI 4) = true then (-5, B) else (nI 0, upd (upd (upd (upd B 2 (zk_b (zb_nz (O 3 j) (nI 16)))) 3 (O 4 j)) 4 (O 5 j)) 5 (zk_b (zb_nz (O 3 j) (nI 1))))
def zb_m (O : zo_O) (k j : Nat) (B : Nat → Int32) : Int32 × (Nat → Int32) := if k = 3 ∧ zb_nz (O 6 j) (nI 1) = false then (-5, upd B 5 (zk_b (zb_nz (O 6 j) (nI 1)))) else (nI 0, upd (upd (upd (upd B 5 (zk_b (zb_nz (O 6 j) (nI 1)))) 6 (nI (j % 4))) 7 (O 7 j)) 8 (nI (j / 12)))
def zb_cL (O : zo_O) (k t nm : Nat) (B : Nat → Int32) : Nat → Nat → Int32 × (Nat → Int32)
  | 0, _ => (-4, B)
  | n + 1, p => match zb_pl (zo_fm O t nm p (-1)) with
    | none => zb_cL O k t nm B n (p + 1)
    | some j => if zb_nz (O 6 j) (nI 8) = true then zb_cL O k t nm B n (p + 1) else zb_m O k j B
def zb_o (O : zo_O) (t : Nat) (B : Nat → Int32) (r : Option Nat) : Int32 × (Nat → Int32) := if zo_hf O t (nI 4) = true then (-5, B) else match r with
  | none => (-4, B)
  | some j => if zb_nz (O 6 j) (nI 8) = true then (-4, B) else if zb_nz (O 6 j) (nI 5) = true then (-5, B) else (nI 0, upd B 7 (O 7 j))
theorem zb_m_no {O : zo_O} {k j : Nat} {B : Nat → Int32} (h1 : k = 3) (h2 : zb_nz (O 6 j) (nI 1) = false) : zb_m O k j B = (-5, upd B 5 (zk_b (zb_nz (O 6 j) (nI 1)))) := by rw [zb_m, if_pos ⟨h1, h2⟩]
theorem zb_m_yes {O : zo_O} {k j : Nat} {B : Nat → Int32} (h : ¬ (k = 3 ∧ zb_nz (O 6 j) (nI 1) = false)) : zb_m O k j B = (nI 0, upd (upd (upd (upd B 5 (zk_b (zb_nz (O 6 j) (nI 1)))) 6 (nI (j % 4))) 7 (O 7 j)) 8 (nI (j / 12))) := by rw [zb_m, if_neg h]
theorem zb_f_n {O : zo_O} {k : Nat} {B : Nat → Int32} : zb_f O k B none = (-4, B) := rfl
theorem zb_f_h {O : zo_O} {k j : Nat} {B : Nat → Int32} (h : zb_nz (O 3 j) (nI 8) = true) : zb_f O k B (some j) = (-4, B) := by rw [zb_f, if_pos h]
theorem zb_f_x {O : zo_O} {k j : Nat} {B : Nat → Int32} (h : zb_nz (O 3 j) (nI 8) = false) (h2 : k = 1 ∧ zb_nz (O 3 j) (nI 4) = true) : zb_f O k B (some j) = (-5, B) := by rw [zb_f, if_neg (by rw [h]; decide), if_pos h2]
theorem zb_f_y {O : zo_O} {k j : Nat} {B : Nat → Int32} (h : zb_nz (O 3 j) (nI 8) = false) (h2 : ¬ (k = 1 ∧ zb_nz (O 3 j) (nI 4) = true)) : zb_f O k B (some j) = (nI 0, upd (upd (upd (upd B 2 (zk_b (zb_nz (O 3 j) (nI 16)))) 3 (O 4 j)) 4 (O 5 j)) 5 (zk_b (zb_nz (O 3 j) (nI 1)))) := by rw [zb_f, if_neg (by rw [h]; decide), if_neg h2]
theorem zb_o_x {O : zo_O} {t : Nat} {B : Nat → Int32} {r : Option Nat} (h : zo_hf O t (nI 4) = true) : zb_o O t B r = (-5, B) := by
  unfold zb_o
  rw [if_pos h]
theorem zb_o_n {O : zo_O} {t : Nat} {B : Nat → Int32} (h : zo_hf O t (nI 4) = false) : zb_o O t B none = (-4, B) := by rw [zb_o, if_neg (by rw [h]; decide)]
theorem zb_o_h {O : zo_O} {t j : Nat} {B : Nat → Int32} (h : zo_hf O t (nI 4) = false) (h1 : zb_nz (O 6 j) (nI 8) = true) : zb_o O t B (some j) = (-4, B) := by
  rw [zb_o, if_neg (by rw [h]; decide)]
  show (if _ then _ else _) = _
  rw [if_pos h1]
theorem zb_o_y {O : zo_O} {t j : Nat} {B : Nat → Int32} (h : zo_hf O t (nI 4) = false) (h1 : zb_nz (O 6 j) (nI 8) = false) : zb_o O t B (some j) = if zb_nz (O 6 j) (nI 5) = true then (-5, B) else (nI 0, upd B 7 (O 7 j)) := by
  rw [zb_o, if_neg (by rw [h]; decide)]
  show (if _ then _ else _) = _
  rw [if_neg (by rw [h1]; decide)]
theorem zb_cL_n {O : zo_O} {k t nm n p : Nat} {B : Nat → Int32} (h : zb_pl (zo_fm O t nm p (-1)) = none) : zb_cL O k t nm B (n + 1) p = zb_cL O k t nm B n (p + 1) := by rw [zb_cL, h]
theorem zb_cL_h {O : zo_O} {k t nm n p j : Nat} {B : Nat → Int32} (h : zb_pl (zo_fm O t nm p (-1)) = some j) (h1 : zb_nz (O 6 j) (nI 8) = true) : zb_cL O k t nm B (n + 1) p = zb_cL O k t nm B n (p + 1) := by
  rw [zb_cL, h]
  show (if _ then _ else _) = _
  rw [if_pos h1]
theorem zb_cL_y {O : zo_O} {k t nm n p j : Nat} {B : Nat → Int32} (h : zb_pl (zo_fm O t nm p (-1)) = some j) (h1 : zb_nz (O 6 j) (nI 8) = false) : zb_cL O k t nm B (n + 1) p = zb_m O k j B := by
  rw [zb_cL, h]
  show (if _ then _ else _) = _
  rw [if_neg (by rw [h1]; decide)]
theorem zb_nzt {x y : Int32} (h : ¬ x &&& y = 0) : zb_nz x y = true := decide_eq_true h
theorem zb_nzf {x y : Int32} (h : x &&& y = 0) : zb_nz x y = false := decide_eq_false (fun q => q h)
abbrev rm_B_bindMethod : Room := { frames := 0, cells := 0, slots := 0, locals := 0 }
set_option maxHeartbeats 4000000 in
set_option maxRecDepth 100000 in
/-- bindMethod -/
theorem sp_B_bindMethod (l : Launch) {h : zk_H} {i u o : Nat} {B : Nat → Int32} {k t nm : Nat} {a : Int32} {O : zo_O} (hB : h[i]? = some (zb_c B)) (hU : h[u]? = some (zu_c k t nm a)) (hO : zo_at h o O) (hiu : i ≠ u) (hio : i < o ∨ o + 8 < i) (ht : t < 6) (hk : k < 7) {j : Nat} (hj : j < 72) {K : Option Value → zk_H → Prop} (hK : K (some (.int (zb_m O k j B).1)) (h.set i (zb_c (zb_m O k j B).2))) : zk_S l y_B_bindMethod b_B_bindMethod 4 (some .int) rm_B_bindMethod [.ref (i + 1), .ref (u + 1), .ref (o + 1), .int (nI j)] h K := by
  obtain ⟨ho, a0, a1, a2, a3, a4, a5, a6, a7⟩ := id hO
  refine zk_S_of R_B "bindMethod" (by decide) rfl rfl [some (.ref (i + 1)), some (.ref (u + 1)), some (.ref (o + 1)), some (.int (nI j))] 0 rfl (Nat.le_of_ble_eq_true rfl) (fun p e s m ar below meth c D dA b base C => ?_)
  have J : zk_V p l e rm_B_bindMethod s m ar below meth c 4 D dA b base (MQ below (zk_Q K D dA b base) ar s rm_B_bindMethod.cells rm_B_bindMethod.slots (fun q : Nat => base ≤ q)) 0 0 17 [some (.ref (i + 1)), some (.ref (u + 1)), some (.ref (o + 1)), some (.int (nI j))] [.int (zk_b (zb_nz (O 6 j) (nI 1))), .ref (i + 1)] h := by
    refine zr_put C f_B_80 Y_B rfl rfl d_B_bindMethod_17 (n := 20) rfl hB (Nat.le_of_ble_eq_true rfl) (fun _ _ => zk_nb _) (fun _ _ => zk_fb _) ?_
    refine zr_aload_n C d_B_bindMethod_20 (n := 21) rfl rfl ?_
    refine zr_getN C f_B_39 d_B_bindMethod_21 (n := 24) rfl (zk_g1 (by omega) hU) rfl ?_
    refine zr_iconst C d_B_bindMethod_24 (n := 25) rfl (v := nI 3) (by decide) ?_
    refine zr_icmp_ne C d_B_bindMethod_25 (n := 28) rfl (t := 38) (by decide) (fun c1 => ?_) (fun c1 => ?_)
    · replace c1 := zk_ne (by omega) (by omega) c1
      refine zr_aload_n C d_B_bindMethod_38 (n := 39) rfl rfl ?_
      refine zr_iload_n C d_B_bindMethod_39 (n := 40) rfl rfl ?_
      refine zr_iconst C d_B_bindMethod_40 (n := 41) rfl (v := nI 4) (by decide) ?_
      refine zr_irem C d_B_bindMethod_41 (n := 42) rfl (by decide) ?_
      refine zr_toe (y := nI (j % 4)) (pk_rem (by omega) (by decide) (by decide)) ?_
      refine zr_put C f_B_97 Y_B rfl rfl d_B_bindMethod_42 (n := 45) rfl (zk_g0 hB) (Nat.le_of_ble_eq_true rfl) (fun _ _ => rfl) (fun _ _ => rfl) ?_
      rw [zk_sset]
      refine zr_aload_n C d_B_bindMethod_45 (n := 46) rfl rfl ?_
      refine zr_aload_n C d_B_bindMethod_46 (n := 47) rfl rfl ?_
      refine zr_getN C f_B_100 d_B_bindMethod_47 (n := 50) rfl (zk_g1 (by omega) ho) rfl ?_
      refine zr_iload_n C d_B_bindMethod_50 (n := 51) rfl rfl ?_
      refine zr_ialdN C d_B_bindMethod_51 (n := 52) rfl (zk_g1 (by omega) a7) rfl (by omega) (by decide) ?_
      refine zr_put C f_B_103 Y_B rfl rfl d_B_bindMethod_52 (n := 55) rfl (zk_g0 hB) (Nat.le_of_ble_eq_true rfl) (fun _ _ => rfl) (fun _ _ => rfl) ?_
      rw [zk_sset]
      refine zr_aload_n C d_B_bindMethod_55 (n := 56) rfl rfl ?_
      refine zr_iload_n C d_B_bindMethod_56 (n := 57) rfl rfl ?_
      refine zr_bipush C d_B_bindMethod_57 (n := 59) rfl (v := nI 12) (by decide) ?_
      refine zr_idiv C d_B_bindMethod_59 (n := 60) rfl (by decide) ?_
      refine zr_toe (y := nI (j / 12)) (pk_div (by omega) (by decide) (by decide)) ?_
      refine zr_put C f_B_106 Y_B rfl rfl d_B_bindMethod_60 (n := 63) rfl (zk_g0 hB) (Nat.le_of_ble_eq_true rfl) (fun _ _ => rfl) (fun _ _ => rfl) ?_
      rw [zk_sset]
      refine zr_iconst C d_B_bindMethod_63 (n := 64) rfl (v := nI 0) (by decide) ?_
      exact zr_iret C d_B_bindMethod_64 rfl (by rw [zb_m_yes (by simp [c1])] at hK; exact hK) (Nat.zero_le _) (Nat.zero_le _)
    · replace c1 := zk_eq (by omega) (by omega) c1
      refine zr_aload_n C d_B_bindMethod_28 (n := 29) rfl rfl ?_
      refine zr_get C f_B_80 d_B_bindMethod_29 (n := 32) rfl (zk_g0 hB) rfl ?_
      refine zr_if_ne C d_B_bindMethod_32 (n := 35) rfl (t := 38) (by decide) (fun c2 => ?_) (fun c2 => ?_)
      · replace c2 := zk_bn c2
        refine zr_aload_n C d_B_bindMethod_38 (n := 39) rfl rfl ?_
        refine zr_iload_n C d_B_bindMethod_39 (n := 40) rfl rfl ?_
        refine zr_iconst C d_B_bindMethod_40 (n := 41) rfl (v := nI 4) (by decide) ?_
        refine zr_irem C d_B_bindMethod_41 (n := 42) rfl (by decide) ?_
        refine zr_toe (y := nI (j % 4)) (pk_rem (by omega) (by decide) (by decide)) ?_
        refine zr_put C f_B_97 Y_B rfl rfl d_B_bindMethod_42 (n := 45) rfl (zk_g0 hB) (Nat.le_of_ble_eq_true rfl) (fun _ _ => rfl) (fun _ _ => rfl) ?_
        rw [zk_sset]
        refine zr_aload_n C d_B_bindMethod_45 (n := 46) rfl rfl ?_
        refine zr_aload_n C d_B_bindMethod_46 (n := 47) rfl rfl ?_
        refine zr_getN C f_B_100 d_B_bindMethod_47 (n := 50) rfl (zk_g1 (by omega) ho) rfl ?_
        refine zr_iload_n C d_B_bindMethod_50 (n := 51) rfl rfl ?_
        refine zr_ialdN C d_B_bindMethod_51 (n := 52) rfl (zk_g1 (by omega) a7) rfl (by omega) (by decide) ?_
        refine zr_put C f_B_103 Y_B rfl rfl d_B_bindMethod_52 (n := 55) rfl (zk_g0 hB) (Nat.le_of_ble_eq_true rfl) (fun _ _ => rfl) (fun _ _ => rfl) ?_
        rw [zk_sset]
        refine zr_aload_n C d_B_bindMethod_55 (n := 56) rfl rfl ?_
        refine zr_iload_n C d_B_bindMethod_56 (n := 57) rfl rfl ?_
        refine zr_bipush C d_B_bindMethod_57 (n := 59) rfl (v := nI 12) (by decide) ?_
        refine zr_idiv C d_B_bindMethod_59 (n := 60) rfl (by decide) ?_
        refine zr_toe (y := nI (j / 12)) (pk_div (by omega) (by decide) (by decide)) ?_
        refine zr_put C f_B_106 Y_B rfl rfl d_B_bindMethod_60 (n := 63) rfl (zk_g0 hB) (Nat.le_of_ble_eq_true rfl) (fun _ _ => rfl) (fun _ _ => rfl) ?_
        rw [zk_sset]
        refine zr_iconst C d_B_bindMethod_63 (n := 64) rfl (v := nI 0) (by decide) ?_
        exact zr_iret C d_B_bindMethod_64 rfl (by rw [zb_m_yes (by simp [c1, c2])] at hK; exact hK) (Nat.zero_le _) (Nat.zero_le _)
      · replace c2 := zk_bz c2
        refine zr_bipush C d_B_bindMethod_35 (n := 37) rfl (v := -5) (by decide) ?_
        exact zr_iret C d_B_bindMethod_37 rfl (by rw [zb_m_no c1 c2] at hK; exact hK) (Nat.zero_le _) (Nat.zero_le _)
  refine zr_aload_n C d_B_bindMethod_0 (n := 1) rfl rfl ?_
  refine zr_aload_n C d_B_bindMethod_1 (n := 2) rfl rfl ?_
  refine zr_getN C f_B_90 d_B_bindMethod_2 (n := 5) rfl ho rfl ?_
  refine zr_iload_n C d_B_bindMethod_5 (n := 6) rfl rfl ?_
  refine zr_ialdN C d_B_bindMethod_6 (n := 7) rfl a6 rfl (by omega) (by decide) ?_
  refine zr_iconst C d_B_bindMethod_7 (n := 8) rfl (v := nI 1) (by decide) ?_
  refine zr_iand C d_B_bindMethod_8 (n := 9) rfl ?_
  refine zr_if_eq C d_B_bindMethod_9 (n := 12) rfl (t := 16) (by decide) (fun c3 => ?_) (fun c3 => ?_)
  · replace c3 := zb_nzf c3
    refine zr_iconst C d_B_bindMethod_16 (n := 17) rfl (v := nI 0) (by decide) ?_
    refine zr_toe (y := zk_b (zb_nz (O 6 j) (nI 1))) (by rw [c3]; rfl) ?_
    exact J
  · replace c3 := zb_nzt c3
    refine zr_iconst C d_B_bindMethod_12 (n := 13) rfl (v := nI 1) (by decide) ?_
    refine zr_goto C d_B_bindMethod_13 (t := 17) (by decide) ?_
    refine zr_toe (y := zk_b (zb_nz (O 6 j) (nI 1))) (by rw [c3]; rfl) ?_
    exact J
