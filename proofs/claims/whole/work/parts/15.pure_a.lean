/-! what a binding says does not hang on what it said before -/
def zc_Z : Nat → Int32 := fun _ => 0
def zb_cj (O : zo_O) (t nm : Nat) : Nat → Nat → Option Nat
  | 0, _ => none
  | n + 1, p => match zb_pl (zo_fm O t nm p (-1)) with
    | none => zb_cj O t nm n (p + 1)
    | some j => if zb_nz (O 6 j) (nI 8) = true then zb_cj O t nm n (p + 1) else some j
def zb_cr (O : zo_O) (k : Nat) (B : Nat → Int32) (r : Option Nat) : Int32 × (Nat → Int32) := match r with
  | none => (-4, B)
  | some j => zb_m O k j B
theorem zb_cL_cj {O : zo_O} {k t nm : Nat} {B : Nat → Int32} : ∀ n p, zb_cL O k t nm B n p = zb_cr O k B (zb_cj O t nm n p)
  | 0, _ => rfl
  | n + 1, p => by
    cases h : zb_pl (zo_fm O t nm p (-1)) with
    | none => rw [zb_cL_n h, zb_cj, h]; exact zb_cL_cj n (p + 1)
    | some j =>
      by_cases h1 : zb_nz (O 6 j) (nI 8) = true
      · rw [zb_cL_h h h1, zb_cj, h]
        dsimp only
        rw [if_pos h1]
        exact zb_cL_cj n (p + 1)
      · rw [zb_cL_y h (by simpa using h1), zb_cj, h]
        dsimp only
        rw [if_neg h1]
        rfl
def zb_cJ (O : zo_O) (t nm ag : Nat) : Option Nat := zb_cj O t nm (if ag = 0 then 1 else 4 - ag) ag
theorem zb_cc_eq {O : zo_O} {k t nm ag : Nat} {B : Nat → Int32} : zb_cc O k t nm ag B = zb_cr O k B (zb_cJ O t nm ag) := zb_cL_cj _ _
/-- what counts of a binding, by the kind of use -/
def zb_sm (k : Nat) (B E : Nat → Int32) : Prop := B 2 = E 2 ∧ (k < 2 → B 3 = E 3 ∧ B 4 = E 4 ∧ B 5 = E 5) ∧ (2 ≤ k → B 1 = E 1 ∧ B 2 = 0) ∧ (k = 2 ∨ k = 3 → B 5 = E 5 ∧ B 6 = E 6 ∧ B 7 = E 7 ∧ B 8 = E 8) ∧ (k = 6 → B 7 = E 7)
theorem zb_u0 {B : Nat → Int32} {x : Int32} : upd B 0 x 0 = x := rfl
theorem zb_m5 : ¬ (-5 : Int32) = 0 := by decide
theorem zb_m4 : ¬ (-4 : Int32) = 0 := by decide
theorem zb_m3 : ¬ (-3 : Int32) = 0 := by decide
def zb_I (k : Nat) (B E : Nat → Int32) : Prop := B 0 = E 0 ∧ B 2 = E 2 ∧ (B 0 = 0 → zb_sm k B E)
theorem zb_I_f {O : zo_O} {k : Nat} (hk : k < 2) {B E : Nat → Int32} (h2 : B 2 = E 2) (r : Option Nat) : zb_I k (zb_fin (zb_f O k B r)) (zb_fin (zb_f O k E r)) := by
  cases r with
  | none => exact ⟨rfl, h2, fun q => absurd q zb_m4⟩
  | some j =>
    by_cases h8 : zb_nz (O 3 j) (nI 8) = true
    · rw [zb_f_h h8, zb_f_h h8]
      exact ⟨rfl, h2, fun q => absurd q zb_m4⟩
    · have h8' : zb_nz (O 3 j) (nI 8) = false := by simpa using h8
      by_cases h4 : k = 1 ∧ zb_nz (O 3 j) (nI 4) = true
      · rw [zb_f_x h8' h4, zb_f_x h8' h4]
        exact ⟨rfl, h2, fun q => absurd q zb_m5⟩
      · rw [zb_f_y h8' h4, zb_f_y h8' h4]
        exact ⟨rfl, rfl, fun _ => ⟨rfl, fun _ => ⟨rfl, rfl, rfl⟩, fun q => absurd q (by omega), fun q => absurd q (by omega), fun q => absurd q (by omega)⟩⟩
theorem zb_I_c {O : zo_O} {k : Nat} (hk : k = 2 ∨ k = 3) {B E : Nat → Int32} (h2 : B 2 = E 2) (h20 : B 2 = 0) (h1 : B 1 = E 1) (r : Option Nat) : zb_I k (zb_fin (zb_cr O k B r)) (zb_fin (zb_cr O k E r)) := by
  cases r with
  | none => exact ⟨rfl, h2, fun q => absurd q zb_m4⟩
  | some j =>
    by_cases hx : k = 3 ∧ zb_nz (O 6 j) (nI 1) = false
    · show zb_I k (zb_fin (zb_m O k j B)) (zb_fin (zb_m O k j E))
      rw [zb_m_no hx.1 hx.2, zb_m_no hx.1 hx.2]
      exact ⟨rfl, h2, fun q => absurd q zb_m5⟩
    · show zb_I k (zb_fin (zb_m O k j B)) (zb_fin (zb_m O k j E))
      rw [zb_m_yes hx, zb_m_yes hx]
      exact ⟨rfl, h2, fun _ => ⟨h2, fun q => absurd q (by omega), fun _ => ⟨h1, h20⟩, fun _ => ⟨rfl, rfl, rfl, rfl⟩, fun q => absurd q (by omega)⟩⟩
theorem zb_I_o {O : zo_O} {t : Nat} {B E : Nat → Int32} (h2 : B 2 = E 2) (h20 : B 2 = 0) (h1 : B 1 = E 1) (r : Option Nat) : zb_I 6 (zb_fin (zb_o O t B r)) (zb_fin (zb_o O t E r)) := by
  by_cases h4 : zo_hf O t (nI 4) = true
  · rw [zb_o_x h4, zb_o_x h4]
    exact ⟨rfl, h2, fun q => absurd q zb_m5⟩
  · have h4' : zo_hf O t (nI 4) = false := by simpa using h4
    cases r with
    | none =>
      rw [zb_o_n h4', zb_o_n h4']
      exact ⟨rfl, h2, fun q => absurd q zb_m4⟩
    | some j =>
      by_cases h8 : zb_nz (O 6 j) (nI 8) = true
      · rw [zb_o_h h4' h8, zb_o_h h4' h8]
        exact ⟨rfl, h2, fun q => absurd q zb_m4⟩
      · have h8' : zb_nz (O 6 j) (nI 8) = false := by simpa using h8
        rw [zb_o_y h4' h8', zb_o_y h4' h8']
        by_cases h5 : zb_nz (O 6 j) (nI 5) = true
        · rw [if_pos h5, if_pos h5]
          exact ⟨rfl, h2, fun q => absurd q zb_m5⟩
        · rw [if_neg h5, if_neg h5]
          exact ⟨rfl, h2, fun _ => ⟨h2, fun q => absurd q (by omega), fun _ => ⟨h1, h20⟩, fun q => absurd q (by omega), fun _ => rfl⟩⟩
theorem zb_I_e {k : Nat} (hk : k = 4 ∨ k = 5) {x : Int32} {B E : Nat → Int32} (h2 : B 2 = E 2) (h20 : B 2 = 0) (h1 : B 1 = E 1) : zb_I k (zb_fin (x, B)) (zb_fin (x, E)) :=
  ⟨rfl, h2, fun _ => ⟨h2, fun q => absurd q (by omega), fun _ => ⟨h1, h20⟩, fun q => absurd q (by omega), fun q => absurd q (by omega)⟩⟩
theorem zb_ind {O : zo_O} {k t nm ag : Nat} (hk : k < 7) (B E : Nat → Int32) : zb_I k (zb_bind O k t nm ag B) (zb_bind O k t nm ag E) := by
  by_cases h : zo_th O t = true ∧ zo_hf O t (nI 8) = false
  · rw [zb_bind_ok h, zb_bind_ok h]
    have h2 : zb_b1 O t B 2 = zb_b1 O t E 2 := rfl
    have h20 : zb_b1 O t B 2 = 0 := rfl
    have h1 : zb_b1 O t B 1 = zb_b1 O t E 1 := rfl
    generalize zb_b1 O t B = B1 at h2 h20 h1 ⊢
    generalize zb_b1 O t E = E1 at h2 h1 ⊢
    rcases (show k = 0 ∨ k = 1 ∨ k = 2 ∨ k = 3 ∨ k = 4 ∨ k = 5 ∨ k = 6 by omega) with rfl | rfl | rfl | rfl | rfl | rfl | rfl
    · exact zb_I_f (by decide) h2 _
    · exact zb_I_f (by decide) h2 _
    · show zb_I 2 (zb_fin (zb_cc O 2 t nm ag B1)) (zb_fin (zb_cc O 2 t nm ag E1))
      rw [zb_cc_eq, zb_cc_eq]
      exact zb_I_c (by decide) h2 h20 h1 _
    · show zb_I 3 (zb_fin (zb_cc O 3 t nm ag B1)) (zb_fin (zb_cc O 3 t nm ag E1))
      rw [zb_cc_eq, zb_cc_eq]
      exact zb_I_c (by decide) h2 h20 h1 _
    · exact zb_I_e (by decide) h2 h20 h1
    · exact zb_I_e (by decide) h2 h20 h1
    · exact zb_I_o h2 h20 h1 _
  · rw [zb_bind_no h, zb_bind_no h]
    exact ⟨rfl, rfl, fun q => absurd q zb_m3⟩
theorem zb_cj_lt {O : zo_O} (hw : zo_wf O) {t nm : Nat} (ht : t < 6) (hnm : nm < 3) : ∀ n p j, n + p ≤ 4 → zb_cj O t nm n p = some j → j < 72
  | 0, _, _, _, h => by cases h
  | n + 1, p, j, hn, h => by
    rw [zb_cj] at h
    rcases zo_fm_pl hw ht hnm (pa := p) (by omega) (an := -1) with e | ⟨i, hi, e, -⟩
    · rw [e, zb_pl_n] at h
      exact zb_cj_lt hw ht hnm n (p + 1) j (by omega) h
    · rw [e, zb_pl_s (by omega)] at h
      dsimp only at h
      by_cases h8 : zb_nz (O 6 i) (nI 8) = true
      · rw [if_pos h8] at h
        exact zb_cj_lt hw ht hnm n (p + 1) j (by omega) h
      · rw [if_neg h8] at h
        cases h
        exact hi
/-- of a call that compiles the parameter is a number below 4 -/
theorem zb_par {O : zo_O} {k t nm ag : Nat} {B : Nat → Int32} (hk : k = 2 ∨ k = 3) (he : zb_bind O k t nm ag B 0 = 0) : ∃ pa, pa < 4 ∧ zb_bind O k t nm ag B 6 = nI pa := by
  by_cases h : zo_th O t = true ∧ zo_hf O t (nI 8) = false
  · rw [zb_bind_ok h] at he ⊢
    have key : ∀ k, (zb_fin (zb_cr O k (zb_b1 O t B) (zb_cJ O t nm ag))) 0 = 0 → ∃ pa, pa < 4 ∧ (zb_fin (zb_cr O k (zb_b1 O t B) (zb_cJ O t nm ag))) 6 = nI pa := by
      intro k he
      cases hr : zb_cJ O t nm ag with
      | none => rw [hr] at he; exact absurd he zb_m4
      | some j =>
        rw [hr] at he
        by_cases hx : k = 3 ∧ zb_nz (O 6 j) (nI 1) = false
        · have q : (zb_fin (zb_m O k j (zb_b1 O t B))) 0 = 0 := he
          rw [zb_m_no hx.1 hx.2] at q
          exact absurd q zb_m5
        · refine ⟨j % 4, by omega, ?_⟩
          show (zb_fin (zb_m O k j (zb_b1 O t B))) 6 = _
          rw [zb_m_yes hx]
          rfl
    rcases hk with rfl | rfl
    · have q : zb_fin (zb_cc O 2 t nm ag (zb_b1 O t B)) 0 = 0 := he
      rw [zb_cc_eq] at q
      have r := key 2 q
      rw [← zb_cc_eq] at r
      exact r
    · have q : zb_fin (zb_cc O 3 t nm ag (zb_b1 O t B)) 0 = 0 := he
      rw [zb_cc_eq] at q
      have r := key 3 q
      rw [← zb_cc_eq] at r
      exact r
  · rw [zb_bind_no h] at he
    exact absurd he zb_m3
theorem zb_fw_0 {O : zo_O} {t nm ag pa : Nat} {B : Nat → Int32} : zb_fw O 0 t nm ag pa B = if B 2 = 0 then (if zo_th O t = true then (if zo_hf O t (nI 8) = true then -8 else zb_ff O 0 B (zb_pl (zo_ff O nm (B 3) 6 t))) else -6) else if zb_sv O t B (zb_pl (zo_ff O nm (-1) 6 t)) = true then nI 0 else nI 2 := rfl
theorem zb_fw_1 {O : zo_O} {t nm ag pa : Nat} {B : Nat → Int32} : zb_fw O 1 t nm ag pa B = if B 2 = 0 then (if zo_th O t = true then (if zo_hf O t (nI 8) = true then -8 else zb_ff O 1 B (zb_pl (zo_ff O nm (B 3) 6 t))) else -6) else if zb_sv O t B (zb_pl (zo_ff O nm (-1) 6 t)) = true then nI 0 else nI 2 := rfl
theorem zb_fw_2 {O : zo_O} {t nm ag pa : Nat} {B : Nat → Int32} : zb_fw O 2 t nm ag pa B = if B 2 = 0 then (if zo_th O t = true then (if zo_hf O t (nI 8) = true then -8 else zb_fc O t B (zb_pl (zo_fm O t nm pa (B 7)))) else -6) else if zb_sv O t B (zb_pl (zo_ff O nm (-1) 6 t)) = true then nI 0 else nI 2 := rfl
theorem zb_fw_3 {O : zo_O} {t nm ag pa : Nat} {B : Nat → Int32} : zb_fw O 3 t nm ag pa B = if B 2 = 0 then (if zo_th O t = true then (if zo_hf O t (nI 8) = true then -8 else zb_fc O t B (zb_pl (zo_fm O t nm pa (B 7)))) else -6) else if zb_sv O t B (zb_pl (zo_ff O nm (-1) 6 t)) = true then nI 0 else nI 2 := rfl
theorem zb_fw_4 {O : zo_O} {t nm ag pa : Nat} {B : Nat → Int32} : zb_fw O 4 t nm ag pa B = if B 2 = 0 then (if zo_th O t = true then (if zo_hf O t (nI 8) = true then -8 else (if zo_hf O t (nI 3) = true then -9 else nI 0)) else -6) else if zb_sv O t B (zb_pl (zo_ff O nm (-1) 6 t)) = true then nI 0 else nI 2 := rfl
theorem zb_fw_5 {O : zo_O} {t nm ag pa : Nat} {B : Nat → Int32} : zb_fw O 5 t nm ag pa B = if B 2 = 0 then (if zo_th O t = true then (if zo_hf O t (nI 8) = true then -8 else (if zb_sb O t B = true then -9 else nI 0)) else -6) else if zb_sv O t B (zb_pl (zo_ff O nm (-1) 6 t)) = true then nI 0 else nI 2 := rfl
theorem zb_fw_6 {O : zo_O} {t nm ag pa : Nat} {B : Nat → Int32} : zb_fw O 6 t nm ag pa B = if B 2 = 0 then (if zo_th O t = true then (if zo_hf O t (nI 8) = true then -8 else zb_fo O t B (zb_pl (zo_fm O t nm ag (-1)))) else -6) else if zb_sv O t B (zb_pl (zo_ff O nm (-1) 6 t)) = true then nI 0 else nI 2 := rfl
theorem zb_fw_sm {O : zo_O} {k t nm ag pa : Nat} (hk : k < 7) {B E : Nat → Int32} (h : zb_sm k B E) : zb_fw O k t nm ag pa B = zb_fw O k t nm ag pa E := by
  obtain ⟨h2, ha, hb, hc, hd⟩ := h
  have esb : B 1 = E 1 → zb_sb O t B = zb_sb O t E := fun h1 => by unfold zb_sb; rw [h1]
  rcases (show k = 0 ∨ k = 1 ∨ k = 2 ∨ k = 3 ∨ k = 4 ∨ k = 5 ∨ k = 6 by omega) with rfl | rfl | rfl | rfl | rfl | rfl | rfl
  · obtain ⟨h3, h4, h5⟩ := ha (by decide)
    have e1 : ∀ r, zb_ff O 0 B r = zb_ff O 0 E r := fun r => by unfold zb_ff; rw [h5]
    have e2 : ∀ r, zb_sv O t B r = zb_sv O t E r := fun r => by unfold zb_sv; rw [h3, h4]
    rw [zb_fw_0, zb_fw_0, h2, h3, e1, e2]
  · obtain ⟨h3, h4, h5⟩ := ha (by decide)
    have e1 : ∀ r, zb_ff O 1 B r = zb_ff O 1 E r := fun r => by unfold zb_ff; rw [h5]
    have e2 : ∀ r, zb_sv O t B r = zb_sv O t E r := fun r => by unfold zb_sv; rw [h3, h4]
    rw [zb_fw_1, zb_fw_1, h2, h3, e1, e2]
  · obtain ⟨h1, h20⟩ := hb (by decide)
    obtain ⟨h5, h6, h7, h8⟩ := hc (by decide)
    have e20 : E 2 = 0 := h2 ▸ h20
    have e1 : ∀ r, zb_fc O t B r = zb_fc O t E r := fun r => by unfold zb_fc; rw [h1, h5, h8]
    rw [zb_fw_2, zb_fw_2, if_pos h20, if_pos e20, h7, e1]
  · obtain ⟨h1, h20⟩ := hb (by decide)
    obtain ⟨h5, h6, h7, h8⟩ := hc (by decide)
    have e20 : E 2 = 0 := h2 ▸ h20
    have e1 : ∀ r, zb_fc O t B r = zb_fc O t E r := fun r => by unfold zb_fc; rw [h1, h5, h8]
    rw [zb_fw_3, zb_fw_3, if_pos h20, if_pos e20, h7, e1]
  · obtain ⟨h1, h20⟩ := hb (by decide)
    have e20 : E 2 = 0 := h2 ▸ h20
    rw [zb_fw_4, zb_fw_4, if_pos h20, if_pos e20]
  · obtain ⟨h1, h20⟩ := hb (by decide)
    have e20 : E 2 = 0 := h2 ▸ h20
    rw [zb_fw_5, zb_fw_5, if_pos h20, if_pos e20, esb h1]
  · obtain ⟨h1, h20⟩ := hb (by decide)
    have h7 := hd rfl
    have e20 : E 2 = 0 := h2 ▸ h20
    have e1 : ∀ r, zb_fo O t B r = zb_fo O t E r := fun r => by unfold zb_fo; rw [esb h1, h7]
    rw [zb_fw_6, zb_fw_6, if_pos h20, if_pos e20, e1]
theorem zb_sa_sm {k : Nat} (hk : k < 7) {B B2 E E2 : Nat → Int32} (h : zb_sm k B B2) (g : zb_sm k E E2) : zb_sa k B E = zb_sa k B2 E2 := by
  obtain ⟨h2, ha, hb, hc, hd⟩ := h
  obtain ⟨g2, ga, gb, gc, gd⟩ := g
  rcases (show k = 0 ∨ k = 1 ∨ k = 2 ∨ k = 3 ∨ k = 4 ∨ k = 5 ∨ k = 6 by omega) with rfl | rfl | rfl | rfl | rfl | rfl | rfl
  · obtain ⟨h3, h4, h5⟩ := ha (by decide)
    obtain ⟨g3, g4, g5⟩ := ga (by decide)
    simp only [zb_sa, zb_sf, h2, h3, h4, h5, g2, g3, g4, g5]
  · obtain ⟨h3, h4, h5⟩ := ha (by decide)
    obtain ⟨g3, g4, g5⟩ := ga (by decide)
    simp only [zb_sa, zb_sf, h2, h3, h4, h5, g2, g3, g4, g5]
  · obtain ⟨h1, -⟩ := hb (by decide)
    obtain ⟨h5, h6, h7, h8⟩ := hc (by decide)
    obtain ⟨g1, -⟩ := gb (by decide)
    obtain ⟨g5, g6, g7, g8⟩ := gc (by decide)
    simp only [zb_sa, h1, h5, h6, h7, g1, g5, g6, g7]
  · obtain ⟨h1, -⟩ := hb (by decide)
    obtain ⟨h5, h6, h7, h8⟩ := hc (by decide)
    obtain ⟨g1, -⟩ := gb (by decide)
    obtain ⟨g5, g6, g7, g8⟩ := gc (by decide)
    simp only [zb_sa, h1, h5, h6, h7, g1, g5, g6, g7]
  · rfl
  · obtain ⟨h1, -⟩ := hb (by decide)
    obtain ⟨g1, -⟩ := gb (by decide)
    simp only [zb_sa, h1, g1]
  · have h7 := hd rfl
    have g7 := gd rfl
    simp only [zb_sa, h7, g7]
/-- the class's answers, out of the offers and the use alone -/
def zc_bd (O : zo_O) (k t nm ag : Nat) : Nat → Int32 := zb_bind O k t nm ag zc_Z
def zc_fate (V : Nat → zo_O) (k t nm ag : Nat) : Int32 := if zc_bd (V 0) k t nm ag 0 = 0 then zb_fw (V 1) k t nm ag (zc_bd (V 0) k t nm ag 6).toNatClampNeg (zc_bd (V 0) k t nm ag) else zc_bd (V 0) k t nm ag 0
def zc_rec (V : Nat → zo_O) (k t nm ag : Nat) : Int32 := if zc_bd (V 0) k t nm ag 0 = 0 then (if zc_bd (V 1) k t nm ag 0 = 0 then (if zb_sa k (zc_bd (V 0) k t nm ag) (zc_bd (V 1) k t nm ag) = true then nI 0 else nI 1) else zc_bd (V 1) k t nm ag 0) else zc_bd (V 0) k t nm ag 0
