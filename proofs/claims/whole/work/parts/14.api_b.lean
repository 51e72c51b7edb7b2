def zc_R (c : Bool) : Int32 := if c = true then nI 0 else -1
def zc_W (c : Bool) (V V1 : Nat → zo_O) : Nat → zo_O := if c = true then V1 else V
theorem zk_bi {a b : Bool} (h : zk_b a = zk_b b) : a = b := by
  cases a <;> cases b
  · rfl
  · exact absurd h (by decide)
  · exact absurd h (by decide)
  · rfl
theorem zk_bj {a b : Bool} (h : ¬ zk_b a = zk_b b) : ¬ a = b := fun q => h (by rw [q])
def zc_ty1 (x2 : Int32) (sp : Nat) : Bool := !zb_nz x2 (nI 1) || (!zb_nz x2 (nI 4) && decide (sp = 6))
def zc_typeC (V : Nat → zo_O) (x0 x1 x2 x3 x4 : Int32) : Bool := zc_bl x0 (nI 2) && zc_bl x1 (nI 6) && zc_bl x2 (nI 16) && zc_bl x3 (nI 7) && zc_bl x4 (nI 64) && zc_ty1 x2 x3.toNatClampNeg && zo_cn (V x0.toNatClampNeg) x1.toNatClampNeg x3.toNatClampNeg x4 && !(zo_th (V x0.toNatClampNeg) x1.toNatClampNeg && decide (¬ zo_hf (V x0.toNatClampNeg) x1.toNatClampNeg (nI 1) = zb_nz x2 (nI 1)) && zo_nmL (V x0.toNatClampNeg) x1.toNatClampNeg 6 0)
def zc_dropC (V : Nat → zo_O) (x0 x1 : Int32) : Bool := zc_tt V x0 x1 && !zo_nmL (V x0.toNatClampNeg) x1.toNatClampNeg 6 0
def zc_fieldC (V : Nat → zo_O) (x0 x1 x2 : Int32) : Bool := zc_bl x0 (nI 24) && zc_bl x1 (nI 4) && zc_ff x2 && zo_th (V (x0.toNatClampNeg / 12)) (x0.toNatClampNeg / 2 % 6)
def zc_methC (V : Nat → zo_O) (x0 x1 x2 x3 : Int32) : Bool := zc_bl x0 (nI 12) && zc_bl x1 (nI 3) && zc_bl x2 (nI 16) && zc_mf x3 && zo_th (V (x0.toNatClampNeg / 6)) (x0.toNatClampNeg % 6)
/-- cut: none of a field, none of a method -/
def zc_cutF (V : Nat → zo_O) (x0 x1 x2 x3 : Int32) : Bool := zc_tt V x0 x1 && decide (x3 = nI 4) && zc_bl x2 (nI 4) && zo_fth (V x0.toNatClampNeg) (x1.toNatClampNeg * 4 + x2.toNatClampNeg)
def zc_cutM (V : Nat → zo_O) (x0 x1 x2 x3 : Int32) : Bool := zc_tt V x0 x1 && !decide (x3 = nI 4) && zc_bl x2 (nI 3) && zc_bl x3 (nI 4) && zo_mth (V x0.toNatClampNeg) (x1.toNatClampNeg * 12 + x2.toNatClampNeg * 4 + x3.toNatClampNeg)
theorem zc_tt_n {V : Nat → zo_O} {x y : Int32} (h : zc_tt V x y = true) : ∃ v t, v < 2 ∧ t < 6 ∧ x = nI v ∧ y = nI t ∧ (nI v).toNatClampNeg = v ∧ (nI t).toNatClampNeg = t := by
  unfold zc_tt at h
  simp only [Bool.and_eq_true] at h
  obtain ⟨v, hv, e1, q1⟩ := zc_bl_n h.1.1 (by decide)
  obtain ⟨t, ht, e2, q2⟩ := zc_bl_n h.1.2 (by decide)
  exact ⟨v, t, hv, ht, e1, e2, q1, q2⟩
abbrev rm_A_type : Room := { frames := 3, cells := 0, slots := 0, locals := 67 }
set_option maxHeartbeats 4000000 in
set_option maxRecDepth 100000 in
/-- type -/
theorem sp_A_type (l : Launch) {h : zk_H} {V : Nat → zo_O} {uk ut un : Nat → Nat} {ua : Nat → Int32} {uc : Nat} {B E : Nat → Int32} (hS : zc_at h V uk ut un ua uc B E) {x0 x1 x2 x3 x4 : Int32} {K : Option Value → zk_H → Prop} (hK : ∀ (h' : zk_H) (B' E' : Nat → Int32), zc_at h' (zc_W (zc_typeC V x0 x1 x2 x3 x4) V (zc_up V x0.toNatClampNeg (zc_pt (V x0.toNatClampNeg) x1.toNatClampNeg x2 x3 x4))) uk ut un ua uc B' E' → zc_fr h h' → K (some (.int (zc_R (zc_typeC V x0 x1 x2 x3 x4)))) h') : zk_S l y_A_type b_A_type 8 (some .int) rm_A_type [.ref (0 + 1), .int x0, .int x1, .int x2, .int x3, .int x4] h K := by
  refine zk_S_of R_A "type" (by decide) rfl rfl [some (.ref (0 + 1)), some (.int x0), some (.int x1), some (.int x2), some (.int x3), some (.int x4), none, none] 2 rfl (Nat.le_of_ble_eq_true rfl) (fun p e s m ar below meth c D dA b base C => ?_)
  have J90 : ∀ (v t sp : Nat) (hv : v < 2) (ht : t < 6) (hsp : sp < 7) (qv : (nI v).toNatClampNeg = v) (qt : (nI t).toNatClampNeg = t) (qsp : (nI sp).toNatClampNeg = sp) (k1 : zc_bl (nI v) (nI 2) = true) (k2 : zc_bl (nI t) (nI 6) = true) (k3 : zc_bl x2 (nI 16) = true) (k4 : zc_bl (nI sp) (nI 7) = true) (k5 : zc_bl x4 (nI 64) = true) (k6 : zc_ty1 x2 sp = true), (∀ (h' : zk_H) (B' E' : Nat → Int32), zc_at h' (zc_W (zc_typeC V (nI v) (nI t) x2 (nI sp) x4) V (zc_up V (nI v).toNatClampNeg (zc_pt (V (nI v).toNatClampNeg) (nI t).toNatClampNeg x2 (nI sp) x4))) uk ut un ua uc B' E' → zc_fr h h' → K (some (.int (zc_R (zc_typeC V (nI v) (nI t) x2 (nI sp) x4)))) h') → zk_V p l e rm_A_type s m ar below meth c 8 D dA b base (MQ below (zk_Q K D dA b base) ar s rm_A_type.cells rm_A_type.slots (fun q : Nat => base ≤ q)) 0 0 90 [some (.ref (0 + 1)), some (.int (nI v)), some (.int (nI t)), some (.int x2), some (.int (nI sp)), some (.int x4), some (.ref (9 * v + 1 + 1)), some (.int (zk_b (zb_nz x2 (nI 1))))] [] h := by
    intro v t sp hv ht hsp qv qt qsp k1 k2 k3 k4 k5 k6 hK
    have hO := zc_o hS hv
    have ho := hO.1
    refine zr_aload C d_A_type_90 (n := 92) rfl rfl ?_
    refine zr_iload_n C d_A_type_92 (n := 93) rfl rfl ?_
    refine zr_iload C d_A_type_93 (n := 95) rfl rfl ?_
    refine zr_iload C d_A_type_95 (n := 97) rfl rfl ?_
    refine zr_callV3 C k_A_48 d_A_type_97 (nx := 100) rfl ho rfl ⟨by decide, by decide⟩ (Nat.le_of_ble_eq_true rfl) ⟨by decide, by decide⟩ (sp_O_canName l hO ht (by omega) ?_)
    refine zr_if_ne C d_A_type_100 (n := 103) rfl (t := 105) (by decide) (fun c1 => ?_) (fun c1 => ?_)
    · replace c1 := zk_bn c1
      refine zr_aload C d_A_type_105 (n := 107) rfl rfl ?_
      refine zr_iload_n C d_A_type_107 (n := 108) rfl rfl ?_
      refine zr_callV1 C k_A_52 d_A_type_108 (nx := 111) rfl ho rfl ⟨by decide, by decide⟩ (Nat.le_of_ble_eq_true rfl) ⟨by decide, by decide⟩ (sp_O_isThere l hO ht ?_)
      refine zr_if_eq C d_A_type_111 (n := 114) rfl (t := 136) (by decide) (fun c2 => ?_) (fun c2 => ?_)
      · replace c2 := zk_bz c2
        refine zr_aload C d_A_type_136 (n := 138) rfl rfl ?_
        refine zr_iload_n C d_A_type_138 (n := 139) rfl rfl ?_
        refine zr_iload_n C d_A_type_139 (n := 140) rfl rfl ?_
        refine zr_iload C d_A_type_140 (n := 142) rfl rfl ?_
        refine zr_iload C d_A_type_142 (n := 144) rfl rfl ?_
        refine zr_callV4 C k_A_62 d_A_type_144 (nx := 147) rfl ho rfl ⟨by decide, by decide⟩ (Nat.le_of_ble_eq_true rfl) ⟨by decide, by decide⟩ (sp_O_putType l hO ht ?_)
        refine zr_iconst C d_A_type_147 (n := 148) rfl (v := nI 0) (by decide) ?_
        exact zr_iret C d_A_type_148 rfl (by have e9 : zc_typeC V (nI v) (nI t) x2 (nI sp) x4 = true := (by simp [zc_typeC, qv, qt, qsp, k6, k1, k2, k3, k4, k5, c1, c2]); rw [e9] at hK; simp only [zc_W, zc_R, if_true, qv, qt] at hK; exact hK _ B E (zc_hpt hS hv rfl).1 (zc_hpt hS hv rfl).2) (Nat.zero_le _) (Nat.zero_le _)
      · replace c2 := zk_bn c2
        refine zr_aload C d_A_type_114 (n := 116) rfl rfl ?_
        refine zr_iload_n C d_A_type_116 (n := 117) rfl rfl ?_
        refine zr_callV1 C k_A_56 d_A_type_117 (nx := 120) rfl ho rfl ⟨by decide, by decide⟩ (Nat.le_of_ble_eq_true rfl) ⟨by decide, by decide⟩ (sp_O_isInterface l hO ht ?_)
        refine zr_iload C d_A_type_120 (n := 122) rfl rfl ?_
        refine zr_icmp_eq C d_A_type_122 (n := 125) rfl (t := 136) (by decide) (fun c3 => ?_) (fun c3 => ?_)
        · replace c3 := zk_bi c3
          refine zr_aload C d_A_type_136 (n := 138) rfl rfl ?_
          refine zr_iload_n C d_A_type_138 (n := 139) rfl rfl ?_
          refine zr_iload_n C d_A_type_139 (n := 140) rfl rfl ?_
          refine zr_iload C d_A_type_140 (n := 142) rfl rfl ?_
          refine zr_iload C d_A_type_142 (n := 144) rfl rfl ?_
          refine zr_callV4 C k_A_62 d_A_type_144 (nx := 147) rfl ho rfl ⟨by decide, by decide⟩ (Nat.le_of_ble_eq_true rfl) ⟨by decide, by decide⟩ (sp_O_putType l hO ht ?_)
          refine zr_iconst C d_A_type_147 (n := 148) rfl (v := nI 0) (by decide) ?_
          exact zr_iret C d_A_type_148 rfl (by have e9 : zc_typeC V (nI v) (nI t) x2 (nI sp) x4 = true := (by simp [zc_typeC, qv, qt, qsp, k6, k1, k2, k3, k4, k5, c1, c2, c3]); rw [e9] at hK; simp only [zc_W, zc_R, if_true, qv, qt] at hK; exact hK _ B E (zc_hpt hS hv rfl).1 (zc_hpt hS hv rfl).2) (Nat.zero_le _) (Nat.zero_le _)
        · replace c3 := zk_bj c3
          refine zr_aload C d_A_type_125 (n := 127) rfl rfl ?_
          refine zr_iload_n C d_A_type_127 (n := 128) rfl rfl ?_
          refine zr_callV1 C k_A_59 d_A_type_128 (nx := 131) rfl ho rfl ⟨by decide, by decide⟩ (Nat.le_of_ble_eq_true rfl) ⟨by decide, by decide⟩ (sp_O_isNamed l hO ht ?_)
          refine zr_if_eq C d_A_type_131 (n := 134) rfl (t := 136) (by decide) (fun c4 => ?_) (fun c4 => ?_)
          · replace c4 := zk_bz c4
            refine zr_aload C d_A_type_136 (n := 138) rfl rfl ?_
            refine zr_iload_n C d_A_type_138 (n := 139) rfl rfl ?_
            refine zr_iload_n C d_A_type_139 (n := 140) rfl rfl ?_
            refine zr_iload C d_A_type_140 (n := 142) rfl rfl ?_
            refine zr_iload C d_A_type_142 (n := 144) rfl rfl ?_
            refine zr_callV4 C k_A_62 d_A_type_144 (nx := 147) rfl ho rfl ⟨by decide, by decide⟩ (Nat.le_of_ble_eq_true rfl) ⟨by decide, by decide⟩ (sp_O_putType l hO ht ?_)
            refine zr_iconst C d_A_type_147 (n := 148) rfl (v := nI 0) (by decide) ?_
            exact zr_iret C d_A_type_148 rfl (by have e9 : zc_typeC V (nI v) (nI t) x2 (nI sp) x4 = true := (by simp [zc_typeC, qv, qt, qsp, k6, k1, k2, k3, k4, k5, c1, c2, c3, c4]); rw [e9] at hK; simp only [zc_W, zc_R, if_true, qv, qt] at hK; exact hK _ B E (zc_hpt hS hv rfl).1 (zc_hpt hS hv rfl).2) (Nat.zero_le _) (Nat.zero_le _)
          · replace c4 := zk_bn c4
            refine zr_iconst C d_A_type_134 (n := 135) rfl (v := -1) (by decide) ?_
            exact zr_iret C d_A_type_135 rfl (by have e9 : zc_typeC V (nI v) (nI t) x2 (nI sp) x4 = false := (by simp [zc_typeC, qv, qt, qsp, k6, k1, k2, k3, k4, k5, c1, c2, c3, c4]); rw [e9] at hK; exact hK h B E hS zc_fr_r) (Nat.zero_le _) (Nat.zero_le _)
    · replace c1 := zk_bz c1
      refine zr_iconst C d_A_type_103 (n := 104) rfl (v := -1) (by decide) ?_
      exact zr_iret C d_A_type_104 rfl (by have e9 : zc_typeC V (nI v) (nI t) x2 (nI sp) x4 = false := (by simp [zc_typeC, qv, qt, qsp, k6, k1, k2, k3, k4, k5, c1]); rw [e9] at hK; exact hK h B E hS zc_fr_r) (Nat.zero_le _) (Nat.zero_le _)
  have J70 : ∀ (v t sp : Nat) (hv : v < 2) (ht : t < 6) (hsp : sp < 7) (qv : (nI v).toNatClampNeg = v) (qt : (nI t).toNatClampNeg = t) (qsp : (nI sp).toNatClampNeg = sp) (k1 : zc_bl (nI v) (nI 2) = true) (k2 : zc_bl (nI t) (nI 6) = true) (k3 : zc_bl x2 (nI 16) = true) (k4 : zc_bl (nI sp) (nI 7) = true) (k5 : zc_bl x4 (nI 64) = true), (∀ (h' : zk_H) (B' E' : Nat → Int32), zc_at h' (zc_W (zc_typeC V (nI v) (nI t) x2 (nI sp) x4) V (zc_up V (nI v).toNatClampNeg (zc_pt (V (nI v).toNatClampNeg) (nI t).toNatClampNeg x2 (nI sp) x4))) uk ut un ua uc B' E' → zc_fr h h' → K (some (.int (zc_R (zc_typeC V (nI v) (nI t) x2 (nI sp) x4)))) h') → zk_V p l e rm_A_type s m ar below meth c 8 D dA b base (MQ below (zk_Q K D dA b base) ar s rm_A_type.cells rm_A_type.slots (fun q : Nat => base ≤ q)) 0 0 70 [some (.ref (0 + 1)), some (.int (nI v)), some (.int (nI t)), some (.int x2), some (.int (nI sp)), some (.int x4), some (.ref (9 * v + 1 + 1)), some (.int (zk_b (zb_nz x2 (nI 1))))] [] h := by
    intro v t sp hv ht hsp qv qt qsp k1 k2 k3 k4 k5 hK
    refine zr_iload C d_A_type_70 (n := 72) rfl rfl ?_
    refine zr_if_eq C d_A_type_72 (n := 75) rfl (t := 90) (by decide) (fun c1 => ?_) (fun c1 => ?_)
    · replace c1 := zk_bz c1
      exact J90 v t sp hv ht hsp qv qt qsp k1 k2 k3 k4 k5 (by simp [zc_ty1, c1]) hK
    · replace c1 := zk_bn c1
      refine zr_iload_n C d_A_type_75 (n := 76) rfl rfl ?_
      refine zr_iconst C d_A_type_76 (n := 77) rfl (v := nI 4) (by decide) ?_
      refine zr_iand C d_A_type_77 (n := 78) rfl ?_
      refine zr_if_ne C d_A_type_78 (n := 81) rfl (t := 88) (by decide) (fun c2 => ?_) (fun c2 => ?_)
      · replace c2 := zb_nzt c2
        refine zr_iconst C d_A_type_88 (n := 89) rfl (v := -1) (by decide) ?_
        exact zr_iret C d_A_type_89 rfl (by have e9 : zc_typeC V (nI v) (nI t) x2 (nI sp) x4 = false := (by simp [zc_typeC, zc_ty1, qv, qt, qsp, k1, k2, k3, k4, k5, c1, c2]); rw [e9] at hK; exact hK h B E hS zc_fr_r) (Nat.zero_le _) (Nat.zero_le _)
      · replace c2 := zb_nzf c2
        refine zr_iload C d_A_type_81 (n := 83) rfl rfl ?_
        refine zr_bipush C d_A_type_83 (n := 85) rfl (v := nI 6) (by decide) ?_
        refine zr_icmp_eq C d_A_type_85 (n := 88) rfl (t := 90) (by decide) (fun c3 => ?_) (fun c3 => ?_)
        · replace c3 := zk_eq (by omega) (by omega) c3
          exact J90 v t sp hv ht hsp qv qt qsp k1 k2 k3 k4 k5 (by simp [zc_ty1, c1, c2, c3]) hK
        · replace c3 := zk_ne (by omega) (by omega) c3
          refine zr_iconst C d_A_type_88 (n := 89) rfl (v := -1) (by decide) ?_
          exact zr_iret C d_A_type_89 rfl (by have e9 : zc_typeC V (nI v) (nI t) x2 (nI sp) x4 = false := (by simp [zc_typeC, zc_ty1, qv, qt, qsp, k1, k2, k3, k4, k5, c1, c2, c3]); rw [e9] at hK; exact hK h B E hS zc_fr_r) (Nat.zero_le _) (Nat.zero_le _)
  refine zr_iload_n C d_A_type_0 (n := 1) rfl rfl ?_
  refine zr_iconst C d_A_type_1 (n := 2) rfl (v := nI 2) (by decide) ?_
  refine zr_callS2 C k_A_40 d_A_type_2 (nx := 5) rfl ⟨by decide, by decide⟩ (Nat.le_of_ble_eq_true rfl) ⟨by decide, by decide⟩ (sp_A_isBelow l ?_)
  refine zr_if_eq C d_A_type_5 (n := 8) rfl (t := 26) (by decide) (fun c1 => ?_) (fun c1 => ?_)
  · replace c1 := zk_bz c1
    refine zr_iconst C d_A_type_26 (n := 27) rfl (v := -1) (by decide) ?_
    exact zr_iret C d_A_type_27 rfl (by have e9 : zc_typeC V x0 x1 x2 x3 x4 = false := (by simp [zc_typeC, c1]); rw [e9] at hK; exact hK h B E hS zc_fr_r) (Nat.zero_le _) (Nat.zero_le _)
  · replace c1 := zk_bn c1
    obtain ⟨v, hv, rfl, qv⟩ := zc_bl_n c1 (by decide)
    refine zr_iload_n C d_A_type_8 (n := 9) rfl rfl ?_
    refine zr_bipush C d_A_type_9 (n := 11) rfl (v := nI 6) (by decide) ?_
    refine zr_callS2 C k_A_40 d_A_type_11 (nx := 14) rfl ⟨by decide, by decide⟩ (Nat.le_of_ble_eq_true rfl) ⟨by decide, by decide⟩ (sp_A_isBelow l ?_)
    refine zr_if_eq C d_A_type_14 (n := 17) rfl (t := 26) (by decide) (fun c2 => ?_) (fun c2 => ?_)
    · replace c2 := zk_bz c2
      refine zr_iconst C d_A_type_26 (n := 27) rfl (v := -1) (by decide) ?_
      exact zr_iret C d_A_type_27 rfl (by have e9 : zc_typeC V (nI v) x1 x2 x3 x4 = false := (by simp [zc_typeC, c1, c2]); rw [e9] at hK; exact hK h B E hS zc_fr_r) (Nat.zero_le _) (Nat.zero_le _)
    · replace c2 := zk_bn c2
      obtain ⟨t, ht, rfl, qt⟩ := zc_bl_n c2 (by decide)
      refine zr_iload_n C d_A_type_17 (n := 18) rfl rfl ?_
      refine zr_bipush C d_A_type_18 (n := 20) rfl (v := nI 16) (by decide) ?_
      refine zr_callS2 C k_A_40 d_A_type_20 (nx := 23) rfl ⟨by decide, by decide⟩ (Nat.le_of_ble_eq_true rfl) ⟨by decide, by decide⟩ (sp_A_isBelow l ?_)
      refine zr_if_ne C d_A_type_23 (n := 26) rfl (t := 28) (by decide) (fun c3 => ?_) (fun c3 => ?_)
      · replace c3 := zk_bn c3
        refine zr_iload C d_A_type_28 (n := 30) rfl rfl ?_
        refine zr_bipush C d_A_type_30 (n := 32) rfl (v := nI 7) (by decide) ?_
        refine zr_callS2 C k_A_40 d_A_type_32 (nx := 35) rfl ⟨by decide, by decide⟩ (Nat.le_of_ble_eq_true rfl) ⟨by decide, by decide⟩ (sp_A_isBelow l ?_)
        refine zr_if_eq C d_A_type_35 (n := 38) rfl (t := 48) (by decide) (fun c4 => ?_) (fun c4 => ?_)
        · replace c4 := zk_bz c4
          refine zr_iconst C d_A_type_48 (n := 49) rfl (v := -1) (by decide) ?_
          exact zr_iret C d_A_type_49 rfl (by have e9 : zc_typeC V (nI v) (nI t) x2 x3 x4 = false := (by simp [zc_typeC, c1, c2, c3, c4]); rw [e9] at hK; exact hK h B E hS zc_fr_r) (Nat.zero_le _) (Nat.zero_le _)
        · replace c4 := zk_bn c4
          obtain ⟨sp, hsp, rfl, qsp⟩ := zc_bl_n c4 (by decide)
          refine zr_iload C d_A_type_38 (n := 40) rfl rfl ?_
          refine zr_bipush C d_A_type_40 (n := 42) rfl (v := nI 64) (by decide) ?_
          refine zr_callS2 C k_A_40 d_A_type_42 (nx := 45) rfl ⟨by decide, by decide⟩ (Nat.le_of_ble_eq_true rfl) ⟨by decide, by decide⟩ (sp_A_isBelow l ?_)
          refine zr_if_ne C d_A_type_45 (n := 48) rfl (t := 50) (by decide) (fun c5 => ?_) (fun c5 => ?_)
          · replace c5 := zk_bn c5
            refine zr_aload_n C d_A_type_50 (n := 51) rfl rfl ?_
            refine zr_iload_n C d_A_type_51 (n := 52) rfl rfl ?_
            refine zr_callV1 C k_A_44 d_A_type_52 (nx := 55) rfl hS.1 rfl ⟨by decide, by decide⟩ (Nat.le_of_ble_eq_true rfl) ⟨by decide, by decide⟩ (sp_A_offerOf l hS hv ?_)
            have hO := zc_o hS hv
            have ho := hO.1
            refine zr_astore C d_A_type_55 (n := 57) rfl (by decide) rfl ?_
            refine zr_iload_n C d_A_type_57 (n := 58) rfl rfl ?_
            refine zr_iconst C d_A_type_58 (n := 59) rfl (v := nI 1) (by decide) ?_
            refine zr_iand C d_A_type_59 (n := 60) rfl ?_
            refine zr_if_eq C d_A_type_60 (n := 63) rfl (t := 67) (by decide) (fun c6 => ?_) (fun c6 => ?_)
            · replace c6 := zb_nzf c6
              refine zr_iconst C d_A_type_67 (n := 68) rfl (v := nI 0) (by decide) ?_
              refine zr_toe (y := zk_b (zb_nz x2 (nI 1))) (by rw [c6]; rfl) ?_
              refine zr_istore C d_A_type_68 (n := 70) rfl (by decide) rfl ?_
              exact J70 v t sp hv ht hsp qv qt qsp c1 c2 c3 c4 c5 hK
            · replace c6 := zb_nzt c6
              refine zr_iconst C d_A_type_63 (n := 64) rfl (v := nI 1) (by decide) ?_
              refine zr_goto C d_A_type_64 (t := 68) (by decide) ?_
              refine zr_toe (y := zk_b (zb_nz x2 (nI 1))) (by rw [c6]; rfl) ?_
              refine zr_istore C d_A_type_68 (n := 70) rfl (by decide) rfl ?_
              exact J70 v t sp hv ht hsp qv qt qsp c1 c2 c3 c4 c5 hK
          · replace c5 := zk_bz c5
            refine zr_iconst C d_A_type_48 (n := 49) rfl (v := -1) (by decide) ?_
            exact zr_iret C d_A_type_49 rfl (by have e9 : zc_typeC V (nI v) (nI t) x2 (nI sp) x4 = false := (by simp [zc_typeC, c1, c2, c3, c4, c5]); rw [e9] at hK; exact hK h B E hS zc_fr_r) (Nat.zero_le _) (Nat.zero_le _)
      · replace c3 := zk_bz c3
        refine zr_iconst C d_A_type_26 (n := 27) rfl (v := -1) (by decide) ?_
        exact zr_iret C d_A_type_27 rfl (by have e9 : zc_typeC V (nI v) (nI t) x2 x3 x4 = false := (by simp [zc_typeC, c1, c2, c3]); rw [e9] at hK; exact hK h B E hS zc_fr_r) (Nat.zero_le _) (Nat.zero_le _)
abbrev rm_A_drop : Room := { frames := 2, cells := 0, slots := 0, locals := 46 }
set_option maxHeartbeats 4000000 in
set_option maxRecDepth 100000 in
/-- drop -/
theorem sp_A_drop (l : Launch) {h : zk_H} {V : Nat → zo_O} {uk ut un : Nat → Nat} {ua : Nat → Int32} {uc : Nat} {B E : Nat → Int32} (hS : zc_at h V uk ut un ua uc B E) {x0 x1 : Int32} {K : Option Value → zk_H → Prop} (hK : ∀ (h' : zk_H) (B' E' : Nat → Int32), zc_at h' (zc_W (zc_dropC V x0 x1) V (zc_up V x0.toNatClampNeg (zc_rt (V x0.toNatClampNeg) x1.toNatClampNeg))) uk ut un ua uc B' E' → zc_fr h h' → K (some (.int (zc_R (zc_dropC V x0 x1)))) h') : zk_S l y_A_drop b_A_drop 3 (some .int) rm_A_drop [.ref (0 + 1), .int x0, .int x1] h K := by
  refine zk_S_of R_A "drop" (by decide) rfl rfl [some (.ref (0 + 1)), some (.int x0), some (.int x1)] 0 rfl (Nat.le_of_ble_eq_true rfl) (fun p e s m ar below meth c D dA b base C => ?_)
  refine zr_aload_n C d_A_drop_0 (n := 1) rfl rfl ?_
  refine zr_iload_n C d_A_drop_1 (n := 2) rfl rfl ?_
  refine zr_iload_n C d_A_drop_2 (n := 3) rfl rfl ?_
  refine zr_callV2 C k_A_66 d_A_drop_3 (nx := 6) rfl hS.1 rfl ⟨by decide, by decide⟩ (Nat.le_of_ble_eq_true rfl) ⟨by decide, by decide⟩ (sp_A_isTypeThere l hS ?_)
  refine zr_if_eq C d_A_drop_6 (n := 9) rfl (t := 21) (by decide) (fun c1 => ?_) (fun c1 => ?_)
  · replace c1 := zk_bz c1
    refine zr_iconst C d_A_drop_21 (n := 22) rfl (v := -1) (by decide) ?_
    exact zr_iret C d_A_drop_22 rfl (by have e9 : zc_dropC V x0 x1 = false := (by simp [zc_dropC, c1]); rw [e9] at hK; exact hK h B E hS zc_fr_r) (Nat.zero_le _) (Nat.zero_le _)
  · replace c1 := zk_bn c1
    obtain ⟨v, t, hv, ht, rfl, rfl, qv, qt⟩ := zc_tt_n c1
    refine zr_aload_n C d_A_drop_9 (n := 10) rfl rfl ?_
    refine zr_iload_n C d_A_drop_10 (n := 11) rfl rfl ?_
    refine zr_callV1 C k_A_44 d_A_drop_11 (nx := 14) rfl hS.1 rfl ⟨by decide, by decide⟩ (Nat.le_of_ble_eq_true rfl) ⟨by decide, by decide⟩ (sp_A_offerOf l hS hv ?_)
    have hO := zc_o hS hv
    have ho := hO.1
    refine zr_iload_n C d_A_drop_14 (n := 15) rfl rfl ?_
    refine zr_callV1 C k_A_59 d_A_drop_15 (nx := 18) rfl ho rfl ⟨by decide, by decide⟩ (Nat.le_of_ble_eq_true rfl) ⟨by decide, by decide⟩ (sp_O_isNamed l hO ht ?_)
    refine zr_if_eq C d_A_drop_18 (n := 21) rfl (t := 23) (by decide) (fun c2 => ?_) (fun c2 => ?_)
    · replace c2 := zk_bz c2
      refine zr_aload_n C d_A_drop_23 (n := 24) rfl rfl ?_
      refine zr_iload_n C d_A_drop_24 (n := 25) rfl rfl ?_
      refine zr_callV1 C k_A_44 d_A_drop_25 (nx := 28) rfl hS.1 rfl ⟨by decide, by decide⟩ (Nat.le_of_ble_eq_true rfl) ⟨by decide, by decide⟩ (sp_A_offerOf l hS hv ?_)
      refine zr_iload_n C d_A_drop_28 (n := 29) rfl rfl ?_
      refine zr_callV1 C k_A_69 d_A_drop_29 (nx := 32) rfl ho rfl ⟨by decide, by decide⟩ (Nat.le_of_ble_eq_true rfl) ⟨by decide, by decide⟩ (sp_O_removeType l hO ht ?_)
      refine zr_iconst C d_A_drop_32 (n := 33) rfl (v := nI 0) (by decide) ?_
      exact zr_iret C d_A_drop_33 rfl (by have e9 : zc_dropC V (nI v) (nI t) = true := (by simp [zc_dropC, qv, qt, c1, c2]); rw [e9] at hK; simp only [zc_W, zc_R, if_true, qv, qt] at hK; exact hK _ B E (zc_hrt hS hv rfl).1 (zc_hrt hS hv rfl).2) (Nat.zero_le _) (Nat.zero_le _)
    · replace c2 := zk_bn c2
      refine zr_iconst C d_A_drop_21 (n := 22) rfl (v := -1) (by decide) ?_
      exact zr_iret C d_A_drop_22 rfl (by have e9 : zc_dropC V (nI v) (nI t) = false := (by simp [zc_dropC, qv, qt, c1, c2]); rw [e9] at hK; exact hK h B E hS zc_fr_r) (Nat.zero_le _) (Nat.zero_le _)
abbrev rm_A_field : Room := { frames := 2, cells := 0, slots := 0, locals := 42 }
set_option maxHeartbeats 4000000 in
set_option maxRecDepth 100000 in
/-- field -/
theorem sp_A_field (l : Launch) {h : zk_H} {V : Nat → zo_O} {uk ut un : Nat → Nat} {ua : Nat → Int32} {uc : Nat} {B E : Nat → Int32} (hS : zc_at h V uk ut un ua uc B E) {x0 x1 x2 x3 : Int32} {K : Option Value → zk_H → Prop} (hK : ∀ (h' : zk_H) (B' E' : Nat → Int32), zc_at h' (zc_W (zc_fieldC V x0 x1 x2) V (zc_up V (x0.toNatClampNeg / 12) (zc_pf (V (x0.toNatClampNeg / 12)) (x0.toNatClampNeg / 2 % 6 * 4 + x1.toNatClampNeg) (nI (x0.toNatClampNeg % 2)) x2 x3))) uk ut un ua uc B' E' → zc_fr h h' → K (some (.int (zc_R (zc_fieldC V x0 x1 x2)))) h') : zk_S l y_A_field b_A_field 7 (some .int) rm_A_field [.ref (0 + 1), .int x0, .int x1, .int x2, .int x3] h K := by
  refine zk_S_of R_A "field" (by decide) rfl rfl [some (.ref (0 + 1)), some (.int x0), some (.int x1), some (.int x2), some (.int x3), none, none] 2 rfl (Nat.le_of_ble_eq_true rfl) (fun p e s m ar below meth c D dA b base C => ?_)
  refine zr_iload_n C d_A_field_0 (n := 1) rfl rfl ?_
  refine zr_bipush C d_A_field_1 (n := 3) rfl (v := nI 24) (by decide) ?_
  refine zr_callS2 C k_A_40 d_A_field_3 (nx := 6) rfl ⟨by decide, by decide⟩ (Nat.le_of_ble_eq_true rfl) ⟨by decide, by decide⟩ (sp_A_isBelow l ?_)
  refine zr_if_eq C d_A_field_6 (n := 9) rfl (t := 24) (by decide) (fun c1 => ?_) (fun c1 => ?_)
  · replace c1 := zk_bz c1
    refine zr_iconst C d_A_field_24 (n := 25) rfl (v := -1) (by decide) ?_
    exact zr_iret C d_A_field_25 rfl (by have e9 : zc_fieldC V x0 x1 x2 = false := (by simp [zc_fieldC, c1]); rw [e9] at hK; exact hK h B E hS zc_fr_r) (Nat.zero_le _) (Nat.zero_le _)
  · replace c1 := zk_bn c1
    obtain ⟨p0, hp0, rfl, qp0⟩ := zc_bl_n c1 (by decide)
    refine zr_iload_n C d_A_field_9 (n := 10) rfl rfl ?_
    refine zr_iconst C d_A_field_10 (n := 11) rfl (v := nI 4) (by decide) ?_
    refine zr_callS2 C k_A_40 d_A_field_11 (nx := 14) rfl ⟨by decide, by decide⟩ (Nat.le_of_ble_eq_true rfl) ⟨by decide, by decide⟩ (sp_A_isBelow l ?_)
    refine zr_if_eq C d_A_field_14 (n := 17) rfl (t := 24) (by decide) (fun c2 => ?_) (fun c2 => ?_)
    · replace c2 := zk_bz c2
      refine zr_iconst C d_A_field_24 (n := 25) rfl (v := -1) (by decide) ?_
      exact zr_iret C d_A_field_25 rfl (by have e9 : zc_fieldC V (nI p0) x1 x2 = false := (by simp [zc_fieldC, qp0, c1, c2]); rw [e9] at hK; exact hK h B E hS zc_fr_r) (Nat.zero_le _) (Nat.zero_le _)
    · replace c2 := zk_bn c2
      obtain ⟨n0, hn0, rfl, qn0⟩ := zc_bl_n c2 (by decide)
      refine zr_iload_n C d_A_field_17 (n := 18) rfl rfl ?_
      refine zr_callS1 C k_A_73 d_A_field_18 (nx := 21) rfl ⟨by decide, by decide⟩ (Nat.le_of_ble_eq_true rfl) ⟨by decide, by decide⟩ (sp_A_areFieldFlags l ?_)
      refine zr_if_ne C d_A_field_21 (n := 24) rfl (t := 26) (by decide) (fun c3 => ?_) (fun c3 => ?_)
      · replace c3 := zk_bn c3
        refine zr_aload_n C d_A_field_26 (n := 27) rfl rfl ?_
        refine zr_iload_n C d_A_field_27 (n := 28) rfl rfl ?_
        refine zr_bipush C d_A_field_28 (n := 30) rfl (v := nI 12) (by decide) ?_
        refine zr_idiv C d_A_field_30 (n := 31) rfl (by decide) ?_
        refine zr_toe (y := nI (p0 / 12)) (pk_div (by omega) (by decide) (by decide)) ?_
        refine zr_callV1 C k_A_44 d_A_field_31 (nx := 34) rfl hS.1 rfl ⟨by decide, by decide⟩ (Nat.le_of_ble_eq_true rfl) ⟨by decide, by decide⟩ (sp_A_offerOf l hS (v := p0 / 12) (by omega) ?_)
        have hO := zc_o hS (show p0 / 12 < 2 by omega)
        have ho := hO.1
        refine zr_astore C d_A_field_34 (n := 36) rfl (by decide) rfl ?_
        refine zr_iload_n C d_A_field_36 (n := 37) rfl rfl ?_
        refine zr_iconst C d_A_field_37 (n := 38) rfl (v := nI 2) (by decide) ?_
        refine zr_idiv C d_A_field_38 (n := 39) rfl (by decide) ?_
        refine zr_toe (y := nI (p0 / 2)) (pk_div (by omega) (by decide) (by decide)) ?_
        refine zr_bipush C d_A_field_39 (n := 41) rfl (v := nI 6) (by decide) ?_
        refine zr_irem C d_A_field_41 (n := 42) rfl (by decide) ?_
        refine zr_toe (y := nI (p0 / 2 % 6)) (pk_rem (by omega) (by decide) (by decide)) ?_
        refine zr_istore C d_A_field_42 (n := 44) rfl (by decide) rfl ?_
        refine zr_aload C d_A_field_44 (n := 46) rfl rfl ?_
        refine zr_iload C d_A_field_46 (n := 48) rfl rfl ?_
        refine zr_callV1 C k_A_52 d_A_field_48 (nx := 51) rfl ho rfl ⟨by decide, by decide⟩ (Nat.le_of_ble_eq_true rfl) ⟨by decide, by decide⟩ (sp_O_isThere l hO (by omega) ?_)
        refine zr_if_ne C d_A_field_51 (n := 54) rfl (t := 56) (by decide) (fun c4 => ?_) (fun c4 => ?_)
        · replace c4 := zk_bn c4
          refine zr_aload C d_A_field_56 (n := 58) rfl rfl ?_
          refine zr_iload C d_A_field_58 (n := 60) rfl rfl ?_
          refine zr_iconst C d_A_field_60 (n := 61) rfl (v := nI 4) (by decide) ?_
          refine zr_imul C d_A_field_61 (n := 62) rfl ?_
          refine zr_iload_n C d_A_field_62 (n := 63) rfl rfl ?_
          refine zr_iadd C d_A_field_63 (n := 64) rfl ?_
          refine zr_toe (y := nI (p0 / 2 % 6 * 4 + n0)) (by simp only [pk_mul, nI_add]) ?_
          refine zr_iload_n C d_A_field_64 (n := 65) rfl rfl ?_
          refine zr_iconst C d_A_field_65 (n := 66) rfl (v := nI 2) (by decide) ?_
          refine zr_irem C d_A_field_66 (n := 67) rfl (by decide) ?_
          refine zr_toe (y := nI (p0 % 2)) (pk_rem (by omega) (by decide) (by decide)) ?_
          refine zr_iload_n C d_A_field_67 (n := 68) rfl rfl ?_
          refine zr_iload C d_A_field_68 (n := 70) rfl rfl ?_
          refine zr_callV4 C k_A_76 d_A_field_70 (nx := 73) rfl ho rfl ⟨by decide, by decide⟩ (Nat.le_of_ble_eq_true rfl) ⟨by decide, by decide⟩ (sp_O_putField l hO (by omega) ?_)
          refine zr_iconst C d_A_field_73 (n := 74) rfl (v := nI 0) (by decide) ?_
          exact zr_iret C d_A_field_74 rfl (by have e9 : zc_fieldC V (nI p0) (nI n0) x2 = true := (by simp [zc_fieldC, qp0, qn0, c1, c2, c3, c4]); rw [e9] at hK; simp only [zc_W, zc_R, if_true, qp0, qn0] at hK; exact hK _ B E (zc_hpf hS (show p0 / 12 < 2 by omega) rfl).1 (zc_hpf hS (show p0 / 12 < 2 by omega) rfl).2) (Nat.zero_le _) (Nat.zero_le _)
        · replace c4 := zk_bz c4
          refine zr_iconst C d_A_field_54 (n := 55) rfl (v := -1) (by decide) ?_
          exact zr_iret C d_A_field_55 rfl (by have e9 : zc_fieldC V (nI p0) (nI n0) x2 = false := (by simp [zc_fieldC, qp0, c1, c2, c3, c4]); rw [e9] at hK; exact hK h B E hS zc_fr_r) (Nat.zero_le _) (Nat.zero_le _)
      · replace c3 := zk_bz c3
        refine zr_iconst C d_A_field_24 (n := 25) rfl (v := -1) (by decide) ?_
        exact zr_iret C d_A_field_25 rfl (by have e9 : zc_fieldC V (nI p0) (nI n0) x2 = false := (by simp [zc_fieldC, qp0, c1, c2, c3]); rw [e9] at hK; exact hK h B E hS zc_fr_r) (Nat.zero_le _) (Nat.zero_le _)
abbrev rm_A_method : Room := { frames := 2, cells := 0, slots := 0, locals := 41 }
set_option maxHeartbeats 4000000 in
set_option maxRecDepth 100000 in
/-- method -/
theorem sp_A_method (l : Launch) {h : zk_H} {V : Nat → zo_O} {uk ut un : Nat → Nat} {ua : Nat → Int32} {uc : Nat} {B E : Nat → Int32} (hS : zc_at h V uk ut un ua uc B E) {x0 x1 x2 x3 : Int32} {K : Option Value → zk_H → Prop} (hK : ∀ (h' : zk_H) (B' E' : Nat → Int32), zc_at h' (zc_W (zc_methC V x0 x1 x2 x3) V (zc_up V (x0.toNatClampNeg / 6) (zc_pm (V (x0.toNatClampNeg / 6)) (x0.toNatClampNeg % 6 * 12 + x1.toNatClampNeg * 4 + x2.toNatClampNeg / 4) (nI (x2.toNatClampNeg % 4)) x3))) uk ut un ua uc B' E' → zc_fr h h' → K (some (.int (zc_R (zc_methC V x0 x1 x2 x3)))) h') : zk_S l y_A_method b_A_method 7 (some .int) rm_A_method [.ref (0 + 1), .int x0, .int x1, .int x2, .int x3] h K := by
  refine zk_S_of R_A "method" (by decide) rfl rfl [some (.ref (0 + 1)), some (.int x0), some (.int x1), some (.int x2), some (.int x3), none, none] 2 rfl (Nat.le_of_ble_eq_true rfl) (fun p e s m ar below meth c D dA b base C => ?_)
  refine zr_iload_n C d_A_method_0 (n := 1) rfl rfl ?_
  refine zr_bipush C d_A_method_1 (n := 3) rfl (v := nI 12) (by decide) ?_
  refine zr_callS2 C k_A_40 d_A_method_3 (nx := 6) rfl ⟨by decide, by decide⟩ (Nat.le_of_ble_eq_true rfl) ⟨by decide, by decide⟩ (sp_A_isBelow l ?_)
  refine zr_if_eq C d_A_method_6 (n := 9) rfl (t := 17) (by decide) (fun c1 => ?_) (fun c1 => ?_)
  · replace c1 := zk_bz c1
    refine zr_iconst C d_A_method_17 (n := 18) rfl (v := -1) (by decide) ?_
    exact zr_iret C d_A_method_18 rfl (by have e9 : zc_methC V x0 x1 x2 x3 = false := (by simp [zc_methC, c1]); rw [e9] at hK; exact hK h B E hS zc_fr_r) (Nat.zero_le _) (Nat.zero_le _)
  · replace c1 := zk_bn c1
    obtain ⟨p0, hp0, rfl, qp0⟩ := zc_bl_n c1 (by decide)
    refine zr_iload_n C d_A_method_9 (n := 10) rfl rfl ?_
    refine zr_iconst C d_A_method_10 (n := 11) rfl (v := nI 3) (by decide) ?_
    refine zr_callS2 C k_A_40 d_A_method_11 (nx := 14) rfl ⟨by decide, by decide⟩ (Nat.le_of_ble_eq_true rfl) ⟨by decide, by decide⟩ (sp_A_isBelow l ?_)
    refine zr_if_ne C d_A_method_14 (n := 17) rfl (t := 19) (by decide) (fun c2 => ?_) (fun c2 => ?_)
    · replace c2 := zk_bn c2
      obtain ⟨n0, hn0, rfl, qn0⟩ := zc_bl_n c2 (by decide)
      refine zr_iload_n C d_A_method_19 (n := 20) rfl rfl ?_
      refine zr_bipush C d_A_method_20 (n := 22) rfl (v := nI 16) (by decide) ?_
      refine zr_callS2 C k_A_40 d_A_method_22 (nx := 25) rfl ⟨by decide, by decide⟩ (Nat.le_of_ble_eq_true rfl) ⟨by decide, by decide⟩ (sp_A_isBelow l ?_)
      refine zr_if_eq C d_A_method_25 (n := 28) rfl (t := 36) (by decide) (fun c3 => ?_) (fun c3 => ?_)
      · replace c3 := zk_bz c3
        refine zr_iconst C d_A_method_36 (n := 37) rfl (v := -1) (by decide) ?_
        exact zr_iret C d_A_method_37 rfl (by have e9 : zc_methC V (nI p0) (nI n0) x2 x3 = false := (by simp [zc_methC, qp0, c1, c2, c3]); rw [e9] at hK; exact hK h B E hS zc_fr_r) (Nat.zero_le _) (Nat.zero_le _)
      · replace c3 := zk_bn c3
        obtain ⟨g0, hg0, rfl, qg0⟩ := zc_bl_n c3 (by decide)
        refine zr_iload C d_A_method_28 (n := 30) rfl rfl ?_
        refine zr_callS1 C k_A_79 d_A_method_30 (nx := 33) rfl ⟨by decide, by decide⟩ (Nat.le_of_ble_eq_true rfl) ⟨by decide, by decide⟩ (sp_A_areMethodFlags l ?_)
        refine zr_if_ne C d_A_method_33 (n := 36) rfl (t := 38) (by decide) (fun c4 => ?_) (fun c4 => ?_)
        · replace c4 := zk_bn c4
          refine zr_aload_n C d_A_method_38 (n := 39) rfl rfl ?_
          refine zr_iload_n C d_A_method_39 (n := 40) rfl rfl ?_
          refine zr_bipush C d_A_method_40 (n := 42) rfl (v := nI 6) (by decide) ?_
          refine zr_idiv C d_A_method_42 (n := 43) rfl (by decide) ?_
          refine zr_toe (y := nI (p0 / 6)) (pk_div (by omega) (by decide) (by decide)) ?_
          refine zr_callV1 C k_A_44 d_A_method_43 (nx := 46) rfl hS.1 rfl ⟨by decide, by decide⟩ (Nat.le_of_ble_eq_true rfl) ⟨by decide, by decide⟩ (sp_A_offerOf l hS (v := p0 / 6) (by omega) ?_)
          have hO := zc_o hS (show p0 / 6 < 2 by omega)
          have ho := hO.1
          refine zr_astore C d_A_method_46 (n := 48) rfl (by decide) rfl ?_
          refine zr_iload_n C d_A_method_48 (n := 49) rfl rfl ?_
          refine zr_bipush C d_A_method_49 (n := 51) rfl (v := nI 6) (by decide) ?_
          refine zr_irem C d_A_method_51 (n := 52) rfl (by decide) ?_
          refine zr_toe (y := nI (p0 % 6)) (pk_rem (by omega) (by decide) (by decide)) ?_
          refine zr_istore C d_A_method_52 (n := 54) rfl (by decide) rfl ?_
          refine zr_aload C d_A_method_54 (n := 56) rfl rfl ?_
          refine zr_iload C d_A_method_56 (n := 58) rfl rfl ?_
          refine zr_callV1 C k_A_52 d_A_method_58 (nx := 61) rfl ho rfl ⟨by decide, by decide⟩ (Nat.le_of_ble_eq_true rfl) ⟨by decide, by decide⟩ (sp_O_isThere l hO (by omega) ?_)
          refine zr_if_ne C d_A_method_61 (n := 64) rfl (t := 66) (by decide) (fun c5 => ?_) (fun c5 => ?_)
          · replace c5 := zk_bn c5
            refine zr_aload C d_A_method_66 (n := 68) rfl rfl ?_
            refine zr_iload C d_A_method_68 (n := 70) rfl rfl ?_
            refine zr_iload_n C d_A_method_70 (n := 71) rfl rfl ?_
            refine zr_iload_n C d_A_method_71 (n := 72) rfl rfl ?_
            refine zr_iconst C d_A_method_72 (n := 73) rfl (v := nI 4) (by decide) ?_
            refine zr_idiv C d_A_method_73 (n := 74) rfl (by decide) ?_
            refine zr_toe (y := nI (g0 / 4)) (pk_div (by omega) (by decide) (by decide)) ?_
            refine zr_callS3 C k_A_82 d_A_method_74 (nx := 77) rfl ⟨by decide, by decide⟩ (Nat.le_of_ble_eq_true rfl) ⟨by decide, by decide⟩ (sp_A_methodPlace l ?_)
            refine zr_iload_n C d_A_method_77 (n := 78) rfl rfl ?_
            refine zr_iconst C d_A_method_78 (n := 79) rfl (v := nI 4) (by decide) ?_
            refine zr_irem C d_A_method_79 (n := 80) rfl (by decide) ?_
            refine zr_toe (y := nI (g0 % 4)) (pk_rem (by omega) (by decide) (by decide)) ?_
            refine zr_iload C d_A_method_80 (n := 82) rfl rfl ?_
            refine zr_callV3 C k_A_86 d_A_method_82 (nx := 85) rfl ho rfl ⟨by decide, by decide⟩ (Nat.le_of_ble_eq_true rfl) ⟨by decide, by decide⟩ (sp_O_putMethod l hO (by omega) ?_)
            refine zr_iconst C d_A_method_85 (n := 86) rfl (v := nI 0) (by decide) ?_
            exact zr_iret C d_A_method_86 rfl (by have e9 : zc_methC V (nI p0) (nI n0) (nI g0) x3 = true := (by simp [zc_methC, qp0, qn0, qg0, c1, c2, c3, c4, c5]); rw [e9] at hK; simp only [zc_W, zc_R, if_true, qp0, qn0, qg0] at hK; exact hK _ B E (zc_hpm hS (show p0 / 6 < 2 by omega) rfl).1 (zc_hpm hS (show p0 / 6 < 2 by omega) rfl).2) (Nat.zero_le _) (Nat.zero_le _)
          · replace c5 := zk_bz c5
            refine zr_iconst C d_A_method_64 (n := 65) rfl (v := -1) (by decide) ?_
            exact zr_iret C d_A_method_65 rfl (by have e9 : zc_methC V (nI p0) (nI n0) (nI g0) x3 = false := (by simp [zc_methC, qp0, c1, c2, c3, c4, c5]); rw [e9] at hK; exact hK h B E hS zc_fr_r) (Nat.zero_le _) (Nat.zero_le _)
        · replace c4 := zk_bz c4
          refine zr_iconst C d_A_method_36 (n := 37) rfl (v := -1) (by decide) ?_
          exact zr_iret C d_A_method_37 rfl (by have e9 : zc_methC V (nI p0) (nI n0) (nI g0) x3 = false := (by simp [zc_methC, qp0, c1, c2, c3, c4]); rw [e9] at hK; exact hK h B E hS zc_fr_r) (Nat.zero_le _) (Nat.zero_le _)
    · replace c2 := zk_bz c2
      refine zr_iconst C d_A_method_17 (n := 18) rfl (v := -1) (by decide) ?_
      exact zr_iret C d_A_method_18 rfl (by have e9 : zc_methC V (nI p0) x1 x2 x3 = false := (by simp [zc_methC, qp0, c1, c2]); rw [e9] at hK; exact hK h B E hS zc_fr_r) (Nat.zero_le _) (Nat.zero_le _)
theorem zc_rf_id {h : zk_H} {V : Nat → zo_O} {uk ut un : Nat → Nat} {ua : Nat → Int32} {uc : Nat} {B E : Nat → Int32} {v o j : Nat} (hS : zc_at h V uk ut un ua uc B E) (hv : v < 2) (e : 9 * v + 1 = o) (hj : zo_fth (V v) j = false) : h.set (o + 4) (.inl (0, 24, .inl (upd (V v 3) j (-1)))) = h := by
  have hO := zc_o hS hv
  subst e
  have h3 : V v 3 j = -1 := Classical.byContradiction fun q => by
    rw [zo_fth, decide_eq_true q] at hj
    cases hj
  have hu : upd (V v 3) j (-1) = V v 3 := by
    funext q
    by_cases hq : q = j
    · subst hq; rw [pk_us, h3]
    · rw [pk_un hq]
  rw [hu]
  exact zk_ss hO.2.2.2.2.1
theorem zc_rm_id {h : zk_H} {V : Nat → zo_O} {uk ut un : Nat → Nat} {ua : Nat → Int32} {uc : Nat} {B E : Nat → Int32} {v o j : Nat} (hS : zc_at h V uk ut un ua uc B E) (hv : v < 2) (e : 9 * v + 1 = o) (hj : zo_mth (V v) j = false) : h.set (o + 7) (.inl (0, 72, .inl (upd (V v 6) j (-1)))) = h := by
  have hO := zc_o hS hv
  subst e
  have h3 : V v 6 j = -1 := Classical.byContradiction fun q => by
    rw [zo_mth, decide_eq_true q] at hj
    cases hj
  have hu : upd (V v 6) j (-1) = V v 6 := by
    funext q
    by_cases hq : q = j
    · subst hq; rw [pk_us, h3]
    · rw [pk_un hq]
  rw [hu]
  exact zk_ss hO.2.2.2.2.2.2.2.1
abbrev rm_A_cut : Room := { frames := 2, cells := 0, slots := 0, locals := 43 }
set_option maxHeartbeats 4000000 in
set_option maxRecDepth 100000 in
/-- cut -/
theorem sp_A_cut (l : Launch) {h : zk_H} {V : Nat → zo_O} {uk ut un : Nat → Nat} {ua : Nat → Int32} {uc : Nat} {B E : Nat → Int32} (hS : zc_at h V uk ut un ua uc B E) {x0 x1 x2 x3 : Int32} {K : Option Value → zk_H → Prop} (hK : ∀ (h' : zk_H) (B' E' : Nat → Int32), zc_at h' (zc_W (zc_cutF V x0 x1 x2 x3) (zc_W (zc_cutM V x0 x1 x2 x3) V (zc_up V x0.toNatClampNeg (zc_rm (V x0.toNatClampNeg) (x1.toNatClampNeg * 12 + x2.toNatClampNeg * 4 + x3.toNatClampNeg)))) (zc_up V x0.toNatClampNeg (zc_rf (V x0.toNatClampNeg) (x1.toNatClampNeg * 4 + x2.toNatClampNeg)))) uk ut un ua uc B' E' → zc_fr h h' → K (some (.int (zc_R (zc_cutF V x0 x1 x2 x3 || zc_cutM V x0 x1 x2 x3)))) h') : zk_S l y_A_cut b_A_cut 5 (some .int) rm_A_cut [.ref (0 + 1), .int x0, .int x1, .int x2, .int x3] h K := by
  refine zk_S_of R_A "cut" (by decide) rfl rfl [some (.ref (0 + 1)), some (.int x0), some (.int x1), some (.int x2), some (.int x3)] 0 rfl (Nat.le_of_ble_eq_true rfl) (fun p e s m ar below meth c D dA b base C => ?_)
  refine zr_aload_n C d_A_cut_0 (n := 1) rfl rfl ?_
  refine zr_iload_n C d_A_cut_1 (n := 2) rfl rfl ?_
  refine zr_iload_n C d_A_cut_2 (n := 3) rfl rfl ?_
  refine zr_callV2 C k_A_66 d_A_cut_3 (nx := 6) rfl hS.1 rfl ⟨by decide, by decide⟩ (Nat.le_of_ble_eq_true rfl) ⟨by decide, by decide⟩ (sp_A_isTypeThere l hS ?_)
  refine zr_if_ne C d_A_cut_6 (n := 9) rfl (t := 11) (by decide) (fun c1 => ?_) (fun c1 => ?_)
  · replace c1 := zk_bn c1
    obtain ⟨v, t, hv, ht, rfl, rfl, qv, qt⟩ := zc_tt_n c1
    refine zr_iload C d_A_cut_11 (n := 13) rfl rfl ?_
    refine zr_iconst C d_A_cut_13 (n := 14) rfl (v := nI 4) (by decide) ?_
    refine zr_icmp_ne C d_A_cut_14 (n := 17) rfl (t := 49) (by decide) (fun c2 => ?_) (fun c2 => ?_)
    · refine zr_iload_n C d_A_cut_49 (n := 50) rfl rfl ?_
      refine zr_iconst C d_A_cut_50 (n := 51) rfl (v := nI 3) (by decide) ?_
      refine zr_callS2 C k_A_40 d_A_cut_51 (nx := 54) rfl ⟨by decide, by decide⟩ (Nat.le_of_ble_eq_true rfl) ⟨by decide, by decide⟩ (sp_A_isBelow l ?_)
      refine zr_if_eq C d_A_cut_54 (n := 57) rfl (t := 66) (by decide) (fun c3 => ?_) (fun c3 => ?_)
      · replace c3 := zk_bz c3
        refine zr_iconst C d_A_cut_66 (n := 67) rfl (v := -1) (by decide) ?_
        exact zr_iret C d_A_cut_67 rfl (by have e8 : zc_cutF V (nI v) (nI t) x2 x3 = false := (by simp [zc_cutF, zc_cutM, qv, qt, c1, c2, c3]); have e9 : zc_cutM V (nI v) (nI t) x2 x3 = false := (by simp [zc_cutF, zc_cutM, qv, qt, c1, c2, c3]); rw [e8, e9] at hK; simp only [zc_W, zc_R, Bool.or_false, Bool.or_true, Bool.false_or, Bool.true_or, if_true, if_false, reduceCtorEq, qv, qt] at hK; exact hK h B E hS zc_fr_r) (Nat.zero_le _) (Nat.zero_le _)
      · replace c3 := zk_bn c3
        obtain ⟨n0, hn0, rfl, qn0⟩ := zc_bl_n c3 (by decide)
        refine zr_iload C d_A_cut_57 (n := 59) rfl rfl ?_
        refine zr_iconst C d_A_cut_59 (n := 60) rfl (v := nI 4) (by decide) ?_
        refine zr_callS2 C k_A_40 d_A_cut_60 (nx := 63) rfl ⟨by decide, by decide⟩ (Nat.le_of_ble_eq_true rfl) ⟨by decide, by decide⟩ (sp_A_isBelow l ?_)
        refine zr_if_ne C d_A_cut_63 (n := 66) rfl (t := 68) (by decide) (fun c4 => ?_) (fun c4 => ?_)
        · replace c4 := zk_bn c4
          obtain ⟨r0, hr0, rfl, qr0⟩ := zc_bl_n c4 (by decide)
          refine zr_aload_n C d_A_cut_68 (n := 69) rfl rfl ?_
          refine zr_iload_n C d_A_cut_69 (n := 70) rfl rfl ?_
          refine zr_callV1 C k_A_44 d_A_cut_70 (nx := 73) rfl hS.1 rfl ⟨by decide, by decide⟩ (Nat.le_of_ble_eq_true rfl) ⟨by decide, by decide⟩ (sp_A_offerOf l hS hv ?_)
          have hO := zc_o hS hv
          have ho := hO.1
          refine zr_iload_n C d_A_cut_73 (n := 74) rfl rfl ?_
          refine zr_iload_n C d_A_cut_74 (n := 75) rfl rfl ?_
          refine zr_iload C d_A_cut_75 (n := 77) rfl rfl ?_
          refine zr_callS3 C k_A_82 d_A_cut_77 (nx := 80) rfl ⟨by decide, by decide⟩ (Nat.le_of_ble_eq_true rfl) ⟨by decide, by decide⟩ (sp_A_methodPlace l ?_)
          refine zr_callV1 C k_A_93 d_A_cut_80 (nx := 83) rfl ho rfl ⟨by decide, by decide⟩ (Nat.le_of_ble_eq_true rfl) ⟨by decide, by decide⟩ (sp_O_removeMethod l hO (by omega) ?_)
          refine zr_if_eq C d_A_cut_83 (n := 86) rfl (t := 90) (by decide) (fun c5 => ?_) (fun c5 => ?_)
          · replace c5 := zk_bz c5
            refine zr_iconst C d_A_cut_90 (n := 91) rfl (v := -1) (by decide) ?_
            exact zr_iret C d_A_cut_91 rfl (by have e8 : zc_cutF V (nI v) (nI t) (nI n0) (nI r0) = false := (by simp [zc_cutF, zc_cutM, qv, qt, qn0, qr0, c1, c2, c3, c4, c5]); have e9 : zc_cutM V (nI v) (nI t) (nI n0) (nI r0) = false := (by simp [zc_cutF, zc_cutM, qv, qt, qn0, qr0, c1, c2, c3, c4, c5]); rw [e8, e9] at hK; simp only [zc_W, zc_R, Bool.or_false, Bool.or_true, Bool.false_or, Bool.true_or, if_true, if_false, reduceCtorEq, qv, qt, qn0, qr0] at hK; rw [zc_rm_id hS hv rfl (by assumption)]; exact hK h B E hS zc_fr_r) (Nat.zero_le _) (Nat.zero_le _)
          · replace c5 := zk_bn c5
            refine zr_iconst C d_A_cut_86 (n := 87) rfl (v := nI 0) (by decide) ?_
            refine zr_goto C d_A_cut_87 (t := 91) (by decide) ?_
            exact zr_iret C d_A_cut_91 rfl (by have e8 : zc_cutF V (nI v) (nI t) (nI n0) (nI r0) = false := (by simp [zc_cutF, zc_cutM, qv, qt, qn0, qr0, c1, c2, c3, c4, c5]); have e9 : zc_cutM V (nI v) (nI t) (nI n0) (nI r0) = true := (by simp [zc_cutF, zc_cutM, qv, qt, qn0, qr0, c1, c2, c3, c4, c5]); rw [e8, e9] at hK; simp only [zc_W, zc_R, Bool.or_false, Bool.or_true, Bool.false_or, Bool.true_or, if_true, if_false, reduceCtorEq, qv, qt, qn0, qr0] at hK; exact hK _ B E (zc_hrm hS hv rfl).1 (zc_hrm hS hv rfl).2) (Nat.zero_le _) (Nat.zero_le _)
        · replace c4 := zk_bz c4
          refine zr_iconst C d_A_cut_66 (n := 67) rfl (v := -1) (by decide) ?_
          exact zr_iret C d_A_cut_67 rfl (by have e8 : zc_cutF V (nI v) (nI t) (nI n0) x3 = false := (by simp [zc_cutF, zc_cutM, qv, qt, qn0, c1, c2, c3, c4]); have e9 : zc_cutM V (nI v) (nI t) (nI n0) x3 = false := (by simp [zc_cutF, zc_cutM, qv, qt, qn0, c1, c2, c3, c4]); rw [e8, e9] at hK; simp only [zc_W, zc_R, Bool.or_false, Bool.or_true, Bool.false_or, Bool.true_or, if_true, if_false, reduceCtorEq, qv, qt, qn0] at hK; exact hK h B E hS zc_fr_r) (Nat.zero_le _) (Nat.zero_le _)
    · refine zr_iload_n C d_A_cut_17 (n := 18) rfl rfl ?_
      refine zr_iconst C d_A_cut_18 (n := 19) rfl (v := nI 4) (by decide) ?_
      refine zr_callS2 C k_A_40 d_A_cut_19 (nx := 22) rfl ⟨by decide, by decide⟩ (Nat.le_of_ble_eq_true rfl) ⟨by decide, by decide⟩ (sp_A_isBelow l ?_)
      refine zr_if_ne C d_A_cut_22 (n := 25) rfl (t := 27) (by decide) (fun c6 => ?_) (fun c6 => ?_)
      · replace c6 := zk_bn c6
        obtain ⟨n0, hn0, rfl, qn0⟩ := zc_bl_n c6 (by decide)
        refine zr_aload_n C d_A_cut_27 (n := 28) rfl rfl ?_
        refine zr_iload_n C d_A_cut_28 (n := 29) rfl rfl ?_
        refine zr_callV1 C k_A_44 d_A_cut_29 (nx := 32) rfl hS.1 rfl ⟨by decide, by decide⟩ (Nat.le_of_ble_eq_true rfl) ⟨by decide, by decide⟩ (sp_A_offerOf l hS hv ?_)
        have hO := zc_o hS hv
        have ho := hO.1
        refine zr_iload_n C d_A_cut_32 (n := 33) rfl rfl ?_
        refine zr_iconst C d_A_cut_33 (n := 34) rfl (v := nI 4) (by decide) ?_
        refine zr_imul C d_A_cut_34 (n := 35) rfl ?_
        refine zr_iload_n C d_A_cut_35 (n := 36) rfl rfl ?_
        refine zr_iadd C d_A_cut_36 (n := 37) rfl ?_
        refine zr_toe (y := nI (t * 4 + n0)) (by simp only [pk_mul, nI_add]) ?_
        refine zr_callV1 C k_A_90 d_A_cut_37 (nx := 40) rfl ho rfl ⟨by decide, by decide⟩ (Nat.le_of_ble_eq_true rfl) ⟨by decide, by decide⟩ (sp_O_removeField l hO (by omega) ?_)
        refine zr_if_eq C d_A_cut_40 (n := 43) rfl (t := 47) (by decide) (fun c7 => ?_) (fun c7 => ?_)
        · replace c7 := zk_bz c7
          refine zr_iconst C d_A_cut_47 (n := 48) rfl (v := -1) (by decide) ?_
          exact zr_iret C d_A_cut_48 rfl (by have e8 : zc_cutF V (nI v) (nI t) (nI n0) x3 = false := (by simp [zc_cutF, zc_cutM, qv, qt, qn0, c1, c2, c6, c7]); have e9 : zc_cutM V (nI v) (nI t) (nI n0) x3 = false := (by simp [zc_cutF, zc_cutM, qv, qt, qn0, c1, c2, c6, c7]); rw [e8, e9] at hK; simp only [zc_W, zc_R, Bool.or_false, Bool.or_true, Bool.false_or, Bool.true_or, if_true, if_false, reduceCtorEq, qv, qt, qn0] at hK; rw [zc_rf_id hS hv rfl (by assumption)]; exact hK h B E hS zc_fr_r) (Nat.zero_le _) (Nat.zero_le _)
        · replace c7 := zk_bn c7
          refine zr_iconst C d_A_cut_43 (n := 44) rfl (v := nI 0) (by decide) ?_
          refine zr_goto C d_A_cut_44 (t := 48) (by decide) ?_
          exact zr_iret C d_A_cut_48 rfl (by have e8 : zc_cutF V (nI v) (nI t) (nI n0) x3 = true := (by simp [zc_cutF, zc_cutM, qv, qt, qn0, c1, c2, c6, c7]); have e9 : zc_cutM V (nI v) (nI t) (nI n0) x3 = false := (by simp [zc_cutF, zc_cutM, qv, qt, qn0, c1, c2, c6, c7]); rw [e8, e9] at hK; simp only [zc_W, zc_R, Bool.or_false, Bool.or_true, Bool.false_or, Bool.true_or, if_true, if_false, reduceCtorEq, qv, qt, qn0] at hK; exact hK _ B E (zc_hrf hS hv rfl).1 (zc_hrf hS hv rfl).2) (Nat.zero_le _) (Nat.zero_le _)
      · replace c6 := zk_bz c6
        refine zr_iconst C d_A_cut_25 (n := 26) rfl (v := -1) (by decide) ?_
        exact zr_iret C d_A_cut_26 rfl (by have e8 : zc_cutF V (nI v) (nI t) x2 x3 = false := (by simp [zc_cutF, zc_cutM, qv, qt, c1, c2, c6]); have e9 : zc_cutM V (nI v) (nI t) x2 x3 = false := (by simp [zc_cutF, zc_cutM, qv, qt, c1, c2, c6]); rw [e8, e9] at hK; simp only [zc_W, zc_R, Bool.or_false, Bool.or_true, Bool.false_or, Bool.true_or, if_true, if_false, reduceCtorEq, qv, qt] at hK; exact hK h B E hS zc_fr_r) (Nat.zero_le _) (Nat.zero_le _)
  · replace c1 := zk_bz c1
    refine zr_iconst C d_A_cut_9 (n := 10) rfl (v := -1) (by decide) ?_
    exact zr_iret C d_A_cut_10 rfl (by have e8 : zc_cutF V x0 x1 x2 x3 = false := (by simp [zc_cutF, zc_cutM, c1]); have e9 : zc_cutM V x0 x1 x2 x3 = false := (by simp [zc_cutF, zc_cutM, c1]); rw [e8, e9] at hK; simp only [zc_W, zc_R, Bool.or_false, Bool.or_true, Bool.false_or, Bool.true_or, if_true, if_false, reduceCtorEq] at hK; exact hK h B E hS zc_fr_r) (Nat.zero_le _) (Nat.zero_le _)
abbrev rm_A_copy : Room := { frames := 2, cells := 0, slots := 0, locals := 121 }
set_option maxHeartbeats 4000000 in
set_option maxRecDepth 100000 in
/-- copy -/
theorem sp_A_copy (l : Launch) {h : zk_H} {V : Nat → zo_O} {uk ut un : Nat → Nat} {ua : Nat → Int32} {uc : Nat} {B E : Nat → Int32} (hS : zc_at h V uk ut un ua uc B E) {K : Option Value → zk_H → Prop} (hK : ∀ (h' : zk_H) (B' E' : Nat → Int32), zc_at h' (zc_up V 1 (zc_cp (V 1) (V 0))) uk ut un ua uc B' E' → zc_fr h h' → K (some (.int (nI 0))) h') : zk_S l y_A_copy b_A_copy 1 (some .int) rm_A_copy [.ref (0 + 1)] h K := by
  refine zk_S_of R_A "copy" (by decide) rfl rfl [some (.ref (0 + 1))] 0 rfl (Nat.le_of_ble_eq_true rfl) (fun p e s m ar below meth c D dA b base C => ?_)
  refine zr_aload_n C d_A_copy_0 (n := 1) rfl rfl ?_
  refine zr_get C f_A_16 d_A_copy_1 (n := 4) rfl hS.1 rfl ?_
  refine zr_aload_n C d_A_copy_4 (n := 5) rfl rfl ?_
  refine zr_get C f_A_12 d_A_copy_5 (n := 8) rfl hS.1 rfl ?_
  refine zr_callV1 C k_A_96 d_A_copy_8 (nx := 11) rfl hS.2.2.1.1 rfl ⟨by decide, by decide⟩ (Nat.le_of_ble_eq_true rfl) ⟨by decide, by decide⟩ (sp_O_becomeAs l (o := 10) (q := 1) hS.2.2.1 hS.2.1 (by omega) ?_)
  refine zr_iconst C d_A_copy_11 (n := 12) rfl (v := nI 0) (by decide) ?_
  exact zr_iret C d_A_copy_12 rfl (hK _ B E (zc_hcp (v := 1) (o := 10) hS (by decide) rfl).1 (zc_hcp (v := 1) (o := 10) hS (by decide) rfl).2) (Nat.zero_le _) (Nat.zero_le _)
