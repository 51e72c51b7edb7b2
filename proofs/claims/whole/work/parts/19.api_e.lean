def zc_um (k : Nat) : Bool := decide (k = 2 ∨ k = 3 ∨ k = 6)
def zc_nb (m : Bool) : Nat := if m = true then 3 else 4
def zc_useC (x0 x1 x2 x3 : Int32) : Bool := zc_bl x0 (nI 7) && zc_bl x1 (nI 6) && zc_bl x2 (nI (zc_nb (zc_um x0.toNatClampNeg))) && (!zc_um x0.toNatClampNeg || zc_bl x3 (nI 4))
def zc_useR (x0 x1 x2 x3 : Int32) (uc : Nat) : Int32 := if zc_useC x0 x1 x2 x3 = true then (if uc < 16 then nI uc else -2) else -1
def zc_useB (x0 x1 x2 x3 : Int32) (uc : Nat) : Bool := zc_useC x0 x1 x2 x3 && decide (uc < 16)
theorem zc_useR_0 {x0 x1 x2 x3 : Int32} {uc : Nat} (h : zc_useC x0 x1 x2 x3 = false) : zc_useR x0 x1 x2 x3 uc = -1 := by rw [zc_useR, if_neg (by rw [h]; decide)]
theorem zc_useR_1 {x0 x1 x2 x3 : Int32} {uc : Nat} (h : zc_useC x0 x1 x2 x3 = true) (h2 : uc < 16) : zc_useR x0 x1 x2 x3 uc = nI uc := by rw [zc_useR, if_pos h, if_pos h2]
theorem zc_useR_2 {x0 x1 x2 x3 : Int32} {uc : Nat} (h : zc_useC x0 x1 x2 x3 = true) (h2 : 16 ≤ uc) : zc_useR x0 x1 x2 x3 uc = -2 := by rw [zc_useR, if_pos h, if_neg (by omega)]
theorem zc_useB_0 {x0 x1 x2 x3 : Int32} {uc : Nat} (h : zc_useC x0 x1 x2 x3 = false) : zc_useB x0 x1 x2 x3 uc = false := by rw [zc_useB, h]; rfl
theorem zc_useB_1 {x0 x1 x2 x3 : Int32} {uc : Nat} (h : zc_useC x0 x1 x2 x3 = true) (h2 : uc < 16) : zc_useB x0 x1 x2 x3 uc = true := by rw [zc_useB, h, decide_eq_true h2]; rfl
theorem zc_useB_2 {x0 x1 x2 x3 : Int32} {uc : Nat} (h2 : 16 ≤ uc) : zc_useB x0 x1 x2 x3 uc = false := by rw [zc_useB, decide_eq_false (by omega), Bool.and_false]
def zc_fn {α : Type} (c : Bool) (f : Nat → α) (i : Nat) (x : α) : Nat → α := if c = true then (fun j => if j = i then x else f j) else f
theorem zc_fn_1 {α : Type} {f : Nat → α} {i : Nat} {x : α} : zc_fn true f i x = fun j => if j = i then x else f j := if_pos rfl
theorem zc_fn_0 {α : Type} {f : Nat → α} {i : Nat} {x : α} : zc_fn false f i x = f := if_neg (by decide)
theorem zc_use {h : zk_H} {V : Nat → zo_O} {uk ut un : Nat → Nat} {ua : Nat → Int32} {uc : Nat} {B E : Nat → Int32} {k t nm : Nat} {a : Int32} (hS : zc_at h V uk ut un ua uc B E) (hu : uc < 16) : zc_at ((h.set (uc + 20) (zu_c k t nm a)).set 0 (.inr (3, [.ref 2, .ref 11, .ref 20, .int (nI uc + nI 1), .ref 37, .ref 38]))) V (zc_fn true uk uc k) (zc_fn true ut uc t) (zc_fn true un uc nm) (zc_fn true ua uc a) (uc + 1) B E ∧ zc_fr h ((h.set (uc + 20) (zu_c k t nm a)).set 0 (.inr (3, [.ref 2, .ref 11, .ref 20, .int (nI uc + nI 1), .ref 37, .ref 38]))) := by
  obtain ⟨s0, s1, s2, ⟨f, s3, s4⟩, s5, s6, s7⟩ := hS
  rw [nI_add]
  refine ⟨⟨zk_g0 (zk_g1 (by omega) s0), zo_at_set (zo_at_set s1 (by omega)) (by omega), zo_at_set (zo_at_set s2 (by omega)) (by omega), ⟨f, zk_g1 (by omega) (zk_g1 (by omega) s3), s4⟩, fun j hj => ?_, zk_g1 (by omega) (zk_g1 (by omega) s6), zk_g1 (by omega) (zk_g1 (by omega) s7)⟩, by simp only [List.length_set], fun j hj => by rw [zk_gs (by omega), zk_gs (by omega)]⟩
  rw [zc_fn_1, zc_fn_1, zc_fn_1, zc_fn_1]
  dsimp only
  by_cases hq : j = uc
  · subst hq
    rw [if_pos rfl, if_pos rfl, if_pos rfl, if_pos rfl]
    exact zk_g1 (by omega) (zk_g0 (s5 j hj))
  · rw [if_neg hq, if_neg hq, if_neg hq, if_neg hq]
    exact zk_g1 (by omega) (zk_g1 (by omega) (s5 j hj))
abbrev rm_A_use : Room := { frames := 1, cells := 0, slots := 0, locals := 24 }
set_option maxHeartbeats 4000000 in
set_option maxRecDepth 100000 in
/-- use -/
theorem sp_A_use (l : Launch) {h : zk_H} {V : Nat → zo_O} {uk ut un : Nat → Nat} {ua : Nat → Int32} {uc : Nat} {B E : Nat → Int32} (hS : zc_at h V uk ut un ua uc B E) {x0 x1 x2 x3 : Int32} (huc : uc ≤ 16) {K : Option Value → zk_H → Prop} (hK : ∀ (h' : zk_H) (B' E' : Nat → Int32), zc_at h' V (zc_fn (zc_useB x0 x1 x2 x3 uc) uk uc (x0).toNatClampNeg) (zc_fn (zc_useB x0 x1 x2 x3 uc) ut uc (x1).toNatClampNeg) (zc_fn (zc_useB x0 x1 x2 x3 uc) un uc (x2).toNatClampNeg) (zc_fn (zc_useB x0 x1 x2 x3 uc) ua uc x3) (if zc_useB x0 x1 x2 x3 uc = true then uc + 1 else uc) B' E' → zc_fr h h' → K (some (.int (zc_useR x0 x1 x2 x3 uc))) h') : zk_S l y_A_use b_A_use 6 (some .int) rm_A_use [.ref (0 + 1), .int x0, .int x1, .int x2, .int x3] h K := by
  obtain ⟨hx, hO0, hO1, ⟨fu, hf, hfu⟩, hus, hb, he⟩ := id hS
  refine zk_S_of R_A "use" (by decide) rfl rfl [some (.ref (0 + 1)), some (.int x0), some (.int x1), some (.int x2), some (.int x3), none] 1 rfl (Nat.le_of_ble_eq_true rfl) (fun p e s m ar below meth c D dA b base C => ?_)
  have J : ∀ (k t : Nat), k < 7 → t < 6 → (nI k).toNatClampNeg = k → (nI t).toNatClampNeg = t → zc_bl (nI k) (nI 7) = true → zc_bl (nI t) (nI 6) = true → (∀ (h' : zk_H) (B' E' : Nat → Int32), zc_at h' V (zc_fn (zc_useB (nI k) (nI t) x2 x3 uc) uk uc ((nI k)).toNatClampNeg) (zc_fn (zc_useB (nI k) (nI t) x2 x3 uc) ut uc ((nI t)).toNatClampNeg) (zc_fn (zc_useB (nI k) (nI t) x2 x3 uc) un uc (x2).toNatClampNeg) (zc_fn (zc_useB (nI k) (nI t) x2 x3 uc) ua uc x3) (if zc_useB (nI k) (nI t) x2 x3 uc = true then uc + 1 else uc) B' E' → zc_fr h h' → K (some (.int (zc_useR (nI k) (nI t) x2 x3 uc))) h') → zk_V p l e rm_A_use s m ar below meth c 6 D dA b base (MQ below (zk_Q K D dA b base) ar s rm_A_use.cells rm_A_use.slots (fun q : Nat => base ≤ q)) 0 0 41 [some (.ref (0 + 1)), some (.int (nI k)), some (.int (nI t)), some (.int x2), some (.int x3), none] [.int (zk_b (zc_um k))] h := by
    intro k t hk ht qk qt k1 k2 hK
    refine zr_istore C d_A_use_41 (n := 43) rfl (by decide) rfl ?_
    refine zr_iload_n C d_A_use_43 (n := 44) rfl rfl ?_
    refine zr_iload C d_A_use_44 (n := 46) rfl rfl ?_
    refine zr_if_eq C d_A_use_46 (n := 49) rfl (t := 53) (by decide) (fun c1 => ?_) (fun c1 => ?_)
    · replace c1 := zk_bz c1
      refine zr_iconst C d_A_use_53 (n := 54) rfl (v := nI 4) (by decide) ?_
      refine zr_callS2 C k_A_40 d_A_use_54 (nx := 57) rfl ⟨by decide, by decide⟩ (Nat.le_of_ble_eq_true rfl) ⟨by decide, by decide⟩ (sp_A_isBelow l ?_)
      refine zr_if_ne C d_A_use_57 (n := 60) rfl (t := 62) (by decide) (fun c2 => ?_) (fun c2 => ?_)
      · replace c2 := zk_bn c2
        obtain ⟨nm, hnm, rfl, qnm⟩ := zc_bl_n c2 (by first | decide | omega)
        refine zr_iload C d_A_use_62 (n := 64) rfl rfl ?_
        refine zr_if_eq C d_A_use_64 (n := 67) rfl (t := 78) (by decide) (fun c3 => ?_) (fun c3 => ?_)
        · replace c3 := zk_bz c3
          refine zr_aload_n C d_A_use_78 (n := 79) rfl rfl ?_
          refine zr_get C f_A_26 d_A_use_79 (n := 82) rfl hx rfl ?_
          refine zr_bipush C d_A_use_82 (n := 84) rfl (v := nI 16) (by decide) ?_
          refine zr_icmp_lt C d_A_use_84 (n := 87) rfl (t := 90) (by decide) (fun c4 => ?_) (fun c4 => ?_)
          · replace c4 := zk_lt (by omega) (by omega) c4
            refine zr_aload_n C d_A_use_90 (n := 91) rfl rfl ?_
            refine zr_get C f_A_21 d_A_use_91 (n := 94) rfl hx rfl ?_
            refine zr_aload_n C d_A_use_94 (n := 95) rfl rfl ?_
            refine zr_get C f_A_26 d_A_use_95 (n := 98) rfl hx rfl ?_
            refine zr_aald C d_A_use_98 (n := 99) rfl (t := 1) rfl hf (vp_in_nI (by omega) (by decide)) (by rw [nI_clamp (by omega)]; exact hfu _ (by omega)) ?_
            refine zr_iload_n C d_A_use_99 (n := 100) rfl rfl ?_
            refine zr_iload_n C d_A_use_100 (n := 101) rfl rfl ?_
            refine zr_iload_n C d_A_use_101 (n := 102) rfl rfl ?_
            refine zr_iload C d_A_use_102 (n := 104) rfl rfl ?_
            refine zr_callV4 C k_A_100 d_A_use_104 (nx := 107) rfl (hus uc (by omega)) rfl ⟨by decide, by decide⟩ (Nat.le_of_ble_eq_true rfl) ⟨by decide, by decide⟩ (sp_U_tell l (u := uc + 20) (hus uc (by omega)) ?_)
            refine zr_aload_n C d_A_use_107 (n := 108) rfl rfl ?_
            refine zr_dup C d_A_use_108 (n := 109) rfl rfl ?_
            refine zr_get C f_A_26 d_A_use_109 (n := 112) rfl (zk_g1 (by omega) hx) rfl ?_
            refine zr_iconst C d_A_use_112 (n := 113) rfl (v := nI 1) (by decide) ?_
            refine zr_iadd C d_A_use_113 (n := 114) rfl ?_
            refine zr_put C f_A_26 Y_A rfl rfl d_A_use_114 (n := 117) rfl (zk_g1 (by omega) hx) (Nat.le_of_ble_eq_true rfl) (fun _ _ => rfl) (fun _ _ => rfl) ?_
            refine zr_aload_n C d_A_use_117 (n := 118) rfl rfl ?_
            refine zr_get C f_A_26 d_A_use_118 (n := 121) rfl (zk_g0 (zk_g1 (by omega) hx)) rfl ?_
            refine zr_iconst C d_A_use_121 (n := 122) rfl (v := nI 1) (by decide) ?_
            refine zr_isub C d_A_use_122 (n := 123) rfl ?_
            exact zr_iret (y := nI uc) C d_A_use_123 (by rw [nI_add, pk_sub (by omega)]; exact congrArg nI (by omega)) (by have e8 : zc_useC (nI k) (nI t) (nI nm) x3 = true := (by simp [zc_useC, zc_nb, qk, qt, k1, k2, c1, c2, c3]); simp only [zc_useR_1 e8 c4, zc_useB_1 e8 c4, if_true, qk, qt, qnm] at hK; exact hK _ B E (zc_use hS c4).1 (zc_use hS c4).2) (Nat.zero_le _) (Nat.zero_le _)
          · replace c4 := zk_nlt (by omega) (by omega) c4
            refine zr_bipush C d_A_use_87 (n := 89) rfl (v := -2) (by decide) ?_
            exact zr_iret C d_A_use_89 rfl (by have e8 : zc_useC (nI k) (nI t) (nI nm) x3 = true := (by simp [zc_useC, zc_nb, qk, qt, k1, k2, c1, c2, c3]); simp only [zc_useR_2 e8 c4, zc_useB_2 c4, zc_fn_0, Bool.false_eq_true, if_false] at hK; exact hK h B E hS zc_fr_r) (Nat.zero_le _) (Nat.zero_le _)
        · replace c3 := zk_bn c3
          exact absurd (c1.symm.trans c3) (by decide)
      · replace c2 := zk_bz c2
        refine zr_iconst C d_A_use_60 (n := 61) rfl (v := -1) (by decide) ?_
        exact zr_iret C d_A_use_61 rfl (by have e8 : zc_useC (nI k) (nI t) x2 x3 = false := (by simp [zc_useC, zc_nb, qk, qt, k1, k2, c1, c2]); simp only [zc_useR_0 e8, zc_useB_0 e8, zc_fn_0, Bool.false_eq_true, if_false] at hK; exact hK h B E hS zc_fr_r) (Nat.zero_le _) (Nat.zero_le _)
    · replace c1 := zk_bn c1
      refine zr_iconst C d_A_use_49 (n := 50) rfl (v := nI 3) (by decide) ?_
      refine zr_goto C d_A_use_50 (t := 54) (by decide) ?_
      refine zr_callS2 C k_A_40 d_A_use_54 (nx := 57) rfl ⟨by decide, by decide⟩ (Nat.le_of_ble_eq_true rfl) ⟨by decide, by decide⟩ (sp_A_isBelow l ?_)
      refine zr_if_ne C d_A_use_57 (n := 60) rfl (t := 62) (by decide) (fun c5 => ?_) (fun c5 => ?_)
      · replace c5 := zk_bn c5
        obtain ⟨nm, hnm, rfl, qnm⟩ := zc_bl_n c5 (by first | decide | omega)
        refine zr_iload C d_A_use_62 (n := 64) rfl rfl ?_
        refine zr_if_eq C d_A_use_64 (n := 67) rfl (t := 78) (by decide) (fun c6 => ?_) (fun c6 => ?_)
        · replace c6 := zk_bz c6
          exact absurd (c1.symm.trans c6) (by decide)
        · replace c6 := zk_bn c6
          refine zr_iload C d_A_use_67 (n := 69) rfl rfl ?_
          refine zr_iconst C d_A_use_69 (n := 70) rfl (v := nI 4) (by decide) ?_
          refine zr_callS2 C k_A_40 d_A_use_70 (nx := 73) rfl ⟨by decide, by decide⟩ (Nat.le_of_ble_eq_true rfl) ⟨by decide, by decide⟩ (sp_A_isBelow l ?_)
          refine zr_if_ne C d_A_use_73 (n := 76) rfl (t := 78) (by decide) (fun c7 => ?_) (fun c7 => ?_)
          · replace c7 := zk_bn c7
            refine zr_aload_n C d_A_use_78 (n := 79) rfl rfl ?_
            refine zr_get C f_A_26 d_A_use_79 (n := 82) rfl hx rfl ?_
            refine zr_bipush C d_A_use_82 (n := 84) rfl (v := nI 16) (by decide) ?_
            refine zr_icmp_lt C d_A_use_84 (n := 87) rfl (t := 90) (by decide) (fun c8 => ?_) (fun c8 => ?_)
            · replace c8 := zk_lt (by omega) (by omega) c8
              refine zr_aload_n C d_A_use_90 (n := 91) rfl rfl ?_
              refine zr_get C f_A_21 d_A_use_91 (n := 94) rfl hx rfl ?_
              refine zr_aload_n C d_A_use_94 (n := 95) rfl rfl ?_
              refine zr_get C f_A_26 d_A_use_95 (n := 98) rfl hx rfl ?_
              refine zr_aald C d_A_use_98 (n := 99) rfl (t := 1) rfl hf (vp_in_nI (by omega) (by decide)) (by rw [nI_clamp (by omega)]; exact hfu _ (by omega)) ?_
              refine zr_iload_n C d_A_use_99 (n := 100) rfl rfl ?_
              refine zr_iload_n C d_A_use_100 (n := 101) rfl rfl ?_
              refine zr_iload_n C d_A_use_101 (n := 102) rfl rfl ?_
              refine zr_iload C d_A_use_102 (n := 104) rfl rfl ?_
              refine zr_callV4 C k_A_100 d_A_use_104 (nx := 107) rfl (hus uc (by omega)) rfl ⟨by decide, by decide⟩ (Nat.le_of_ble_eq_true rfl) ⟨by decide, by decide⟩ (sp_U_tell l (u := uc + 20) (hus uc (by omega)) ?_)
              refine zr_aload_n C d_A_use_107 (n := 108) rfl rfl ?_
              refine zr_dup C d_A_use_108 (n := 109) rfl rfl ?_
              refine zr_get C f_A_26 d_A_use_109 (n := 112) rfl (zk_g1 (by omega) hx) rfl ?_
              refine zr_iconst C d_A_use_112 (n := 113) rfl (v := nI 1) (by decide) ?_
              refine zr_iadd C d_A_use_113 (n := 114) rfl ?_
              refine zr_put C f_A_26 Y_A rfl rfl d_A_use_114 (n := 117) rfl (zk_g1 (by omega) hx) (Nat.le_of_ble_eq_true rfl) (fun _ _ => rfl) (fun _ _ => rfl) ?_
              refine zr_aload_n C d_A_use_117 (n := 118) rfl rfl ?_
              refine zr_get C f_A_26 d_A_use_118 (n := 121) rfl (zk_g0 (zk_g1 (by omega) hx)) rfl ?_
              refine zr_iconst C d_A_use_121 (n := 122) rfl (v := nI 1) (by decide) ?_
              refine zr_isub C d_A_use_122 (n := 123) rfl ?_
              exact zr_iret (y := nI uc) C d_A_use_123 (by rw [nI_add, pk_sub (by omega)]; exact congrArg nI (by omega)) (by have e8 : zc_useC (nI k) (nI t) (nI nm) x3 = true := (by simp [zc_useC, zc_nb, qk, qt, k1, k2, c1, c5, c6, c7]); simp only [zc_useR_1 e8 c8, zc_useB_1 e8 c8, if_true, qk, qt, qnm] at hK; exact hK _ B E (zc_use hS c8).1 (zc_use hS c8).2) (Nat.zero_le _) (Nat.zero_le _)
            · replace c8 := zk_nlt (by omega) (by omega) c8
              refine zr_bipush C d_A_use_87 (n := 89) rfl (v := -2) (by decide) ?_
              exact zr_iret C d_A_use_89 rfl (by have e8 : zc_useC (nI k) (nI t) (nI nm) x3 = true := (by simp [zc_useC, zc_nb, qk, qt, k1, k2, c1, c5, c6, c7]); simp only [zc_useR_2 e8 c8, zc_useB_2 c8, zc_fn_0, Bool.false_eq_true, if_false] at hK; exact hK h B E hS zc_fr_r) (Nat.zero_le _) (Nat.zero_le _)
          · replace c7 := zk_bz c7
            refine zr_iconst C d_A_use_76 (n := 77) rfl (v := -1) (by decide) ?_
            exact zr_iret C d_A_use_77 rfl (by have e8 : zc_useC (nI k) (nI t) (nI nm) x3 = false := (by simp [zc_useC, zc_nb, qk, qt, k1, k2, c1, c5, c6, c7]); simp only [zc_useR_0 e8, zc_useB_0 e8, zc_fn_0, Bool.false_eq_true, if_false] at hK; exact hK h B E hS zc_fr_r) (Nat.zero_le _) (Nat.zero_le _)
      · replace c5 := zk_bz c5
        refine zr_iconst C d_A_use_60 (n := 61) rfl (v := -1) (by decide) ?_
        exact zr_iret C d_A_use_61 rfl (by have e8 : zc_useC (nI k) (nI t) x2 x3 = false := (by simp [zc_useC, zc_nb, qk, qt, k1, k2, c1, c5]); simp only [zc_useR_0 e8, zc_useB_0 e8, zc_fn_0, Bool.false_eq_true, if_false] at hK; exact hK h B E hS zc_fr_r) (Nat.zero_le _) (Nat.zero_le _)
  refine zr_iload_n C d_A_use_0 (n := 1) rfl rfl ?_
  refine zr_bipush C d_A_use_1 (n := 3) rfl (v := nI 7) (by decide) ?_
  refine zr_callS2 C k_A_40 d_A_use_3 (nx := 6) rfl ⟨by decide, by decide⟩ (Nat.le_of_ble_eq_true rfl) ⟨by decide, by decide⟩ (sp_A_isBelow l ?_)
  refine zr_if_eq C d_A_use_6 (n := 9) rfl (t := 18) (by decide) (fun c1 => ?_) (fun c1 => ?_)
  · replace c1 := zk_bz c1
    refine zr_iconst C d_A_use_18 (n := 19) rfl (v := -1) (by decide) ?_
    exact zr_iret C d_A_use_19 rfl (by have e8 : zc_useC x0 x1 x2 x3 = false := (by simp [zc_useC, c1, c1]); simp only [zc_useR_0 e8, zc_useB_0 e8, zc_fn_0, Bool.false_eq_true, if_false] at hK; exact hK h B E hS zc_fr_r) (Nat.zero_le _) (Nat.zero_le _)
  · replace c1 := zk_bn c1
    obtain ⟨k, hk, rfl, qk⟩ := zc_bl_n c1 (by first | decide | omega)
    refine zr_iload_n C d_A_use_9 (n := 10) rfl rfl ?_
    refine zr_bipush C d_A_use_10 (n := 12) rfl (v := nI 6) (by decide) ?_
    refine zr_callS2 C k_A_40 d_A_use_12 (nx := 15) rfl ⟨by decide, by decide⟩ (Nat.le_of_ble_eq_true rfl) ⟨by decide, by decide⟩ (sp_A_isBelow l ?_)
    refine zr_if_ne C d_A_use_15 (n := 18) rfl (t := 20) (by decide) (fun c2 => ?_) (fun c2 => ?_)
    · replace c2 := zk_bn c2
      obtain ⟨t, ht, rfl, qt⟩ := zc_bl_n c2 (by first | decide | omega)
      refine zr_iload_n C d_A_use_20 (n := 21) rfl rfl ?_
      refine zr_iconst C d_A_use_21 (n := 22) rfl (v := nI 2) (by decide) ?_
      refine zr_icmp_eq C d_A_use_22 (n := 25) rfl (t := 36) (by decide) (fun c3 => ?_) (fun c3 => ?_)
      · replace c3 := zk_eq (by omega) (by omega) c3
        refine zr_iconst C d_A_use_36 (n := 37) rfl (v := nI 1) (by decide) ?_
        refine zr_goto C d_A_use_37 (t := 41) (by decide) ?_
        refine zr_toe (y := zk_b (zc_um k)) (by simp [zc_um, zk_b, c3]) ?_
        exact J k t hk ht qk qt c1 c2 hK
      · replace c3 := zk_ne (by omega) (by omega) c3
        refine zr_iload_n C d_A_use_25 (n := 26) rfl rfl ?_
        refine zr_iconst C d_A_use_26 (n := 27) rfl (v := nI 3) (by decide) ?_
        refine zr_icmp_eq C d_A_use_27 (n := 30) rfl (t := 36) (by decide) (fun c4 => ?_) (fun c4 => ?_)
        · replace c4 := zk_eq (by omega) (by omega) c4
          refine zr_iconst C d_A_use_36 (n := 37) rfl (v := nI 1) (by decide) ?_
          refine zr_goto C d_A_use_37 (t := 41) (by decide) ?_
          refine zr_toe (y := zk_b (zc_um k)) (by simp [zc_um, zk_b, c3, c4]) ?_
          exact J k t hk ht qk qt c1 c2 hK
        · replace c4 := zk_ne (by omega) (by omega) c4
          refine zr_iload_n C d_A_use_30 (n := 31) rfl rfl ?_
          refine zr_bipush C d_A_use_31 (n := 33) rfl (v := nI 6) (by decide) ?_
          refine zr_icmp_ne C d_A_use_33 (n := 36) rfl (t := 40) (by decide) (fun c5 => ?_) (fun c5 => ?_)
          · replace c5 := zk_ne (by omega) (by omega) c5
            refine zr_iconst C d_A_use_40 (n := 41) rfl (v := nI 0) (by decide) ?_
            refine zr_toe (y := zk_b (zc_um k)) (by simp [zc_um, zk_b, c3, c4, c5]) ?_
            exact J k t hk ht qk qt c1 c2 hK
          · replace c5 := zk_eq (by omega) (by omega) c5
            refine zr_iconst C d_A_use_36 (n := 37) rfl (v := nI 1) (by decide) ?_
            refine zr_goto C d_A_use_37 (t := 41) (by decide) ?_
            refine zr_toe (y := zk_b (zc_um k)) (by simp [zc_um, zk_b, c3, c4, c5]) ?_
            exact J k t hk ht qk qt c1 c2 hK
    · replace c2 := zk_bz c2
      refine zr_iconst C d_A_use_18 (n := 19) rfl (v := -1) (by decide) ?_
      exact zr_iret C d_A_use_19 rfl (by have e8 : zc_useC (nI k) x1 x2 x3 = false := (by simp [zc_useC, c1, c1, c2]); simp only [zc_useR_0 e8, zc_useB_0 e8, zc_fn_0, Bool.false_eq_true, if_false] at hK; exact hK h B E hS zc_fr_r) (Nat.zero_le _) (Nat.zero_le _)
