/-- the reference's cells -/
def zm_at (h : zk_H) (S : zo_O) (us : Nat) : Prop := h[38]? = some (.inr (4, [.ref 40, .ref 41, .ref 42, .ref 43, .ref 44, .ref 45, .ref 46, .ref 47, .ref 48, .int (nI us), .ref 49, .ref 50, .ref 51])) ∧ h[39]? = some (.inl (2, 12, .inl (S 0))) ∧ h[40]? = some (.inl (0, 12, .inl (S 1))) ∧ h[41]? = some (.inl (0, 12, .inl (S 2))) ∧ h[42]? = some (.inl (0, 12, .inl (S 3))) ∧ h[43]? = some (.inl (0, 48, .inl (S 4))) ∧ h[44]? = some (.inl (0, 48, .inl (S 5))) ∧ h[45]? = some (.inl (0, 48, .inl (S 6))) ∧ h[46]? = some (.inl (0, 144, .inl (S 7))) ∧ h[47]? = some (.inl (0, 144, .inl (S 8))) ∧ h[48]? = some (.inl (0, 64, .inl (S 9))) ∧ h[49]? = some (.inl (0, 14, .inl (S 10))) ∧ h[50]? = some (.inl (0, 200, .inl (S 11)))
/-- the reference's arrays say what the class's offers say -/
def zm_R (V : Nat → zo_O) (S : zo_O) : Prop := ∀ v, v < 2 → (∀ t, t < 6 → S 0 (6 * v + t) = zk_b (zo_th (V v) t) ∧ (zo_th (V v) t = true → S 1 (6 * v + t) = V v 0 t ∧ S 2 (6 * v + t) = V v 1 t ∧ S 3 (6 * v + t) = V v 2 t)) ∧ (∀ j, j < 24 → (V v 3 j = -1 → S 4 (24 * v + j) = -1) ∧ (¬ V v 3 j = -1 → S 4 (24 * v + j) = V v 4 j ∧ S 5 (24 * v + j) = V v 3 j ∧ (zb_nz (V v 3 j) (nI 16) = true → S 6 (24 * v + j) = V v 5 j))) ∧ (∀ j, j < 72 → (V v 6 j = -1 → S 7 (72 * v + j) = -1) ∧ (¬ V v 6 j = -1 → S 7 (72 * v + j) = V v 7 j ∧ S 8 (72 * v + j) = V v 6 j))
/-- what every run keeps of an offer -/
def zo_ok (O : zo_O) : Prop := (∀ t, t < 6 → O 0 t = -1 → O 1 t = nI 6 ∧ O 2 t = nI 0) ∧ (∀ t, t < 6 → ¬ O 0 t = -1 → (O 1 t = nI 6 ∨ ∃ s, s < t ∧ O 1 t = nI s ∧ ¬ O 0 s = -1) ∧ ∀ i, i < 32 → zk_bit (O 2 t) i = true → i < t ∧ ¬ O 0 i = -1) ∧ (∀ j, j < 24 → ¬ O 3 j = -1 → (O 4 j = nI 0 ∨ O 4 j = nI 1) ∧ (zb_nz (O 3 j) (nI 16) = false → O 5 j = nI 0)) ∧ (∀ j, j < 72 → ¬ O 6 j = -1 → ∃ a, a < 4 ∧ O 7 j = nI a)
theorem zo_ok_wf {O : zo_O} (h : zo_ok O) : zo_wf O := fun t ht => by
  by_cases h0 : O 0 t = -1
  · exact Or.inl (h.1 t ht h0).1
  · rcases (h.2.1 t ht h0).1 with q | ⟨s, h1, h2, -⟩
    · exact Or.inl q
    · exact Or.inr ⟨s, h1, h2⟩
theorem zo_thn {O : zo_O} {t : Nat} (h : zo_th O t = true) : ¬ O 0 t = -1 := of_decide_eq_true h
theorem zo_thf {O : zo_O} {t : Nat} (h : zo_th O t = false) : O 0 t = -1 := Classical.byContradiction fun q => by
  rw [zo_th, decide_eq_true q] at h
  cases h
theorem zo_self {O : zo_O} (h : zo_ok O) {t : Nat} (ht : t < 6) (hth : zo_th O t = true) : ¬ (O 1 t = nI t ∨ zk_bit (O 2 t) t = true) := by
  have q := h.2.1 t ht (zo_thn hth)
  rintro (e | e)
  · rcases q.1 with e2 | ⟨s, h1, h2, -⟩
    · exact absurd (zk_eq (by omega) (by omega) (e.symm.trans e2)) (by omega)
    · exact absurd (zk_eq (by omega) (by omega) (e.symm.trans h2)) (by omega)
  · exact absurd (q.2 t (by omega) e).1 (by omega)
def zc_in (x a b : Int32) : Bool := decide (¬ x < a ∧ ¬ b < x)
theorem zk_bt1 {x : Int32} {n : Nat} (h : ¬ (x >>> (nI n &&& 31)) &&& nI 1 = 0) : zk_bit x n = true := decide_eq_true h
theorem zk_bt0 {x : Int32} {n : Nat} (h : (x >>> (nI n &&& 31)) &&& nI 1 = 0) : zk_bit x n = false := decide_eq_false (fun q => q h)
theorem zo_hf1 {O : zo_O} {t : Nat} {x : Int32} (h1 : zo_th O t = true) (h2 : zb_nz (O 0 t) x = true) : zo_hf O t x = true := decide_eq_true ⟨zo_thn h1, of_decide_eq_true h2⟩
theorem zo_hf0 {O : zo_O} {t : Nat} {x : Int32} (h2 : zb_nz (O 0 t) x = false) : zo_hf O t x = false := decide_eq_false (fun q => by
  rw [zb_nz, decide_eq_true q.2] at h2
  cases h2)
theorem zo_hfn {O : zo_O} {t : Nat} {x : Int32} (h2 : zo_th O t = false) : zo_hf O t x = false := decide_eq_false (fun q => q.1 (zo_thf h2))
abbrev rm_M_in : Room := { frames := 0, cells := 0, slots := 0, locals := 0 }
set_option maxHeartbeats 4000000 in
set_option maxRecDepth 100000 in
/-- in -/
theorem sp_M_in (l : Launch) {h : zk_H} {x a b9 : Int32} {K : Option Value → zk_H → Prop} (hK : K (some (.int (zk_b (zc_in x a b9)))) h) : zk_S l y_M_in b_M_in 3 (some .boolean) rm_M_in [.int x, .int a, .int b9] h K := by
  refine zk_S_of R_M "in" (by decide) rfl rfl [some (.int x), some (.int a), some (.int b9)] 0 rfl (Nat.le_of_ble_eq_true rfl) (fun p e s m ar below meth c D dA b base C => ?_)
  refine zr_iload_n C d_M_in_0 (n := 1) rfl rfl ?_
  refine zr_iload_n C d_M_in_1 (n := 2) rfl rfl ?_
  refine zr_icmp_lt C d_M_in_2 (n := 5) rfl (t := 14) (by decide) (fun c1 => ?_) (fun c1 => ?_)
  · refine zr_iconst C d_M_in_14 (n := 15) rfl (v := nI 0) (by decide) ?_
    exact zr_zret C d_M_in_15 (by first | (simp [zc_in, zk_b, c1]; done) | simp_all [zc_in, zk_b]) (by decide) hK (Nat.zero_le _) (Nat.zero_le _)
  · refine zr_iload_n C d_M_in_5 (n := 6) rfl rfl ?_
    refine zr_iload_n C d_M_in_6 (n := 7) rfl rfl ?_
    refine zr_icmp_gt C d_M_in_7 (n := 10) rfl (t := 14) (by decide) (fun c2 => ?_) (fun c2 => ?_)
    · refine zr_iconst C d_M_in_14 (n := 15) rfl (v := nI 0) (by decide) ?_
      exact zr_zret C d_M_in_15 (by first | (simp [zc_in, zk_b, c1, c2]; done) | simp_all [zc_in, zk_b]) (by decide) hK (Nat.zero_le _) (Nat.zero_le _)
    · refine zr_iconst C d_M_in_10 (n := 11) rfl (v := nI 1) (by decide) ?_
      refine zr_goto C d_M_in_11 (t := 15) (by decide) ?_
      exact zr_zret C d_M_in_15 (by first | (simp [zc_in, zk_b, c1, c2]; done) | simp_all [zc_in, zk_b]) (by decide) hK (Nat.zero_le _) (Nat.zero_le _)
abbrev rm_M_bit : Room := { frames := 0, cells := 0, slots := 0, locals := 0 }
set_option maxHeartbeats 4000000 in
set_option maxRecDepth 100000 in
/-- bit -/
theorem sp_M_bit (l : Launch) {h : zk_H} {x y : Int32} {K : Option Value → zk_H → Prop} (hK : K (some (.int (zk_b (zb_nz x y)))) h) : zk_S l y_M_bit b_M_bit 2 (some .int) rm_M_bit [.int x, .int y] h K := by
  refine zk_S_of R_M "bit" (by decide) rfl rfl [some (.int x), some (.int y)] 0 rfl (Nat.le_of_ble_eq_true rfl) (fun p e s m ar below meth c D dA b base C => ?_)
  refine zr_iload_n C d_M_bit_0 (n := 1) rfl rfl ?_
  refine zr_iload_n C d_M_bit_1 (n := 2) rfl rfl ?_
  refine zr_iand C d_M_bit_2 (n := 3) rfl ?_
  refine zr_if_eq C d_M_bit_3 (n := 6) rfl (t := 10) (by decide) (fun c1 => ?_) (fun c1 => ?_)
  · refine zr_iconst C d_M_bit_10 (n := 11) rfl (v := nI 0) (by decide) ?_
    exact zr_iret C d_M_bit_11 (by first | (simp [zb_nz, zk_b, c1]; done) | simp_all [zb_nz, zk_b]) hK (Nat.zero_le _) (Nat.zero_le _)
  · refine zr_iconst C d_M_bit_6 (n := 7) rfl (v := nI 1) (by decide) ?_
    refine zr_goto C d_M_bit_7 (t := 11) (by decide) ?_
    exact zr_iret C d_M_bit_11 (by first | (simp [zb_nz, zk_b, c1]; done) | simp_all [zb_nz, zk_b]) hK (Nat.zero_le _) (Nat.zero_le _)
abbrev rm_M_named : Room := { frames := 0, cells := 0, slots := 0, locals := 0 }
set_option maxHeartbeats 4000000 in
set_option maxRecDepth 100000 in
/-- named -/
theorem sp_M_named (l : Launch) {h : zk_H} {V : Nat → zo_O} {S : zo_O} {us : Nat} (hM : zm_at h S us) (hR : zm_R V S) (hok : ∀ v, v < 2 → zo_ok (V v)) {v : Nat} (hv : v < 2) {t : Nat} (ht : t < 6) {K : Option Value → zk_H → Prop} (hK : K (some (.int (zk_b (zo_nmL (V v) t 6 0)))) h) : zk_S l y_M_named b_M_named 5 (some .boolean) rm_M_named [.ref (38 + 1), .int (nI v), .int (nI t)] h K := by
  obtain ⟨hm, s0, s1, s2, s3, s4, s5, s6, s7, s8, s9, s10, s11⟩ := id hM
  refine zk_S_of R_M "named" (by decide) rfl rfl [some (.ref (38 + 1)), some (.int (nI v)), some (.int (nI t)), none, none] 2 rfl (Nat.le_of_ble_eq_true rfl) (fun p e s m ar below meth c D dA b base C => ?_)
  have L : ∀ (n j : Nat), n + j = 6 → K (some (.int (zk_b (zo_nmL (V v) t n j)))) h → zk_V p l e rm_M_named s m ar below meth c 5 D dA b base (MQ below (zk_Q K D dA b base) ar s rm_M_named.cells rm_M_named.slots (fun q : Nat => base ≤ q)) 0 0 2 [some (.ref (38 + 1)), some (.int (nI v)), some (.int (nI t)), some (.int (nI j)), none] [] h := by
    intro n
    induction n with
    | zero =>
      intro j hj hK
      refine zr_iload_n C d_M_named_2 (n := 3) rfl rfl ?_
      refine zr_bipush C d_M_named_3 (n := 5) rfl (v := nI 6) (by decide) ?_
      refine zr_icmp_ge C d_M_named_5 (n := 8) rfl (t := 64) (by decide) (fun c1 => ?_) (fun c1 => ?_)
      · refine zr_iconst C d_M_named_64 (n := 65) rfl (v := nI 0) (by decide) ?_
        exact zr_zret C d_M_named_65 rfl (by decide) hK (Nat.zero_le _) (Nat.zero_le _)
      · exact absurd (zk_nle (by omega) (by omega) c1) (by omega)
    | succ n ih =>
      intro j hj hK
      refine zr_iload_n C d_M_named_2 (n := 3) rfl rfl ?_
      refine zr_bipush C d_M_named_3 (n := 5) rfl (v := nI 6) (by decide) ?_
      refine zr_icmp_ge C d_M_named_5 (n := 8) rfl (t := 64) (by decide) (fun c1 => ?_) (fun c1 => ?_)
      · exact absurd (zk_le (by omega) (by omega) c1) (by omega)
      · replace c1 := zk_nle (by omega) (by omega) c1
        refine zr_bipush C d_M_named_8 (n := 10) rfl (v := nI 6) (by decide) ?_
        refine zr_iload_n C d_M_named_10 (n := 11) rfl rfl ?_
        refine zr_imul C d_M_named_11 (n := 12) rfl ?_
        refine zr_toe (by simp only [pk_mul, nI_add]; rfl) ?_
        refine zr_iload_n C d_M_named_12 (n := 13) rfl rfl ?_
        refine zr_iadd C d_M_named_13 (n := 14) rfl ?_
        refine zr_toe (by simp only [pk_mul, nI_add]; rfl) ?_
        refine zr_istore C d_M_named_14 (n := 16) rfl (by decide) rfl ?_
        refine zr_aload_n C d_M_named_16 (n := 17) rfl rfl ?_
        refine zr_get C f_M_7 d_M_named_17 (n := 20) rfl hm rfl ?_
        refine zr_iload C d_M_named_20 (n := 22) rfl rfl ?_
        refine zr_zaldN C d_M_named_22 (n := 23) rfl s0 rfl (by omega) (by decide) ?_
        refine zr_toe (y := zk_b (zo_th (V v) j)) ((hR v hv).1 j (by omega)).1 ?_
        refine zr_if_eq C d_M_named_23 (n := 26) rfl (t := 58) (by decide) (fun c2 => ?_) (fun c2 => ?_)
        · replace c2 := zk_bz c2
          refine zr_iinc C d_M_named_58 (n := 61) rfl rfl (w := 1) (by decide) (nI_1 j) (by decide) rfl ?_
          refine zr_goto C d_M_named_61 (t := 2) (by decide) ?_
          refine zr_drop 4 ?_
          exact ih (j + 1) (by omega) (by rw [zo_nmL_go (fun q => absurd (c2.symm.trans q.1) (by decide))] at hK; exact hK)
        · replace c2 := zk_bn c2
          refine zr_iload_n C d_M_named_26 (n := 27) rfl rfl ?_
          refine zr_iload_n C d_M_named_27 (n := 28) rfl rfl ?_
          refine zr_icmp_eq C d_M_named_28 (n := 31) rfl (t := 58) (by decide) (fun c3 => ?_) (fun c3 => ?_)
          · replace c3 := zk_eq (by omega) (by omega) c3
            refine zr_iinc C d_M_named_58 (n := 61) rfl rfl (w := 1) (by decide) (nI_1 j) (by decide) rfl ?_
            refine zr_goto C d_M_named_61 (t := 2) (by decide) ?_
            refine zr_drop 4 ?_
            exact ih (j + 1) (by omega) (by rw [zo_nmL_go (fun q => zo_self (hok v hv) (by omega) c2 (by rw [c3]; rw [c3] at q; exact q.2))] at hK; exact hK)
          · replace c3 := zk_ne (by omega) (by omega) c3
            refine zr_aload_n C d_M_named_31 (n := 32) rfl rfl ?_
            refine zr_get C f_M_17 d_M_named_32 (n := 35) rfl hm rfl ?_
            refine zr_iload C d_M_named_35 (n := 37) rfl rfl ?_
            refine zr_ialdN C d_M_named_37 (n := 38) rfl s2 rfl (by omega) (by decide) ?_
            refine zr_toe (y := V v 1 j) (((hR v hv).1 j (by omega)).2 c2).2.1 ?_
            refine zr_iload_n C d_M_named_38 (n := 39) rfl rfl ?_
            refine zr_icmp_eq C d_M_named_39 (n := 42) rfl (t := 56) (by decide) (fun c4 => ?_) (fun c4 => ?_)
            · refine zr_iconst C d_M_named_56 (n := 57) rfl (v := nI 1) (by decide) ?_
              exact zr_zret C d_M_named_57 (by rw [zo_nmL_yes ⟨c2, by simp [c4]⟩]; rfl) (by decide) hK (Nat.zero_le _) (Nat.zero_le _)
            · refine zr_aload_n C d_M_named_42 (n := 43) rfl rfl ?_
              refine zr_get C f_M_20 d_M_named_43 (n := 46) rfl hm rfl ?_
              refine zr_iload C d_M_named_46 (n := 48) rfl rfl ?_
              refine zr_ialdN C d_M_named_48 (n := 49) rfl s3 rfl (by omega) (by decide) ?_
              refine zr_toe (y := V v 2 j) (((hR v hv).1 j (by omega)).2 c2).2.2 ?_
              refine zr_iload_n C d_M_named_49 (n := 50) rfl rfl ?_
              refine zr_ishr C d_M_named_50 (n := 51) rfl ?_
              refine zr_iconst C d_M_named_51 (n := 52) rfl (v := nI 1) (by decide) ?_
              refine zr_iand C d_M_named_52 (n := 53) rfl ?_
              refine zr_if_eq C d_M_named_53 (n := 56) rfl (t := 58) (by decide) (fun c5 => ?_) (fun c5 => ?_)
              · replace c5 := zk_bt0 c5
                refine zr_iinc C d_M_named_58 (n := 61) rfl rfl (w := 1) (by decide) (nI_1 j) (by decide) rfl ?_
                refine zr_goto C d_M_named_61 (t := 2) (by decide) ?_
                refine zr_drop 4 ?_
                exact ih (j + 1) (by omega) (by rw [zo_nmL_go (by simp [c4, c5])] at hK; exact hK)
              · replace c5 := zk_bt1 c5
                refine zr_iconst C d_M_named_56 (n := 57) rfl (v := nI 1) (by decide) ?_
                exact zr_zret C d_M_named_57 (by rw [zo_nmL_yes ⟨c2, by simp [c5]⟩]; rfl) (by decide) hK (Nat.zero_le _) (Nat.zero_le _)
  refine zr_iconst C d_M_named_0 (n := 1) rfl (v := nI 0) (by decide) ?_
  refine zr_istore_n C d_M_named_1 (n := 2) rfl (by decide) rfl ?_
  exact L 6 0 rfl hK
/-- an answer there is a number from 0 on, one that is not there is -1 -/
theorem zm_ans {V : Nat → zo_O} {S : zo_O} (hR : zm_R V S) (hok : ∀ v, v < 2 → zo_ok (V v)) {v : Nat} (hv : v < 2) {j : Nat} (hj : j < 72) : (S 7 (72 * v + j) < 0 ↔ V v 6 j = -1) ∧ (¬ V v 6 j = -1 → S 7 (72 * v + j) = V v 7 j) := by
  obtain ⟨h1, h2⟩ := (hR v hv).2.2 j hj
  refine ⟨⟨fun q => Classical.byContradiction fun n => ?_, fun q => by rw [h1 q]; decide⟩, fun n => (h2 n).1⟩
  obtain ⟨a, ha, e⟩ := (hok v hv).2.2.2 j hj n
  rw [(h2 n).1, e] at q
  exact nI_pos (by omega) q
abbrev rm_M_isMethod : Room := { frames := 0, cells := 0, slots := 0, locals := 0 }
set_option maxHeartbeats 4000000 in
set_option maxRecDepth 100000 in
/-- isMethod -/
theorem sp_M_isMethod (l : Launch) {h : zk_H} {V : Nat → zo_O} {S : zo_O} {us : Nat} (hM : zm_at h S us) (hR : zm_R V S) (hok : ∀ v, v < 2 → zo_ok (V v)) {v : Nat} (hv : v < 2) {j : Nat} (hj : j < 72) {x : Int32} (hx : x = -1 ∨ ∃ a, a < 4 ∧ x = nI a) {K : Option Value → zk_H → Prop} (hK : K (some (.int (zk_b (zo_ma (V v) j x)))) h) : zk_S l y_M_isMethod b_M_isMethod 3 (some .boolean) rm_M_isMethod [.ref (38 + 1), .int (nI (72 * v + j)), .int x] h K := by
  obtain ⟨hm, s0, s1, s2, s3, s4, s5, s6, s7, s8, s9, s10, s11⟩ := id hM
  refine zk_S_of R_M "isMethod" (by decide) rfl rfl [some (.ref (38 + 1)), some (.int (nI (72 * v + j))), some (.int x)] 0 rfl (Nat.le_of_ble_eq_true rfl) (fun p e s m ar below meth c D dA b base C => ?_)
  refine zr_aload_n C d_M_isMethod_0 (n := 1) rfl rfl ?_
  refine zr_get C f_M_32 d_M_isMethod_1 (n := 4) rfl hm rfl ?_
  refine zr_iload_n C d_M_isMethod_4 (n := 5) rfl rfl ?_
  refine zr_ialdN C d_M_isMethod_5 (n := 6) rfl s7 rfl (by omega) (by decide) ?_
  refine zr_if_lt C d_M_isMethod_6 (n := 9) rfl (t := 27) (by decide) (fun c1 => ?_) (fun c1 => ?_)
  · replace c1 := (zm_ans hR hok hv hj).1.mp c1
    refine zr_iconst C d_M_isMethod_27 (n := 28) rfl (v := nI 0) (by decide) ?_
    exact zr_zret C d_M_isMethod_28 (by rw [zo_ma]; simp [zk_b, c1]) (by decide) hK (Nat.zero_le _) (Nat.zero_le _)
  · replace c1 : ¬ V v 6 j = -1 := fun q => c1 ((zm_ans hR hok hv hj).1.mpr q)
    refine zr_iload_n C d_M_isMethod_9 (n := 10) rfl rfl ?_
    refine zr_if_lt C d_M_isMethod_10 (n := 13) rfl (t := 23) (by decide) (fun c2 => ?_) (fun c2 => ?_)
    · replace c2 : x = -1 := by rcases hx with q | ⟨a, ha, q⟩; exact q; exact absurd (q ▸ c2) (nI_pos (by omega))
      refine zr_iconst C d_M_isMethod_23 (n := 24) rfl (v := nI 1) (by decide) ?_
      refine zr_goto C d_M_isMethod_24 (t := 28) (by decide) ?_
      exact zr_zret C d_M_isMethod_28 (by rw [zo_ma]; simp [zk_b, c1, c2]) (by decide) hK (Nat.zero_le _) (Nat.zero_le _)
    · replace c2 : ¬ x = -1 := fun q => c2 (by rw [q]; decide)
      refine zr_aload_n C d_M_isMethod_13 (n := 14) rfl rfl ?_
      refine zr_get C f_M_32 d_M_isMethod_14 (n := 17) rfl hm rfl ?_
      refine zr_iload_n C d_M_isMethod_17 (n := 18) rfl rfl ?_
      refine zr_ialdN C d_M_isMethod_18 (n := 19) rfl s7 rfl (by omega) (by decide) ?_
      refine zr_iload_n C d_M_isMethod_19 (n := 20) rfl rfl ?_
      refine zr_icmp_ne C d_M_isMethod_20 (n := 23) rfl (t := 27) (by decide) (fun c3 => ?_) (fun c3 => ?_)
      · rw [(zm_ans hR hok hv hj).2 c1] at c3
        refine zr_iconst C d_M_isMethod_27 (n := 28) rfl (v := nI 0) (by decide) ?_
        exact zr_zret C d_M_isMethod_28 (by rw [zo_ma]; simp [zk_b, c1, c2, c3]) (by decide) hK (Nat.zero_le _) (Nat.zero_le _)
      · rw [(zm_ans hR hok hv hj).2 c1] at c3
        refine zr_iconst C d_M_isMethod_23 (n := 24) rfl (v := nI 1) (by decide) ?_
        refine zr_goto C d_M_isMethod_24 (t := 28) (by decide) ?_
        exact zr_zret C d_M_isMethod_28 (by rw [zo_ma]; simp [zk_b, c1, c2, c3]) (by decide) hK (Nat.zero_le _) (Nat.zero_le _)
