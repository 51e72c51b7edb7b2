theorem zc_cnt_app {f : Nat → Bool} : ∀ a b j c, zc_cnt f (a + b) j c = zc_cnt f b (j + a) (zc_cnt f a j c)
  | 0, b, j, c => by rw [Nat.zero_add]; rfl
  | a + 1, b, j, c => by
    rw [show a + 1 + b = (a + b) + 1 by omega, zc_cnt, zc_cnt, zc_cnt_app a b (j + 1), show j + 1 + a = j + (a + 1) by omega]
theorem zc_cnt_run {f : Nat → Bool} : ∀ n j c, (∀ i, j ≤ i → i < j + n → f i = false) → zc_cnt f n j c = c
  | 0, _, _, _ => rfl
  | n + 1, j, c, h => by
    rw [zc_cnt_0 (h j (Nat.le_refl j) (by omega))]
    exact zc_cnt_run n (j + 1) c (fun i a b => h i (by omega) (by omega))
theorem zc_cnt_blk {f : Nat → Bool} {d : Nat} (hd : 0 < d) : ∀ n q c, zc_cnt (fun i => decide (i % d = 0) && f (i / d)) (d * n) (d * q) c = zc_cnt f n q c
  | 0, _, _ => rfl
  | n + 1, q, c => by
    obtain ⟨k, rfl⟩ : ∃ k, d = k + 1 := ⟨d - 1, by omega⟩
    have e0 : (decide ((k + 1) * q % (k + 1) = 0) && f ((k + 1) * q / (k + 1))) = f q := by
      rw [Nat.mul_mod_right, Nat.mul_div_cancel_left _ hd]; rfl
    rw [show (k + 1) * (n + 1) = (k + 1) + (k + 1) * n by rw [Nat.mul_succ]; omega, zc_cnt_app, show (k + 1) * q + (k + 1) = (k + 1) * (q + 1) by rw [Nat.mul_succ], zc_cnt_blk hd n (q + 1)]
    rw [show zc_cnt f (n + 1) q c = zc_cnt f n (q + 1) (if f q = true then c + 1 else c) from rfl]
    have e1 : zc_cnt (fun i => decide (i % (k + 1) = 0) && f (i / (k + 1))) (k + 1) ((k + 1) * q) c = if f q = true then c + 1 else c := by
      rw [zc_cnt, e0]
      refine zc_cnt_run k _ _ (fun i a b => ?_)
      have hm : ¬ i % (k + 1) = 0 := by
        intro h0
        obtain ⟨r, hr⟩ := Nat.dvd_of_mod_eq_zero h0
        rw [hr] at a b
        have h1 : (k + 1) * q < (k + 1) * r := by omega
        have h2 : (k + 1) * r < (k + 1) * (q + 1) := by rw [Nat.mul_succ]; omega
        have h3 := Nat.lt_of_mul_lt_mul_left h1
        have h4 := Nat.lt_of_mul_lt_mul_left h2
        omega
      show (decide (i % (k + 1) = 0) && f (i / (k + 1))) = false
      rw [decide_eq_false hm]; rfl
    rw [e1]
def zm_cf (O : zo_O) (w i : Nat) : Bool := match w with
  | 0 => decide (i % 12 = 0) && decide (¬ O 0 (i / 12) = -1)
  | 1 => decide (i % 3 = 0) && decide (¬ O 3 (i / 3) = -1)
  | 2 => decide (¬ O 6 i = -1)
  | _ => false
theorem zm_cf_0 {O : zo_O} : zc_cnt (zm_cf O 0) 72 0 0 = zc_hm (O 0) 6 := zc_cnt_blk (f := fun j => decide (¬ O 0 j = -1)) (d := 12) (by decide) 6 0 0
theorem zm_cf_1 {O : zo_O} : zc_cnt (zm_cf O 1) 72 0 0 = zc_hm (O 3) 24 := zc_cnt_blk (f := fun j => decide (¬ O 3 j = -1)) (d := 3) (by decide) 24 0 0
theorem zm_cf_2 {O : zo_O} : zc_cnt (zm_cf O 2) 72 0 0 = zc_hm (O 6) 72 := rfl
theorem zm_cf_0n {O : zo_O} {i : Nat} (h : ¬ i % 12 = 0) : zm_cf O 0 i = false := by
  show (decide (i % 12 = 0) && _) = false
  rw [decide_eq_false h]; rfl
theorem zm_cf_0y {O : zo_O} {i : Nat} (h : i % 12 = 0) : zm_cf O 0 i = zo_th O (i / 12) := by
  show (decide (i % 12 = 0) && _) = _
  rw [decide_eq_true h]; rfl
theorem zm_cf_1n {O : zo_O} {i : Nat} (h : ¬ i % 3 = 0) : zm_cf O 1 i = false := by
  show (decide (i % 3 = 0) && _) = false
  rw [decide_eq_false h]; rfl
theorem zm_cf_1y {O : zo_O} {i : Nat} (h : i % 3 = 0) : zm_cf O 1 i = decide (¬ O 3 (i / 3) = -1) := by
  show (decide (i % 3 = 0) && _) = _
  rw [decide_eq_true h]; rfl
abbrev rm_M_count : Room := { frames := 1, cells := 0, slots := 0, locals := 22 }
set_option maxHeartbeats 4000000 in
set_option maxRecDepth 100000 in
/-- count -/
theorem sp_M_count (l : Launch) {h : zk_H} {V : Nat → zo_O} {S : zo_O} {us : Nat} {uk ut un : Nat → Nat} {ua : Nat → Int32} (hM : zm_at h S us) (hJ : zm_J V S us uk ut un ua) {x0 x1 : Int32} {K : Option Value → zk_H → Prop} (hK : ∀ (h' : zk_H) (S' : zo_O), zm_pv h h' S S' us → K (some (.int (zc_count V us x0 x1))) h') : zk_S l y_M_count b_M_count 5 (some .int) rm_M_count [.ref (38 + 1), .int x0, .int x1] h K := by
  obtain ⟨hm, s0, s1, s2, s3, s4, s5, s6, s7, s8, s9, s10, s11⟩ := id hM
  obtain ⟨hR, hok, hex, hu, hus, hS9⟩ := id hJ
  refine zk_S_of R_M "count" (by decide) rfl rfl [some (.ref (38 + 1)), some (.int x0), some (.int x1), none, none] 2 rfl (Nat.le_of_ble_eq_true rfl) (fun p e s m ar below meth c D dA b base C => ?_)
  refine zr_iload_n C d_M_count_0 (n := 1) rfl rfl ?_
  refine zr_iconst C d_M_count_1 (n := 2) rfl (v := nI 0) (by decide) ?_
  refine zr_iconst C d_M_count_2 (n := 3) rfl (v := nI 1) (by decide) ?_
  refine zr_callS3 C k_M_47 d_M_count_3 (nx := 6) rfl ⟨by decide, by decide⟩ (Nat.le_of_ble_eq_true rfl) ⟨by decide, by decide⟩ (sp_M_in l ?_)
  refine zr_if_eq C d_M_count_6 (n := 9) rfl (t := 18) (by decide) (fun c1 => ?_) (fun c1 => ?_)
  · replace c1 := zk_bz c1
    rw [zc_in_1] at c1
    refine zr_iconst C d_M_count_18 (n := 19) rfl (v := -1) (by decide) ?_
    rw [zc_count, if_neg (by rw [c1]; decide)] at hK
    exact zr_iret C d_M_count_19 rfl (hK _ _ (zm_pv_r hM)) (Nat.zero_le _) (Nat.zero_le _)
  · replace c1 := zk_bn c1
    rw [zc_in_1] at c1
    obtain ⟨v, hv, rfl, qv⟩ := zc_bl_n c1 (by first | decide | omega)
    refine zr_iload_n C d_M_count_9 (n := 10) rfl rfl ?_
    refine zr_iconst C d_M_count_10 (n := 11) rfl (v := nI 0) (by decide) ?_
    refine zr_iconst C d_M_count_11 (n := 12) rfl (v := nI 3) (by decide) ?_
    refine zr_callS3 C k_M_47 d_M_count_12 (nx := 15) rfl ⟨by decide, by decide⟩ (Nat.le_of_ble_eq_true rfl) ⟨by decide, by decide⟩ (sp_M_in l ?_)
    refine zr_if_ne C d_M_count_15 (n := 18) rfl (t := 20) (by decide) (fun c2 => ?_) (fun c2 => ?_)
    · replace c2 := zk_bn c2
      rw [zc_in_3] at c2
      obtain ⟨w, hw, rfl, qw⟩ := zc_bl_n c2 (by first | decide | omega)
      refine zr_iconst C d_M_count_20 (n := 21) rfl (v := nI 0) (by decide) ?_
      refine zr_istore_n C d_M_count_21 (n := 22) rfl (by decide) rfl ?_
      refine zr_bipush C d_M_count_22 (n := 24) rfl (v := nI 72) (by decide) ?_
      refine zr_iload_n C d_M_count_24 (n := 25) rfl rfl ?_
      refine zr_imul C d_M_count_25 (n := 26) rfl ?_
      refine zr_toe (by simp only [pk_mul, nI_add]; rfl) ?_
      refine zr_istore C d_M_count_26 (n := 28) rfl (by decide) rfl ?_
      have CV0 := c1
      rcases (show w = 0 ∨ w = 1 ∨ w = 2 ∨ w = 3 by omega) with rfl | rfl | rfl | rfl
      · have L : ∀ (n r a : Nat), n + r = 72 → K (some (.int (nI (zc_cnt (zm_cf (V v) 0) n r a)))) h → zk_V p l e rm_M_count s m ar below meth c 5 D dA b base (MQ below (zk_Q K D dA b base) ar s rm_M_count.cells rm_M_count.slots (fun q : Nat => base ≤ q)) 0 0 28 [some (.ref (38 + 1)), some (.int (nI v)), some (.int (nI 0)), some (.int (nI a)), some (.int (nI (72 * v + r)))] [] h := by
          intro n
          induction n with
          | zero =>
            intro r a hr hK
            refine zr_iload C d_M_count_28 (n := 30) rfl rfl ?_
            refine zr_bipush C d_M_count_30 (n := 32) rfl (v := nI 72) (by decide) ?_
            refine zr_iload_n C d_M_count_32 (n := 33) rfl rfl ?_
            refine zr_imul C d_M_count_33 (n := 34) rfl ?_
            refine zr_toe (by simp only [pk_mul, nI_add]; rfl) ?_
            refine zr_bipush C d_M_count_34 (n := 36) rfl (v := nI 72) (by decide) ?_
            refine zr_iadd C d_M_count_36 (n := 37) rfl ?_
            refine zr_toe (by simp only [pk_mul, nI_add]; rfl) ?_
            refine zr_icmp_ge C d_M_count_37 (n := 40) rfl (t := 119) (by decide) (fun c1 => ?_) (fun c1 => ?_)
            · refine zr_iload_n C d_M_count_119 (n := 120) rfl rfl ?_
              refine zr_iconst C d_M_count_120 (n := 121) rfl (v := nI 3) (by decide) ?_
              refine zr_icmp_ne C d_M_count_121 (n := 124) rfl (t := 131) (by decide) (fun c2 => ?_) (fun c2 => ?_)
              · refine zr_iload_n C d_M_count_131 (n := 132) rfl rfl ?_
                exact zr_iret C d_M_count_132 rfl hK (Nat.zero_le _) (Nat.zero_le _)
              · exact absurd c2 (by decide)
            · exact absurd (zk_nle (by omega) (by omega) c1) (by omega)
          | succ n ih =>
            intro r a hr hK
            refine zr_iload C d_M_count_28 (n := 30) rfl rfl ?_
            refine zr_bipush C d_M_count_30 (n := 32) rfl (v := nI 72) (by decide) ?_
            refine zr_iload_n C d_M_count_32 (n := 33) rfl rfl ?_
            refine zr_imul C d_M_count_33 (n := 34) rfl ?_
            refine zr_toe (by simp only [pk_mul, nI_add]; rfl) ?_
            refine zr_bipush C d_M_count_34 (n := 36) rfl (v := nI 72) (by decide) ?_
            refine zr_iadd C d_M_count_36 (n := 37) rfl ?_
            refine zr_toe (by simp only [pk_mul, nI_add]; rfl) ?_
            refine zr_icmp_ge C d_M_count_37 (n := 40) rfl (t := 119) (by decide) (fun c1 => ?_) (fun c1 => ?_)
            · exact absurd (zk_le (by omega) (by omega) c1) (by omega)
            · refine zr_iload_n C d_M_count_40 (n := 41) rfl rfl ?_
              refine zr_if_ne C d_M_count_41 (n := 44) rfl (t := 68) (by decide) (fun c2 => ?_) (fun c2 => ?_)
              · exact absurd rfl c2
              · refine zr_iload C d_M_count_44 (n := 46) rfl rfl ?_
                refine zr_bipush C d_M_count_46 (n := 48) rfl (v := nI 12) (by decide) ?_
                refine zr_irem C d_M_count_48 (n := 49) rfl (by decide) ?_
                refine zr_toe (y := nI ((72 * v + r) % 12)) (pk_rem (by omega) (by decide) (by decide)) ?_
                refine zr_toe (y := nI (r % 12)) (congrArg nI (by omega)) ?_
                refine zr_if_ne C d_M_count_49 (n := 52) rfl (t := 68) (by decide) (fun c3 => ?_) (fun c3 => ?_)
                · replace c3 := zk_ne (b := 0) (by omega) (by omega) c3
                  refine zr_iload_n C d_M_count_68 (n := 69) rfl rfl ?_
                  refine zr_iconst C d_M_count_69 (n := 70) rfl (v := nI 1) (by decide) ?_
                  refine zr_icmp_ne C d_M_count_70 (n := 73) rfl (t := 95) (by decide) (fun c4 => ?_) (fun c4 => ?_)
                  · refine zr_iload_n C d_M_count_95 (n := 96) rfl rfl ?_
                    refine zr_iconst C d_M_count_96 (n := 97) rfl (v := nI 2) (by decide) ?_
                    refine zr_icmp_ne C d_M_count_97 (n := 100) rfl (t := 113) (by decide) (fun c5 => ?_) (fun c5 => ?_)
                    · refine zr_iinc C d_M_count_113 (n := 116) rfl rfl (w := 1) (by decide) (nI_1 (72 * v + r)) (by decide) rfl ?_
                      refine zr_goto C d_M_count_116 (t := 28) (by decide) ?_
                      exact ih (r + 1) a (by omega) (by rw [zc_cnt_0 (f := (zm_cf (V v) 0)) (j := r) (zm_cf_0n c3)] at hK; exact hK)
                    · exact absurd c5 (by decide)
                  · exact absurd c4 (by decide)
                · replace c3 := zk_eq (b := 0) (by omega) (by omega) c3
                  refine zr_aload_n C d_M_count_52 (n := 53) rfl rfl ?_
                  refine zr_get C f_M_7 d_M_count_53 (n := 56) rfl hm rfl ?_
                  refine zr_iload C d_M_count_56 (n := 58) rfl rfl ?_
                  refine zr_bipush C d_M_count_58 (n := 60) rfl (v := nI 12) (by decide) ?_
                  refine zr_idiv C d_M_count_60 (n := 61) rfl (by decide) ?_
                  refine zr_toe (y := nI ((72 * v + r) / 12)) (pk_div (by omega) (by decide) (by decide)) ?_
                  refine zr_toe (y := nI (6 * v + r / 12)) (congrArg nI (by omega)) ?_
                  refine zr_zaldN C d_M_count_61 (n := 62) rfl s0 rfl (by omega) (by decide) ?_
                  refine zr_toe (y := zk_b (zo_th (V v) (r / 12))) ((hR v hv).1 (r / 12) (by omega)).1 ?_
                  refine zr_if_eq C d_M_count_62 (n := 65) rfl (t := 68) (by decide) (fun c6 => ?_) (fun c6 => ?_)
                  · replace c6 := zk_bz c6
                    refine zr_iload_n C d_M_count_68 (n := 69) rfl rfl ?_
                    refine zr_iconst C d_M_count_69 (n := 70) rfl (v := nI 1) (by decide) ?_
                    refine zr_icmp_ne C d_M_count_70 (n := 73) rfl (t := 95) (by decide) (fun c7 => ?_) (fun c7 => ?_)
                    · refine zr_iload_n C d_M_count_95 (n := 96) rfl rfl ?_
                      refine zr_iconst C d_M_count_96 (n := 97) rfl (v := nI 2) (by decide) ?_
                      refine zr_icmp_ne C d_M_count_97 (n := 100) rfl (t := 113) (by decide) (fun c8 => ?_) (fun c8 => ?_)
                      · refine zr_iinc C d_M_count_113 (n := 116) rfl rfl (w := 1) (by decide) (nI_1 (72 * v + r)) (by decide) rfl ?_
                        refine zr_goto C d_M_count_116 (t := 28) (by decide) ?_
                        exact ih (r + 1) a (by omega) (by rw [zc_cnt_0 (f := (zm_cf (V v) 0)) (j := r) ((zm_cf_0y c3).trans c6)] at hK; exact hK)
                      · exact absurd c8 (by decide)
                    · exact absurd c7 (by decide)
                  · replace c6 := zk_bn c6
                    refine zr_iinc C d_M_count_65 (n := 68) rfl rfl (w := 1) (by decide) (nI_1 a) (by decide) rfl ?_
                    refine zr_iload_n C d_M_count_68 (n := 69) rfl rfl ?_
                    refine zr_iconst C d_M_count_69 (n := 70) rfl (v := nI 1) (by decide) ?_
                    refine zr_icmp_ne C d_M_count_70 (n := 73) rfl (t := 95) (by decide) (fun c9 => ?_) (fun c9 => ?_)
                    · refine zr_iload_n C d_M_count_95 (n := 96) rfl rfl ?_
                      refine zr_iconst C d_M_count_96 (n := 97) rfl (v := nI 2) (by decide) ?_
                      refine zr_icmp_ne C d_M_count_97 (n := 100) rfl (t := 113) (by decide) (fun c10 => ?_) (fun c10 => ?_)
                      · refine zr_iinc C d_M_count_113 (n := 116) rfl rfl (w := 1) (by decide) (nI_1 (72 * v + r)) (by decide) rfl ?_
                        refine zr_goto C d_M_count_116 (t := 28) (by decide) ?_
                        exact ih (r + 1) (a + 1) (by omega) (by rw [zc_cnt_1 (f := (zm_cf (V v) 0)) (j := r) ((zm_cf_0y c3).trans c6)] at hK; exact hK)
                      · exact absurd c10 (by decide)
                    · exact absurd c9 (by decide)
        refine L 72 0 0 rfl ?_
        have e9 : zc_count V us (nI v) (nI 0) = nI (zc_cnt (zm_cf (V v) 0) 72 0 0) := by
          rw [zc_count, if_pos CV0, qv, zm_cf_0]
          rfl
        rw [e9] at hK
        exact hK h S (zm_pv_r hM)
      · have L : ∀ (n r a : Nat), n + r = 72 → K (some (.int (nI (zc_cnt (zm_cf (V v) 1) n r a)))) h → zk_V p l e rm_M_count s m ar below meth c 5 D dA b base (MQ below (zk_Q K D dA b base) ar s rm_M_count.cells rm_M_count.slots (fun q : Nat => base ≤ q)) 0 0 28 [some (.ref (38 + 1)), some (.int (nI v)), some (.int (nI 1)), some (.int (nI a)), some (.int (nI (72 * v + r)))] [] h := by
          intro n
          induction n with
          | zero =>
            intro r a hr hK
            refine zr_iload C d_M_count_28 (n := 30) rfl rfl ?_
            refine zr_bipush C d_M_count_30 (n := 32) rfl (v := nI 72) (by decide) ?_
            refine zr_iload_n C d_M_count_32 (n := 33) rfl rfl ?_
            refine zr_imul C d_M_count_33 (n := 34) rfl ?_
            refine zr_toe (by simp only [pk_mul, nI_add]; rfl) ?_
            refine zr_bipush C d_M_count_34 (n := 36) rfl (v := nI 72) (by decide) ?_
            refine zr_iadd C d_M_count_36 (n := 37) rfl ?_
            refine zr_toe (by simp only [pk_mul, nI_add]; rfl) ?_
            refine zr_icmp_ge C d_M_count_37 (n := 40) rfl (t := 119) (by decide) (fun c1 => ?_) (fun c1 => ?_)
            · refine zr_iload_n C d_M_count_119 (n := 120) rfl rfl ?_
              refine zr_iconst C d_M_count_120 (n := 121) rfl (v := nI 3) (by decide) ?_
              refine zr_icmp_ne C d_M_count_121 (n := 124) rfl (t := 131) (by decide) (fun c2 => ?_) (fun c2 => ?_)
              · refine zr_iload_n C d_M_count_131 (n := 132) rfl rfl ?_
                exact zr_iret C d_M_count_132 rfl hK (Nat.zero_le _) (Nat.zero_le _)
              · exact absurd c2 (by decide)
            · exact absurd (zk_nle (by omega) (by omega) c1) (by omega)
          | succ n ih =>
            intro r a hr hK
            refine zr_iload C d_M_count_28 (n := 30) rfl rfl ?_
            refine zr_bipush C d_M_count_30 (n := 32) rfl (v := nI 72) (by decide) ?_
            refine zr_iload_n C d_M_count_32 (n := 33) rfl rfl ?_
            refine zr_imul C d_M_count_33 (n := 34) rfl ?_
            refine zr_toe (by simp only [pk_mul, nI_add]; rfl) ?_
            refine zr_bipush C d_M_count_34 (n := 36) rfl (v := nI 72) (by decide) ?_
            refine zr_iadd C d_M_count_36 (n := 37) rfl ?_
            refine zr_toe (by simp only [pk_mul, nI_add]; rfl) ?_
            refine zr_icmp_ge C d_M_count_37 (n := 40) rfl (t := 119) (by decide) (fun c1 => ?_) (fun c1 => ?_)
            · exact absurd (zk_le (by omega) (by omega) c1) (by omega)
            · refine zr_iload_n C d_M_count_40 (n := 41) rfl rfl ?_
              refine zr_if_ne C d_M_count_41 (n := 44) rfl (t := 68) (by decide) (fun c2 => ?_) (fun c2 => ?_)
              · refine zr_iload_n C d_M_count_68 (n := 69) rfl rfl ?_
                refine zr_iconst C d_M_count_69 (n := 70) rfl (v := nI 1) (by decide) ?_
                refine zr_icmp_ne C d_M_count_70 (n := 73) rfl (t := 95) (by decide) (fun c3 => ?_) (fun c3 => ?_)
                · exact absurd rfl c3
                · refine zr_iload C d_M_count_73 (n := 75) rfl rfl ?_
                  refine zr_iconst C d_M_count_75 (n := 76) rfl (v := nI 3) (by decide) ?_
                  refine zr_irem C d_M_count_76 (n := 77) rfl (by decide) ?_
                  refine zr_toe (y := nI ((72 * v + r) % 3)) (pk_rem (by omega) (by decide) (by decide)) ?_
                  refine zr_toe (y := nI (r % 3)) (congrArg nI (by omega)) ?_
                  refine zr_if_ne C d_M_count_77 (n := 80) rfl (t := 95) (by decide) (fun c4 => ?_) (fun c4 => ?_)
                  · replace c4 := zk_ne (b := 0) (by omega) (by omega) c4
                    refine zr_iload_n C d_M_count_95 (n := 96) rfl rfl ?_
                    refine zr_iconst C d_M_count_96 (n := 97) rfl (v := nI 2) (by decide) ?_
                    refine zr_icmp_ne C d_M_count_97 (n := 100) rfl (t := 113) (by decide) (fun c5 => ?_) (fun c5 => ?_)
                    · refine zr_iinc C d_M_count_113 (n := 116) rfl rfl (w := 1) (by decide) (nI_1 (72 * v + r)) (by decide) rfl ?_
                      refine zr_goto C d_M_count_116 (t := 28) (by decide) ?_
                      exact ih (r + 1) a (by omega) (by rw [zc_cnt_0 (f := (zm_cf (V v) 1)) (j := r) (zm_cf_1n c4)] at hK; exact hK)
                    · exact absurd c5 (by decide)
                  · replace c4 := zk_eq (b := 0) (by omega) (by omega) c4
                    refine zr_aload_n C d_M_count_80 (n := 81) rfl rfl ?_
                    refine zr_get C f_M_23 d_M_count_81 (n := 84) rfl hm rfl ?_
                    refine zr_iload C d_M_count_84 (n := 86) rfl rfl ?_
                    refine zr_iconst C d_M_count_86 (n := 87) rfl (v := nI 3) (by decide) ?_
                    refine zr_idiv C d_M_count_87 (n := 88) rfl (by decide) ?_
                    refine zr_toe (y := nI ((72 * v + r) / 3)) (pk_div (by omega) (by decide) (by decide)) ?_
                    refine zr_toe (y := nI (24 * v + r / 3)) (congrArg nI (by omega)) ?_
                    refine zr_ialdN C d_M_count_88 (n := 89) rfl s4 rfl (by omega) (by decide) ?_
                    refine zr_if_lt C d_M_count_89 (n := 92) rfl (t := 95) (by decide) (fun c6 => ?_) (fun c6 => ?_)
                    · replace c6 := (zm_kind hR hok hv (j := r / 3) (by omega)).1.mp c6
                      refine zr_iload_n C d_M_count_95 (n := 96) rfl rfl ?_
                      refine zr_iconst C d_M_count_96 (n := 97) rfl (v := nI 2) (by decide) ?_
                      refine zr_icmp_ne C d_M_count_97 (n := 100) rfl (t := 113) (by decide) (fun c7 => ?_) (fun c7 => ?_)
                      · refine zr_iinc C d_M_count_113 (n := 116) rfl rfl (w := 1) (by decide) (nI_1 (72 * v + r)) (by decide) rfl ?_
                        refine zr_goto C d_M_count_116 (t := 28) (by decide) ?_
                        exact ih (r + 1) a (by omega) (by rw [zc_cnt_0 (f := (zm_cf (V v) 1)) (j := r) ((zm_cf_1y c4).trans (decide_eq_false (fun q => q c6)))] at hK; exact hK)
                      · exact absurd c7 (by decide)
                    · replace c6 : ¬ V v 3 (r / 3) = -1 := fun q => c6 ((zm_kind hR hok hv (j := r / 3) (by omega)).1.mpr q)
                      refine zr_iinc C d_M_count_92 (n := 95) rfl rfl (w := 1) (by decide) (nI_1 a) (by decide) rfl ?_
                      refine zr_iload_n C d_M_count_95 (n := 96) rfl rfl ?_
                      refine zr_iconst C d_M_count_96 (n := 97) rfl (v := nI 2) (by decide) ?_
                      refine zr_icmp_ne C d_M_count_97 (n := 100) rfl (t := 113) (by decide) (fun c8 => ?_) (fun c8 => ?_)
                      · refine zr_iinc C d_M_count_113 (n := 116) rfl rfl (w := 1) (by decide) (nI_1 (72 * v + r)) (by decide) rfl ?_
                        refine zr_goto C d_M_count_116 (t := 28) (by decide) ?_
                        exact ih (r + 1) (a + 1) (by omega) (by rw [zc_cnt_1 (f := (zm_cf (V v) 1)) (j := r) ((zm_cf_1y c4).trans (decide_eq_true c6))] at hK; exact hK)
                      · exact absurd c8 (by decide)
              · exact absurd c2 (by decide)
        refine L 72 0 0 rfl ?_
        have e9 : zc_count V us (nI v) (nI 1) = nI (zc_cnt (zm_cf (V v) 1) 72 0 0) := by
          rw [zc_count, if_pos CV0, qv, zm_cf_1]
          rw [if_neg (by decide), if_pos rfl]
        rw [e9] at hK
        exact hK h S (zm_pv_r hM)
      · have L : ∀ (n r a : Nat), n + r = 72 → K (some (.int (nI (zc_cnt (zm_cf (V v) 2) n r a)))) h → zk_V p l e rm_M_count s m ar below meth c 5 D dA b base (MQ below (zk_Q K D dA b base) ar s rm_M_count.cells rm_M_count.slots (fun q : Nat => base ≤ q)) 0 0 28 [some (.ref (38 + 1)), some (.int (nI v)), some (.int (nI 2)), some (.int (nI a)), some (.int (nI (72 * v + r)))] [] h := by
          intro n
          induction n with
          | zero =>
            intro r a hr hK
            refine zr_iload C d_M_count_28 (n := 30) rfl rfl ?_
            refine zr_bipush C d_M_count_30 (n := 32) rfl (v := nI 72) (by decide) ?_
            refine zr_iload_n C d_M_count_32 (n := 33) rfl rfl ?_
            refine zr_imul C d_M_count_33 (n := 34) rfl ?_
            refine zr_toe (by simp only [pk_mul, nI_add]; rfl) ?_
            refine zr_bipush C d_M_count_34 (n := 36) rfl (v := nI 72) (by decide) ?_
            refine zr_iadd C d_M_count_36 (n := 37) rfl ?_
            refine zr_toe (by simp only [pk_mul, nI_add]; rfl) ?_
            refine zr_icmp_ge C d_M_count_37 (n := 40) rfl (t := 119) (by decide) (fun c1 => ?_) (fun c1 => ?_)
            · refine zr_iload_n C d_M_count_119 (n := 120) rfl rfl ?_
              refine zr_iconst C d_M_count_120 (n := 121) rfl (v := nI 3) (by decide) ?_
              refine zr_icmp_ne C d_M_count_121 (n := 124) rfl (t := 131) (by decide) (fun c2 => ?_) (fun c2 => ?_)
              · refine zr_iload_n C d_M_count_131 (n := 132) rfl rfl ?_
                exact zr_iret C d_M_count_132 rfl hK (Nat.zero_le _) (Nat.zero_le _)
              · exact absurd c2 (by decide)
            · exact absurd (zk_nle (by omega) (by omega) c1) (by omega)
          | succ n ih =>
            intro r a hr hK
            refine zr_iload C d_M_count_28 (n := 30) rfl rfl ?_
            refine zr_bipush C d_M_count_30 (n := 32) rfl (v := nI 72) (by decide) ?_
            refine zr_iload_n C d_M_count_32 (n := 33) rfl rfl ?_
            refine zr_imul C d_M_count_33 (n := 34) rfl ?_
            refine zr_toe (by simp only [pk_mul, nI_add]; rfl) ?_
            refine zr_bipush C d_M_count_34 (n := 36) rfl (v := nI 72) (by decide) ?_
            refine zr_iadd C d_M_count_36 (n := 37) rfl ?_
            refine zr_toe (by simp only [pk_mul, nI_add]; rfl) ?_
            refine zr_icmp_ge C d_M_count_37 (n := 40) rfl (t := 119) (by decide) (fun c1 => ?_) (fun c1 => ?_)
            · exact absurd (zk_le (by omega) (by omega) c1) (by omega)
            · refine zr_iload_n C d_M_count_40 (n := 41) rfl rfl ?_
              refine zr_if_ne C d_M_count_41 (n := 44) rfl (t := 68) (by decide) (fun c2 => ?_) (fun c2 => ?_)
              · refine zr_iload_n C d_M_count_68 (n := 69) rfl rfl ?_
                refine zr_iconst C d_M_count_69 (n := 70) rfl (v := nI 1) (by decide) ?_
                refine zr_icmp_ne C d_M_count_70 (n := 73) rfl (t := 95) (by decide) (fun c3 => ?_) (fun c3 => ?_)
                · refine zr_iload_n C d_M_count_95 (n := 96) rfl rfl ?_
                  refine zr_iconst C d_M_count_96 (n := 97) rfl (v := nI 2) (by decide) ?_
                  refine zr_icmp_ne C d_M_count_97 (n := 100) rfl (t := 113) (by decide) (fun c4 => ?_) (fun c4 => ?_)
                  · exact absurd rfl c4
                  · refine zr_aload_n C d_M_count_100 (n := 101) rfl rfl ?_
                    refine zr_get C f_M_32 d_M_count_101 (n := 104) rfl hm rfl ?_
                    refine zr_iload C d_M_count_104 (n := 106) rfl rfl ?_
                    refine zr_ialdN C d_M_count_106 (n := 107) rfl s7 rfl (by omega) (by decide) ?_
                    refine zr_if_lt C d_M_count_107 (n := 110) rfl (t := 113) (by decide) (fun c5 => ?_) (fun c5 => ?_)
                    · replace c5 := (zm_ans hR hok hv (j := r) (by omega)).1.mp c5
                      refine zr_iinc C d_M_count_113 (n := 116) rfl rfl (w := 1) (by decide) (nI_1 (72 * v + r)) (by decide) rfl ?_
                      refine zr_goto C d_M_count_116 (t := 28) (by decide) ?_
                      exact ih (r + 1) a (by omega) (by rw [zc_cnt_0 (f := (zm_cf (V v) 2)) (j := r) (decide_eq_false (fun q => q c5))] at hK; exact hK)
                    · replace c5 : ¬ V v 6 r = -1 := fun q => c5 ((zm_ans hR hok hv (j := r) (by omega)).1.mpr q)
                      refine zr_iinc C d_M_count_110 (n := 113) rfl rfl (w := 1) (by decide) (nI_1 a) (by decide) rfl ?_
                      refine zr_iinc C d_M_count_113 (n := 116) rfl rfl (w := 1) (by decide) (nI_1 (72 * v + r)) (by decide) rfl ?_
                      refine zr_goto C d_M_count_116 (t := 28) (by decide) ?_
                      exact ih (r + 1) (a + 1) (by omega) (by rw [zc_cnt_1 (f := (zm_cf (V v) 2)) (j := r) (decide_eq_true c5)] at hK; exact hK)
                · exact absurd c3 (by decide)
              · exact absurd c2 (by decide)
        refine L 72 0 0 rfl ?_
        have e9 : zc_count V us (nI v) (nI 2) = nI (zc_cnt (zm_cf (V v) 2) 72 0 0) := by
          rw [zc_count, if_pos CV0, qv, zm_cf_2]
          rw [if_neg (by decide), if_neg (by decide), if_pos rfl]
        rw [e9] at hK
        exact hK h S (zm_pv_r hM)
      · have L : ∀ (n r a : Nat), n + r = 72 → K (some (.int (nI us))) h → zk_V p l e rm_M_count s m ar below meth c 5 D dA b base (MQ below (zk_Q K D dA b base) ar s rm_M_count.cells rm_M_count.slots (fun q : Nat => base ≤ q)) 0 0 28 [some (.ref (38 + 1)), some (.int (nI v)), some (.int (nI 3)), some (.int (nI a)), some (.int (nI (72 * v + r)))] [] h := by
          intro n
          induction n with
          | zero =>
            intro r a hr hK
            refine zr_iload C d_M_count_28 (n := 30) rfl rfl ?_
            refine zr_bipush C d_M_count_30 (n := 32) rfl (v := nI 72) (by decide) ?_
            refine zr_iload_n C d_M_count_32 (n := 33) rfl rfl ?_
            refine zr_imul C d_M_count_33 (n := 34) rfl ?_
            refine zr_toe (by simp only [pk_mul, nI_add]; rfl) ?_
            refine zr_bipush C d_M_count_34 (n := 36) rfl (v := nI 72) (by decide) ?_
            refine zr_iadd C d_M_count_36 (n := 37) rfl ?_
            refine zr_toe (by simp only [pk_mul, nI_add]; rfl) ?_
            refine zr_icmp_ge C d_M_count_37 (n := 40) rfl (t := 119) (by decide) (fun c1 => ?_) (fun c1 => ?_)
            · refine zr_iload_n C d_M_count_119 (n := 120) rfl rfl ?_
              refine zr_iconst C d_M_count_120 (n := 121) rfl (v := nI 3) (by decide) ?_
              refine zr_icmp_ne C d_M_count_121 (n := 124) rfl (t := 131) (by decide) (fun c2 => ?_) (fun c2 => ?_)
              · exact absurd rfl c2
              · refine zr_aload_n C d_M_count_124 (n := 125) rfl rfl ?_
                refine zr_get C f_M_59 d_M_count_125 (n := 128) rfl hm rfl ?_
                refine zr_goto C d_M_count_128 (t := 132) (by decide) ?_
                exact zr_iret C d_M_count_132 rfl hK (Nat.zero_le _) (Nat.zero_le _)
            · exact absurd (zk_nle (by omega) (by omega) c1) (by omega)
          | succ n ih =>
            intro r a hr hK
            refine zr_iload C d_M_count_28 (n := 30) rfl rfl ?_
            refine zr_bipush C d_M_count_30 (n := 32) rfl (v := nI 72) (by decide) ?_
            refine zr_iload_n C d_M_count_32 (n := 33) rfl rfl ?_
            refine zr_imul C d_M_count_33 (n := 34) rfl ?_
            refine zr_toe (by simp only [pk_mul, nI_add]; rfl) ?_
            refine zr_bipush C d_M_count_34 (n := 36) rfl (v := nI 72) (by decide) ?_
            refine zr_iadd C d_M_count_36 (n := 37) rfl ?_
            refine zr_toe (by simp only [pk_mul, nI_add]; rfl) ?_
            refine zr_icmp_ge C d_M_count_37 (n := 40) rfl (t := 119) (by decide) (fun c1 => ?_) (fun c1 => ?_)
            · exact absurd (zk_le (by omega) (by omega) c1) (by omega)
            · refine zr_iload_n C d_M_count_40 (n := 41) rfl rfl ?_
              refine zr_if_ne C d_M_count_41 (n := 44) rfl (t := 68) (by decide) (fun c2 => ?_) (fun c2 => ?_)
              · refine zr_iload_n C d_M_count_68 (n := 69) rfl rfl ?_
                refine zr_iconst C d_M_count_69 (n := 70) rfl (v := nI 1) (by decide) ?_
                refine zr_icmp_ne C d_M_count_70 (n := 73) rfl (t := 95) (by decide) (fun c3 => ?_) (fun c3 => ?_)
                · refine zr_iload_n C d_M_count_95 (n := 96) rfl rfl ?_
                  refine zr_iconst C d_M_count_96 (n := 97) rfl (v := nI 2) (by decide) ?_
                  refine zr_icmp_ne C d_M_count_97 (n := 100) rfl (t := 113) (by decide) (fun c4 => ?_) (fun c4 => ?_)
                  · refine zr_iinc C d_M_count_113 (n := 116) rfl rfl (w := 1) (by decide) (nI_1 (72 * v + r)) (by decide) rfl ?_
                    refine zr_goto C d_M_count_116 (t := 28) (by decide) ?_
                    exact ih (r + 1) a (by omega) hK
                  · exact absurd c4 (by decide)
                · exact absurd c3 (by decide)
              · exact absurd c2 (by decide)
        refine L 72 0 0 rfl ?_
        have e9 : zc_count V us (nI v) (nI 3) = nI us := by
          rw [zc_count, if_pos CV0, qv]
          rw [if_neg (by decide), if_neg (by decide), if_neg (by decide), if_pos rfl]
        rw [e9] at hK
        exact hK h S (zm_pv_r hM)
    · replace c2 := zk_bz c2
      rw [zc_in_3] at c2
      refine zr_iconst C d_M_count_18 (n := 19) rfl (v := -1) (by decide) ?_
      have nx : ∀ k, k < 4 → ¬ x1 = nI k := fun k hk q => by
        rw [q] at c2
        exact absurd c2 (by rcases (show k = 0 ∨ k = 1 ∨ k = 2 ∨ k = 3 by omega) with rfl | rfl | rfl | rfl <;> decide)
      rw [zc_count, if_pos c1, if_neg (nx 0 (by decide)), if_neg (nx 1 (by decide)), if_neg (nx 2 (by decide)), if_neg (nx 3 (by decide))] at hK
      exact zr_iret C d_M_count_19 rfl (hK _ _ (zm_pv_r hM)) (Nat.zero_le _) (Nat.zero_le _)
