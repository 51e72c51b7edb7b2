theorem zm_k_ne {V : Nat → zo_O} (hok : ∀ v, v < 2 → zo_ok (V v)) {v : Nat} (hv : v < 2) {j : Nat} (hj : j < 24) (h : ¬ V v 3 j = -1) : ¬ V v 4 j = -1 ∧ ¬ V v 4 j < 0 := by
  rcases ((hok v hv).2.2.1 j hj h).1 with e | e
  · rw [e]; exact ⟨by decide, by decide⟩
  · rw [e]; exact ⟨by decide, by decide⟩
theorem zm_a_ne {V : Nat → zo_O} (hok : ∀ v, v < 2 → zo_ok (V v)) {v : Nat} (hv : v < 2) {j : Nat} (hj : j < 72) (h : ¬ V v 6 j = -1) : ¬ V v 7 j = -1 ∧ ¬ V v 7 j < 0 := by
  obtain ⟨a, ha, e⟩ := (hok v hv).2.2.2 j hj h
  rw [e]
  exact ⟨zk_nm1 (by omega), nI_pos (by omega)⟩
theorem zo_sf_aa {O P : zo_O} {j : Nat} (h : O 3 j = -1) (g : P 3 j = -1) : zo_sf O P j = true := decide_eq_true ⟨h.trans g.symm, Or.inl h⟩
theorem zo_sf_n {O P : zo_O} {j : Nat} (h : ¬ O 3 j = P 3 j) : zo_sf O P j = false := decide_eq_false (fun q => h q.1)
theorem zo_sf_pp {O P : zo_O} {j : Nat} (h : ¬ O 3 j = -1) (h3 : O 3 j = P 3 j) (h4 : O 4 j = P 4 j) (h5 : O 5 j = P 5 j) : zo_sf O P j = true := decide_eq_true ⟨h3, Or.inr ⟨h4, h5⟩⟩
theorem zo_sf_n4 {O P : zo_O} {j : Nat} (h : ¬ O 3 j = -1) (h4 : ¬ O 4 j = P 4 j) : zo_sf O P j = false := decide_eq_false (fun q => q.2.elim h (fun r => h4 r.1))
theorem zo_sf_n5 {O P : zo_O} {j : Nat} (h : ¬ O 3 j = -1) (h4 : ¬ O 5 j = P 5 j) : zo_sf O P j = false := decide_eq_false (fun q => q.2.elim h (fun r => h4 r.2))
theorem zo_sm_aa {O P : zo_O} {j : Nat} (h : O 6 j = -1) (g : P 6 j = -1) : zo_sm O P j = true := decide_eq_true ⟨h.trans g.symm, Or.inl h⟩
theorem zo_sm_n {O P : zo_O} {j : Nat} (h : ¬ O 6 j = P 6 j) : zo_sm O P j = false := decide_eq_false (fun q => h q.1)
theorem zo_sm_pp {O P : zo_O} {j : Nat} (h3 : O 6 j = P 6 j) (h4 : O 7 j = P 7 j) : zo_sm O P j = true := decide_eq_true ⟨h3, Or.inr h4⟩
theorem zo_sm_n7 {O P : zo_O} {j : Nat} (h : ¬ O 6 j = -1) (h4 : ¬ O 7 j = P 7 j) : zo_sm O P j = false := decide_eq_false (fun q => q.2.elim h h4)
abbrev rm_M_differences : Room := { frames := 0, cells := 0, slots := 0, locals := 0 }
set_option maxHeartbeats 4000000 in
set_option maxRecDepth 100000 in
/-- differences -/
theorem sp_M_differences (l : Launch) {h : zk_H} {V : Nat → zo_O} {S : zo_O} {us : Nat} (hM : zm_at h S us) (hR : zm_R V S) (hok : ∀ v, v < 2 → zo_ok (V v)) {t : Nat} (ht : t < 6) (h0 : zo_th (V 0) t = true) (h1 : zo_th (V 1) t = true) {K : Option Value → zk_H → Prop} (hK : K (some (.int (nI (zo_df (V 0) (V 1) t)))) h) : zk_S l y_M_differences b_M_differences 9 (some .int) rm_M_differences [.ref (38 + 1), .int (nI t)] h K := by
  obtain ⟨hm, s0, s1, s2, s3, s4, s5, s6, s7, s8, s9, s10, s11⟩ := id hM
  refine zk_S_of R_M "differences" (by decide) rfl rfl [some (.ref (38 + 1)), some (.int (nI t)), none, none, none, none, none, none, none] 7 rfl (Nat.le_of_ble_eq_true rfl) (fun p e s m ar below meth c D dA b base C => ?_)
  have L2 : ∀ (n j a : Nat), n + j = 12 → K (some (.int (nI (zo_dL (fun j => zo_sm (V 0) (V 1) (t * 12 + j)) n j a)))) h → zk_V p l e rm_M_differences s m ar below meth c 9 D dA b base (MQ below (zk_Q K D dA b base) ar s rm_M_differences.cells rm_M_differences.slots (fun q : Nat => base ≤ q)) 0 0 206 [some (.ref (38 + 1)), some (.int (nI t)), some (.int (nI a)), some (.int (nI (6 + t))), some (.int (nI j)), none, none, none, none] [] h := by
    intro n
    induction n with
    | zero =>
      intro j a hj hK
      refine zr_iload C d_M_differences_206 (n := 208) rfl rfl ?_
      refine zr_bipush C d_M_differences_208 (n := 210) rfl (v := nI 12) (by decide) ?_
      refine zr_icmp_ge C d_M_differences_210 (n := 213) rfl (t := 284) (by decide) (fun c1 => ?_) (fun c1 => ?_)
      · refine zr_iload_n C d_M_differences_284 (n := 285) rfl rfl ?_
        exact zr_iret C d_M_differences_285 rfl hK (Nat.zero_le _) (Nat.zero_le _)
      · exact absurd (zk_nle (by omega) (by omega) c1) (by omega)
    | succ n ih =>
      intro j a hj hK
      by_cases n0 : V 0 6 (t * 12 + j) = -1
      · by_cases n1 : V 1 6 (t * 12 + j) = -1
        · refine zr_iload C d_M_differences_206 (n := 208) rfl rfl ?_
          refine zr_bipush C d_M_differences_208 (n := 210) rfl (v := nI 12) (by decide) ?_
          refine zr_icmp_ge C d_M_differences_210 (n := 213) rfl (t := 284) (by decide) (fun c1 => ?_) (fun c1 => ?_)
          · exact absurd (zk_le (by omega) (by omega) c1) (by omega)
          · refine zr_bipush C d_M_differences_213 (n := 215) rfl (v := nI 12) (by decide) ?_
            refine zr_iload_n C d_M_differences_215 (n := 216) rfl rfl ?_
            refine zr_imul C d_M_differences_216 (n := 217) rfl ?_
            refine zr_toe (by simp only [pk_mul, nI_add]; rfl) ?_
            refine zr_iload C d_M_differences_217 (n := 219) rfl rfl ?_
            refine zr_iadd C d_M_differences_219 (n := 220) rfl ?_
            refine zr_toe (by simp only [pk_mul, nI_add]; rfl) ?_
            refine zr_istore C d_M_differences_220 (n := 222) rfl (by decide) rfl ?_
            refine zr_bipush C d_M_differences_222 (n := 224) rfl (v := nI 12) (by decide) ?_
            refine zr_iload_n C d_M_differences_224 (n := 225) rfl rfl ?_
            refine zr_imul C d_M_differences_225 (n := 226) rfl ?_
            refine zr_toe (by simp only [pk_mul, nI_add]; rfl) ?_
            refine zr_iload C d_M_differences_226 (n := 228) rfl rfl ?_
            refine zr_iadd C d_M_differences_228 (n := 229) rfl ?_
            refine zr_toe (by simp only [pk_mul, nI_add]; rfl) ?_
            refine zr_istore C d_M_differences_229 (n := 231) rfl (by decide) rfl ?_
            refine zr_aload_n C d_M_differences_231 (n := 232) rfl rfl ?_
            refine zr_get C f_M_32 d_M_differences_232 (n := 235) rfl hm rfl ?_
            refine zr_iload C d_M_differences_235 (n := 237) rfl rfl ?_
            refine zr_ialdN C d_M_differences_237 (n := 238) rfl s7 (j := 72 * 0 + (t * 12 + j)) (congrArg nI (by omega)) (by omega) (by decide) ?_
            refine zr_toe (y := -1) (((hR 0 (by decide)).2.2 (t * 12 + j) (by omega)).1 n0) ?_
            refine zr_aload_n C d_M_differences_238 (n := 239) rfl rfl ?_
            refine zr_get C f_M_32 d_M_differences_239 (n := 242) rfl hm rfl ?_
            refine zr_iload C d_M_differences_242 (n := 244) rfl rfl ?_
            refine zr_ialdN C d_M_differences_244 (n := 245) rfl s7 (j := 72 * 1 + (t * 12 + j)) (congrArg nI (by omega)) (by omega) (by decide) ?_
            refine zr_toe (y := -1) (((hR 1 (by decide)).2.2 (t * 12 + j) (by omega)).1 n1) ?_
            refine zr_icmp_ne C d_M_differences_245 (n := 248) rfl (t := 275) (by decide) (fun c2 => ?_) (fun c2 => ?_)
            · exact absurd rfl c2
            · refine zr_aload_n C d_M_differences_248 (n := 249) rfl rfl ?_
              refine zr_get C f_M_32 d_M_differences_249 (n := 252) rfl hm rfl ?_
              refine zr_iload C d_M_differences_252 (n := 254) rfl rfl ?_
              refine zr_ialdN C d_M_differences_254 (n := 255) rfl s7 (j := 72 * 0 + (t * 12 + j)) (congrArg nI (by omega)) (by omega) (by decide) ?_
              refine zr_toe (y := -1) (((hR 0 (by decide)).2.2 (t * 12 + j) (by omega)).1 n0) ?_
              refine zr_if_lt C d_M_differences_255 (n := 258) rfl (t := 278) (by decide) (fun c3 => ?_) (fun c3 => ?_)
              · refine zr_iinc C d_M_differences_278 (n := 281) rfl rfl (w := 1) (by decide) (nI_1 j) (by decide) rfl ?_
                refine zr_goto C d_M_differences_281 (t := 206) (by decide) ?_
                refine zr_drop 5 ?_
                refine zr_drop 6 ?_
                exact ih (j + 1) a (by omega) (by rw [zo_dL_1 (f := (fun j => zo_sm (V 0) (V 1) (t * 12 + j))) (j := j) (zo_sm_aa n0 n1)] at hK; exact hK)
              · exact absurd (by decide) c3
        · refine zr_iload C d_M_differences_206 (n := 208) rfl rfl ?_
          refine zr_bipush C d_M_differences_208 (n := 210) rfl (v := nI 12) (by decide) ?_
          refine zr_icmp_ge C d_M_differences_210 (n := 213) rfl (t := 284) (by decide) (fun c1 => ?_) (fun c1 => ?_)
          · exact absurd (zk_le (by omega) (by omega) c1) (by omega)
          · refine zr_bipush C d_M_differences_213 (n := 215) rfl (v := nI 12) (by decide) ?_
            refine zr_iload_n C d_M_differences_215 (n := 216) rfl rfl ?_
            refine zr_imul C d_M_differences_216 (n := 217) rfl ?_
            refine zr_toe (by simp only [pk_mul, nI_add]; rfl) ?_
            refine zr_iload C d_M_differences_217 (n := 219) rfl rfl ?_
            refine zr_iadd C d_M_differences_219 (n := 220) rfl ?_
            refine zr_toe (by simp only [pk_mul, nI_add]; rfl) ?_
            refine zr_istore C d_M_differences_220 (n := 222) rfl (by decide) rfl ?_
            refine zr_bipush C d_M_differences_222 (n := 224) rfl (v := nI 12) (by decide) ?_
            refine zr_iload_n C d_M_differences_224 (n := 225) rfl rfl ?_
            refine zr_imul C d_M_differences_225 (n := 226) rfl ?_
            refine zr_toe (by simp only [pk_mul, nI_add]; rfl) ?_
            refine zr_iload C d_M_differences_226 (n := 228) rfl rfl ?_
            refine zr_iadd C d_M_differences_228 (n := 229) rfl ?_
            refine zr_toe (by simp only [pk_mul, nI_add]; rfl) ?_
            refine zr_istore C d_M_differences_229 (n := 231) rfl (by decide) rfl ?_
            refine zr_aload_n C d_M_differences_231 (n := 232) rfl rfl ?_
            refine zr_get C f_M_32 d_M_differences_232 (n := 235) rfl hm rfl ?_
            refine zr_iload C d_M_differences_235 (n := 237) rfl rfl ?_
            refine zr_ialdN C d_M_differences_237 (n := 238) rfl s7 (j := 72 * 0 + (t * 12 + j)) (congrArg nI (by omega)) (by omega) (by decide) ?_
            refine zr_toe (y := -1) (((hR 0 (by decide)).2.2 (t * 12 + j) (by omega)).1 n0) ?_
            refine zr_aload_n C d_M_differences_238 (n := 239) rfl rfl ?_
            refine zr_get C f_M_32 d_M_differences_239 (n := 242) rfl hm rfl ?_
            refine zr_iload C d_M_differences_242 (n := 244) rfl rfl ?_
            refine zr_ialdN C d_M_differences_244 (n := 245) rfl s7 (j := 72 * 1 + (t * 12 + j)) (congrArg nI (by omega)) (by omega) (by decide) ?_
            refine zr_toe (y := V 1 7 (t * 12 + j)) (((hR 1 (by decide)).2.2 (t * 12 + j) (by omega)).2 n1).1 ?_
            refine zr_icmp_ne C d_M_differences_245 (n := 248) rfl (t := 275) (by decide) (fun c2 => ?_) (fun c2 => ?_)
            · refine zr_iinc C d_M_differences_275 (n := 278) rfl rfl (w := 1) (by decide) (nI_1 a) (by decide) rfl ?_
              refine zr_iinc C d_M_differences_278 (n := 281) rfl rfl (w := 1) (by decide) (nI_1 j) (by decide) rfl ?_
              refine zr_goto C d_M_differences_281 (t := 206) (by decide) ?_
              refine zr_drop 5 ?_
              refine zr_drop 6 ?_
              exact ih (j + 1) (a + 1) (by omega) (by rw [zo_dL_0 (f := (fun j => zo_sm (V 0) (V 1) (t * 12 + j))) (j := j) (zo_sm_n (fun q => n1 (q.symm.trans n0)))] at hK; exact hK)
            · exact absurd c2.symm (zm_a_ne hok (by decide) (by omega) n1).1
      · by_cases n1 : V 1 6 (t * 12 + j) = -1
        · refine zr_iload C d_M_differences_206 (n := 208) rfl rfl ?_
          refine zr_bipush C d_M_differences_208 (n := 210) rfl (v := nI 12) (by decide) ?_
          refine zr_icmp_ge C d_M_differences_210 (n := 213) rfl (t := 284) (by decide) (fun c1 => ?_) (fun c1 => ?_)
          · exact absurd (zk_le (by omega) (by omega) c1) (by omega)
          · refine zr_bipush C d_M_differences_213 (n := 215) rfl (v := nI 12) (by decide) ?_
            refine zr_iload_n C d_M_differences_215 (n := 216) rfl rfl ?_
            refine zr_imul C d_M_differences_216 (n := 217) rfl ?_
            refine zr_toe (by simp only [pk_mul, nI_add]; rfl) ?_
            refine zr_iload C d_M_differences_217 (n := 219) rfl rfl ?_
            refine zr_iadd C d_M_differences_219 (n := 220) rfl ?_
            refine zr_toe (by simp only [pk_mul, nI_add]; rfl) ?_
            refine zr_istore C d_M_differences_220 (n := 222) rfl (by decide) rfl ?_
            refine zr_bipush C d_M_differences_222 (n := 224) rfl (v := nI 12) (by decide) ?_
            refine zr_iload_n C d_M_differences_224 (n := 225) rfl rfl ?_
            refine zr_imul C d_M_differences_225 (n := 226) rfl ?_
            refine zr_toe (by simp only [pk_mul, nI_add]; rfl) ?_
            refine zr_iload C d_M_differences_226 (n := 228) rfl rfl ?_
            refine zr_iadd C d_M_differences_228 (n := 229) rfl ?_
            refine zr_toe (by simp only [pk_mul, nI_add]; rfl) ?_
            refine zr_istore C d_M_differences_229 (n := 231) rfl (by decide) rfl ?_
            refine zr_aload_n C d_M_differences_231 (n := 232) rfl rfl ?_
            refine zr_get C f_M_32 d_M_differences_232 (n := 235) rfl hm rfl ?_
            refine zr_iload C d_M_differences_235 (n := 237) rfl rfl ?_
            refine zr_ialdN C d_M_differences_237 (n := 238) rfl s7 (j := 72 * 0 + (t * 12 + j)) (congrArg nI (by omega)) (by omega) (by decide) ?_
            refine zr_toe (y := V 0 7 (t * 12 + j)) (((hR 0 (by decide)).2.2 (t * 12 + j) (by omega)).2 n0).1 ?_
            refine zr_aload_n C d_M_differences_238 (n := 239) rfl rfl ?_
            refine zr_get C f_M_32 d_M_differences_239 (n := 242) rfl hm rfl ?_
            refine zr_iload C d_M_differences_242 (n := 244) rfl rfl ?_
            refine zr_ialdN C d_M_differences_244 (n := 245) rfl s7 (j := 72 * 1 + (t * 12 + j)) (congrArg nI (by omega)) (by omega) (by decide) ?_
            refine zr_toe (y := -1) (((hR 1 (by decide)).2.2 (t * 12 + j) (by omega)).1 n1) ?_
            refine zr_icmp_ne C d_M_differences_245 (n := 248) rfl (t := 275) (by decide) (fun c2 => ?_) (fun c2 => ?_)
            · refine zr_iinc C d_M_differences_275 (n := 278) rfl rfl (w := 1) (by decide) (nI_1 a) (by decide) rfl ?_
              refine zr_iinc C d_M_differences_278 (n := 281) rfl rfl (w := 1) (by decide) (nI_1 j) (by decide) rfl ?_
              refine zr_goto C d_M_differences_281 (t := 206) (by decide) ?_
              refine zr_drop 5 ?_
              refine zr_drop 6 ?_
              exact ih (j + 1) (a + 1) (by omega) (by rw [zo_dL_0 (f := (fun j => zo_sm (V 0) (V 1) (t * 12 + j))) (j := j) (zo_sm_n (fun q => n0 (q.trans n1)))] at hK; exact hK)
            · exact absurd c2 (zm_a_ne hok (by decide) (by omega) n0).1
        · refine zr_iload C d_M_differences_206 (n := 208) rfl rfl ?_
          refine zr_bipush C d_M_differences_208 (n := 210) rfl (v := nI 12) (by decide) ?_
          refine zr_icmp_ge C d_M_differences_210 (n := 213) rfl (t := 284) (by decide) (fun c1 => ?_) (fun c1 => ?_)
          · exact absurd (zk_le (by omega) (by omega) c1) (by omega)
          · refine zr_bipush C d_M_differences_213 (n := 215) rfl (v := nI 12) (by decide) ?_
            refine zr_iload_n C d_M_differences_215 (n := 216) rfl rfl ?_
            refine zr_imul C d_M_differences_216 (n := 217) rfl ?_
            refine zr_toe (by simp only [pk_mul, nI_add]; rfl) ?_
            refine zr_iload C d_M_differences_217 (n := 219) rfl rfl ?_
            refine zr_iadd C d_M_differences_219 (n := 220) rfl ?_
            refine zr_toe (by simp only [pk_mul, nI_add]; rfl) ?_
            refine zr_istore C d_M_differences_220 (n := 222) rfl (by decide) rfl ?_
            refine zr_bipush C d_M_differences_222 (n := 224) rfl (v := nI 12) (by decide) ?_
            refine zr_iload_n C d_M_differences_224 (n := 225) rfl rfl ?_
            refine zr_imul C d_M_differences_225 (n := 226) rfl ?_
            refine zr_toe (by simp only [pk_mul, nI_add]; rfl) ?_
            refine zr_iload C d_M_differences_226 (n := 228) rfl rfl ?_
            refine zr_iadd C d_M_differences_228 (n := 229) rfl ?_
            refine zr_toe (by simp only [pk_mul, nI_add]; rfl) ?_
            refine zr_istore C d_M_differences_229 (n := 231) rfl (by decide) rfl ?_
            refine zr_aload_n C d_M_differences_231 (n := 232) rfl rfl ?_
            refine zr_get C f_M_32 d_M_differences_232 (n := 235) rfl hm rfl ?_
            refine zr_iload C d_M_differences_235 (n := 237) rfl rfl ?_
            refine zr_ialdN C d_M_differences_237 (n := 238) rfl s7 (j := 72 * 0 + (t * 12 + j)) (congrArg nI (by omega)) (by omega) (by decide) ?_
            refine zr_toe (y := V 0 7 (t * 12 + j)) (((hR 0 (by decide)).2.2 (t * 12 + j) (by omega)).2 n0).1 ?_
            refine zr_aload_n C d_M_differences_238 (n := 239) rfl rfl ?_
            refine zr_get C f_M_32 d_M_differences_239 (n := 242) rfl hm rfl ?_
            refine zr_iload C d_M_differences_242 (n := 244) rfl rfl ?_
            refine zr_ialdN C d_M_differences_244 (n := 245) rfl s7 (j := 72 * 1 + (t * 12 + j)) (congrArg nI (by omega)) (by omega) (by decide) ?_
            refine zr_toe (y := V 1 7 (t * 12 + j)) (((hR 1 (by decide)).2.2 (t * 12 + j) (by omega)).2 n1).1 ?_
            refine zr_icmp_ne C d_M_differences_245 (n := 248) rfl (t := 275) (by decide) (fun c2 => ?_) (fun c2 => ?_)
            · refine zr_iinc C d_M_differences_275 (n := 278) rfl rfl (w := 1) (by decide) (nI_1 a) (by decide) rfl ?_
              refine zr_iinc C d_M_differences_278 (n := 281) rfl rfl (w := 1) (by decide) (nI_1 j) (by decide) rfl ?_
              refine zr_goto C d_M_differences_281 (t := 206) (by decide) ?_
              refine zr_drop 5 ?_
              refine zr_drop 6 ?_
              exact ih (j + 1) (a + 1) (by omega) (by rw [zo_dL_0 (f := (fun j => zo_sm (V 0) (V 1) (t * 12 + j))) (j := j) (zo_sm_n7 n0 c2)] at hK; exact hK)
            · refine zr_aload_n C d_M_differences_248 (n := 249) rfl rfl ?_
              refine zr_get C f_M_32 d_M_differences_249 (n := 252) rfl hm rfl ?_
              refine zr_iload C d_M_differences_252 (n := 254) rfl rfl ?_
              refine zr_ialdN C d_M_differences_254 (n := 255) rfl s7 (j := 72 * 0 + (t * 12 + j)) (congrArg nI (by omega)) (by omega) (by decide) ?_
              refine zr_toe (y := V 0 7 (t * 12 + j)) (((hR 0 (by decide)).2.2 (t * 12 + j) (by omega)).2 n0).1 ?_
              refine zr_if_lt C d_M_differences_255 (n := 258) rfl (t := 278) (by decide) (fun c3 => ?_) (fun c3 => ?_)
              · exact absurd c3 (zm_a_ne hok (by decide) (by omega) n0).2
              · refine zr_aload_n C d_M_differences_258 (n := 259) rfl rfl ?_
                refine zr_get C f_M_35 d_M_differences_259 (n := 262) rfl hm rfl ?_
                refine zr_iload C d_M_differences_262 (n := 264) rfl rfl ?_
                refine zr_ialdN C d_M_differences_264 (n := 265) rfl s8 (j := 72 * 0 + (t * 12 + j)) (congrArg nI (by omega)) (by omega) (by decide) ?_
                refine zr_toe (y := V 0 6 (t * 12 + j)) (((hR 0 (by decide)).2.2 (t * 12 + j) (by omega)).2 n0).2 ?_
                refine zr_aload_n C d_M_differences_265 (n := 266) rfl rfl ?_
                refine zr_get C f_M_35 d_M_differences_266 (n := 269) rfl hm rfl ?_
                refine zr_iload C d_M_differences_269 (n := 271) rfl rfl ?_
                refine zr_ialdN C d_M_differences_271 (n := 272) rfl s8 (j := 72 * 1 + (t * 12 + j)) (congrArg nI (by omega)) (by omega) (by decide) ?_
                refine zr_toe (y := V 1 6 (t * 12 + j)) (((hR 1 (by decide)).2.2 (t * 12 + j) (by omega)).2 n1).2 ?_
                refine zr_icmp_eq C d_M_differences_272 (n := 275) rfl (t := 278) (by decide) (fun c4 => ?_) (fun c4 => ?_)
                · refine zr_iinc C d_M_differences_278 (n := 281) rfl rfl (w := 1) (by decide) (nI_1 j) (by decide) rfl ?_
                  refine zr_goto C d_M_differences_281 (t := 206) (by decide) ?_
                  refine zr_drop 5 ?_
                  refine zr_drop 6 ?_
                  exact ih (j + 1) a (by omega) (by rw [zo_dL_1 (f := (fun j => zo_sm (V 0) (V 1) (t * 12 + j))) (j := j) (zo_sm_pp c4 c2)] at hK; exact hK)
                · refine zr_iinc C d_M_differences_275 (n := 278) rfl rfl (w := 1) (by decide) (nI_1 a) (by decide) rfl ?_
                  refine zr_iinc C d_M_differences_278 (n := 281) rfl rfl (w := 1) (by decide) (nI_1 j) (by decide) rfl ?_
                  refine zr_goto C d_M_differences_281 (t := 206) (by decide) ?_
                  refine zr_drop 5 ?_
                  refine zr_drop 6 ?_
                  exact ih (j + 1) (a + 1) (by omega) (by rw [zo_dL_0 (f := (fun j => zo_sm (V 0) (V 1) (t * 12 + j))) (j := j) (zo_sm_n c4)] at hK; exact hK)
  have L1 : ∀ (n j a : Nat), n + j = 4 → K (some (.int (nI (zo_dL (fun j => zo_sm (V 0) (V 1) (t * 12 + j)) 12 0 (zo_dL (fun j => zo_sf (V 0) (V 1) (t * 4 + j)) n j a))))) h → zk_V p l e rm_M_differences s m ar below meth c 9 D dA b base (MQ below (zk_Q K D dA b base) ar s rm_M_differences.cells rm_M_differences.slots (fun q : Nat => base ≤ q)) 0 0 64 [some (.ref (38 + 1)), some (.int (nI t)), some (.int (nI a)), some (.int (nI (6 + t))), some (.int (nI j)), none, none, none, none] [] h := by
    intro n
    induction n with
    | zero =>
      intro j a hj hK
      refine zr_iload C d_M_differences_64 (n := 66) rfl rfl ?_
      refine zr_iconst C d_M_differences_66 (n := 67) rfl (v := nI 4) (by decide) ?_
      refine zr_icmp_ge C d_M_differences_67 (n := 70) rfl (t := 203) (by decide) (fun c1 => ?_) (fun c1 => ?_)
      · refine zr_iconst C d_M_differences_203 (n := 204) rfl (v := nI 0) (by decide) ?_
        refine zr_istore C d_M_differences_204 (n := 206) rfl (by decide) rfl ?_
        exact L2 12 0 a rfl hK
      · exact absurd (zk_nle (by omega) (by omega) c1) (by omega)
    | succ n ih =>
      intro j a hj hK
      by_cases n0 : V 0 3 (t * 4 + j) = -1
      · by_cases n1 : V 1 3 (t * 4 + j) = -1
        · refine zr_iload C d_M_differences_64 (n := 66) rfl rfl ?_
          refine zr_iconst C d_M_differences_66 (n := 67) rfl (v := nI 4) (by decide) ?_
          refine zr_icmp_ge C d_M_differences_67 (n := 70) rfl (t := 203) (by decide) (fun c1 => ?_) (fun c1 => ?_)
          · exact absurd (zk_le (by omega) (by omega) c1) (by omega)
          · refine zr_iconst C d_M_differences_70 (n := 71) rfl (v := nI 4) (by decide) ?_
            refine zr_iload_n C d_M_differences_71 (n := 72) rfl rfl ?_
            refine zr_imul C d_M_differences_72 (n := 73) rfl ?_
            refine zr_toe (by simp only [pk_mul, nI_add]; rfl) ?_
            refine zr_iload C d_M_differences_73 (n := 75) rfl rfl ?_
            refine zr_iadd C d_M_differences_75 (n := 76) rfl ?_
            refine zr_toe (by simp only [pk_mul, nI_add]; rfl) ?_
            refine zr_istore C d_M_differences_76 (n := 78) rfl (by decide) rfl ?_
            refine zr_iconst C d_M_differences_78 (n := 79) rfl (v := nI 4) (by decide) ?_
            refine zr_iload_n C d_M_differences_79 (n := 80) rfl rfl ?_
            refine zr_imul C d_M_differences_80 (n := 81) rfl ?_
            refine zr_toe (by simp only [pk_mul, nI_add]; rfl) ?_
            refine zr_iload C d_M_differences_81 (n := 83) rfl rfl ?_
            refine zr_iadd C d_M_differences_83 (n := 84) rfl ?_
            refine zr_toe (by simp only [pk_mul, nI_add]; rfl) ?_
            refine zr_istore C d_M_differences_84 (n := 86) rfl (by decide) rfl ?_
            refine zr_aload_n C d_M_differences_86 (n := 87) rfl rfl ?_
            refine zr_get C f_M_23 d_M_differences_87 (n := 90) rfl hm rfl ?_
            refine zr_iload C d_M_differences_90 (n := 92) rfl rfl ?_
            refine zr_ialdN C d_M_differences_92 (n := 93) rfl s4 (j := 24 * 0 + (t * 4 + j)) (congrArg nI (by omega)) (by omega) (by decide) ?_
            refine zr_toe (y := -1) (((hR 0 (by decide)).2.1 (t * 4 + j) (by omega)).1 n0) ?_
            refine zr_aload_n C d_M_differences_93 (n := 94) rfl rfl ?_
            refine zr_get C f_M_23 d_M_differences_94 (n := 97) rfl hm rfl ?_
            refine zr_iload C d_M_differences_97 (n := 99) rfl rfl ?_
            refine zr_ialdN C d_M_differences_99 (n := 100) rfl s4 (j := 24 * 1 + (t * 4 + j)) (congrArg nI (by omega)) (by omega) (by decide) ?_
            refine zr_toe (y := -1) (((hR 1 (by decide)).2.1 (t * 4 + j) (by omega)).1 n1) ?_
            refine zr_icmp_ne C d_M_differences_100 (n := 103) rfl (t := 134) (by decide) (fun c2 => ?_) (fun c2 => ?_)
            · exact absurd rfl c2
            · refine zr_aload_n C d_M_differences_103 (n := 104) rfl rfl ?_
              refine zr_get C f_M_23 d_M_differences_104 (n := 107) rfl hm rfl ?_
              refine zr_iload C d_M_differences_107 (n := 109) rfl rfl ?_
              refine zr_ialdN C d_M_differences_109 (n := 110) rfl s4 (j := 24 * 0 + (t * 4 + j)) (congrArg nI (by omega)) (by omega) (by decide) ?_
              refine zr_toe (y := -1) (((hR 0 (by decide)).2.1 (t * 4 + j) (by omega)).1 n0) ?_
              refine zr_if_lt C d_M_differences_110 (n := 113) rfl (t := 130) (by decide) (fun c3 => ?_) (fun c3 => ?_)
              · refine zr_iconst C d_M_differences_130 (n := 131) rfl (v := nI 1) (by decide) ?_
                refine zr_goto C d_M_differences_131 (t := 135) (by decide) ?_
                refine zr_istore C d_M_differences_135 (n := 137) rfl (by decide) rfl ?_
                refine zr_aload_n C d_M_differences_137 (n := 138) rfl rfl ?_
                refine zr_get C f_M_23 d_M_differences_138 (n := 141) rfl hm rfl ?_
                refine zr_iload C d_M_differences_141 (n := 143) rfl rfl ?_
                refine zr_ialdN C d_M_differences_143 (n := 144) rfl s4 (j := 24 * 0 + (t * 4 + j)) (congrArg nI (by omega)) (by omega) (by decide) ?_
                refine zr_toe (y := -1) (((hR 0 (by decide)).2.1 (t * 4 + j) (by omega)).1 n0) ?_
                refine zr_if_lt C d_M_differences_144 (n := 147) rfl (t := 164) (by decide) (fun c4 => ?_) (fun c4 => ?_)
                · refine zr_iconst C d_M_differences_164 (n := 165) rfl (v := nI 0) (by decide) ?_
                  refine zr_istore C d_M_differences_165 (n := 167) rfl (by decide) rfl ?_
                  refine zr_iload C d_M_differences_167 (n := 169) rfl rfl ?_
                  refine zr_if_eq C d_M_differences_169 (n := 172) rfl (t := 194) (by decide) (fun c5 => ?_) (fun c5 => ?_)
                  · exact absurd c5 (by decide)
                  · refine zr_iload C d_M_differences_172 (n := 174) rfl rfl ?_
                    refine zr_if_eq C d_M_differences_174 (n := 177) rfl (t := 197) (by decide) (fun c6 => ?_) (fun c6 => ?_)
                    · refine zr_iinc C d_M_differences_197 (n := 200) rfl rfl (w := 1) (by decide) (nI_1 j) (by decide) rfl ?_
                      refine zr_goto C d_M_differences_200 (t := 64) (by decide) ?_
                      refine zr_drop 5 ?_
                      refine zr_drop 6 ?_
                      refine zr_drop 7 ?_
                      refine zr_drop 8 ?_
                      exact ih (j + 1) a (by omega) (by rw [zo_dL_1 (f := (fun j => zo_sf (V 0) (V 1) (t * 4 + j))) (j := j) (zo_sf_aa n0 n1)] at hK; exact hK)
                    · exact absurd rfl c6
                · exact absurd (by decide) c4
              · exact absurd (by decide) c3
        · refine zr_iload C d_M_differences_64 (n := 66) rfl rfl ?_
          refine zr_iconst C d_M_differences_66 (n := 67) rfl (v := nI 4) (by decide) ?_
          refine zr_icmp_ge C d_M_differences_67 (n := 70) rfl (t := 203) (by decide) (fun c1 => ?_) (fun c1 => ?_)
          · exact absurd (zk_le (by omega) (by omega) c1) (by omega)
          · refine zr_iconst C d_M_differences_70 (n := 71) rfl (v := nI 4) (by decide) ?_
            refine zr_iload_n C d_M_differences_71 (n := 72) rfl rfl ?_
            refine zr_imul C d_M_differences_72 (n := 73) rfl ?_
            refine zr_toe (by simp only [pk_mul, nI_add]; rfl) ?_
            refine zr_iload C d_M_differences_73 (n := 75) rfl rfl ?_
            refine zr_iadd C d_M_differences_75 (n := 76) rfl ?_
            refine zr_toe (by simp only [pk_mul, nI_add]; rfl) ?_
            refine zr_istore C d_M_differences_76 (n := 78) rfl (by decide) rfl ?_
            refine zr_iconst C d_M_differences_78 (n := 79) rfl (v := nI 4) (by decide) ?_
            refine zr_iload_n C d_M_differences_79 (n := 80) rfl rfl ?_
            refine zr_imul C d_M_differences_80 (n := 81) rfl ?_
            refine zr_toe (by simp only [pk_mul, nI_add]; rfl) ?_
            refine zr_iload C d_M_differences_81 (n := 83) rfl rfl ?_
            refine zr_iadd C d_M_differences_83 (n := 84) rfl ?_
            refine zr_toe (by simp only [pk_mul, nI_add]; rfl) ?_
            refine zr_istore C d_M_differences_84 (n := 86) rfl (by decide) rfl ?_
            refine zr_aload_n C d_M_differences_86 (n := 87) rfl rfl ?_
            refine zr_get C f_M_23 d_M_differences_87 (n := 90) rfl hm rfl ?_
            refine zr_iload C d_M_differences_90 (n := 92) rfl rfl ?_
            refine zr_ialdN C d_M_differences_92 (n := 93) rfl s4 (j := 24 * 0 + (t * 4 + j)) (congrArg nI (by omega)) (by omega) (by decide) ?_
            refine zr_toe (y := -1) (((hR 0 (by decide)).2.1 (t * 4 + j) (by omega)).1 n0) ?_
            refine zr_aload_n C d_M_differences_93 (n := 94) rfl rfl ?_
            refine zr_get C f_M_23 d_M_differences_94 (n := 97) rfl hm rfl ?_
            refine zr_iload C d_M_differences_97 (n := 99) rfl rfl ?_
            refine zr_ialdN C d_M_differences_99 (n := 100) rfl s4 (j := 24 * 1 + (t * 4 + j)) (congrArg nI (by omega)) (by omega) (by decide) ?_
            refine zr_toe (y := V 1 4 (t * 4 + j)) (((hR 1 (by decide)).2.1 (t * 4 + j) (by omega)).2 n1).1 ?_
            refine zr_icmp_ne C d_M_differences_100 (n := 103) rfl (t := 134) (by decide) (fun c2 => ?_) (fun c2 => ?_)
            · refine zr_iconst C d_M_differences_134 (n := 135) rfl (v := nI 0) (by decide) ?_
              refine zr_istore C d_M_differences_135 (n := 137) rfl (by decide) rfl ?_
              refine zr_aload_n C d_M_differences_137 (n := 138) rfl rfl ?_
              refine zr_get C f_M_23 d_M_differences_138 (n := 141) rfl hm rfl ?_
              refine zr_iload C d_M_differences_141 (n := 143) rfl rfl ?_
              refine zr_ialdN C d_M_differences_143 (n := 144) rfl s4 (j := 24 * 0 + (t * 4 + j)) (congrArg nI (by omega)) (by omega) (by decide) ?_
              refine zr_toe (y := -1) (((hR 0 (by decide)).2.1 (t * 4 + j) (by omega)).1 n0) ?_
              refine zr_if_lt C d_M_differences_144 (n := 147) rfl (t := 164) (by decide) (fun c3 => ?_) (fun c3 => ?_)
              · refine zr_iconst C d_M_differences_164 (n := 165) rfl (v := nI 0) (by decide) ?_
                refine zr_istore C d_M_differences_165 (n := 167) rfl (by decide) rfl ?_
                refine zr_iload C d_M_differences_167 (n := 169) rfl rfl ?_
                refine zr_if_eq C d_M_differences_169 (n := 172) rfl (t := 194) (by decide) (fun c4 => ?_) (fun c4 => ?_)
                · refine zr_iinc C d_M_differences_194 (n := 197) rfl rfl (w := 1) (by decide) (nI_1 a) (by decide) rfl ?_
                  refine zr_iinc C d_M_differences_197 (n := 200) rfl rfl (w := 1) (by decide) (nI_1 j) (by decide) rfl ?_
                  refine zr_goto C d_M_differences_200 (t := 64) (by decide) ?_
                  refine zr_drop 5 ?_
                  refine zr_drop 6 ?_
                  refine zr_drop 7 ?_
                  refine zr_drop 8 ?_
                  exact ih (j + 1) (a + 1) (by omega) (by rw [zo_dL_0 (f := (fun j => zo_sf (V 0) (V 1) (t * 4 + j))) (j := j) (zo_sf_n (fun q => n1 (q.symm.trans n0)))] at hK; exact hK)
                · exact absurd rfl c4
              · exact absurd (by decide) c3
            · exact absurd c2.symm (zm_k_ne hok (by decide) (by omega) n1).1
      · by_cases n1 : V 1 3 (t * 4 + j) = -1
        · refine zr_iload C d_M_differences_64 (n := 66) rfl rfl ?_
          refine zr_iconst C d_M_differences_66 (n := 67) rfl (v := nI 4) (by decide) ?_
          refine zr_icmp_ge C d_M_differences_67 (n := 70) rfl (t := 203) (by decide) (fun c1 => ?_) (fun c1 => ?_)
          · exact absurd (zk_le (by omega) (by omega) c1) (by omega)
          · refine zr_iconst C d_M_differences_70 (n := 71) rfl (v := nI 4) (by decide) ?_
            refine zr_iload_n C d_M_differences_71 (n := 72) rfl rfl ?_
            refine zr_imul C d_M_differences_72 (n := 73) rfl ?_
            refine zr_toe (by simp only [pk_mul, nI_add]; rfl) ?_
            refine zr_iload C d_M_differences_73 (n := 75) rfl rfl ?_
            refine zr_iadd C d_M_differences_75 (n := 76) rfl ?_
            refine zr_toe (by simp only [pk_mul, nI_add]; rfl) ?_
            refine zr_istore C d_M_differences_76 (n := 78) rfl (by decide) rfl ?_
            refine zr_iconst C d_M_differences_78 (n := 79) rfl (v := nI 4) (by decide) ?_
            refine zr_iload_n C d_M_differences_79 (n := 80) rfl rfl ?_
            refine zr_imul C d_M_differences_80 (n := 81) rfl ?_
            refine zr_toe (by simp only [pk_mul, nI_add]; rfl) ?_
            refine zr_iload C d_M_differences_81 (n := 83) rfl rfl ?_
            refine zr_iadd C d_M_differences_83 (n := 84) rfl ?_
            refine zr_toe (by simp only [pk_mul, nI_add]; rfl) ?_
            refine zr_istore C d_M_differences_84 (n := 86) rfl (by decide) rfl ?_
            refine zr_aload_n C d_M_differences_86 (n := 87) rfl rfl ?_
            refine zr_get C f_M_23 d_M_differences_87 (n := 90) rfl hm rfl ?_
            refine zr_iload C d_M_differences_90 (n := 92) rfl rfl ?_
            refine zr_ialdN C d_M_differences_92 (n := 93) rfl s4 (j := 24 * 0 + (t * 4 + j)) (congrArg nI (by omega)) (by omega) (by decide) ?_
            refine zr_toe (y := V 0 4 (t * 4 + j)) (((hR 0 (by decide)).2.1 (t * 4 + j) (by omega)).2 n0).1 ?_
            refine zr_aload_n C d_M_differences_93 (n := 94) rfl rfl ?_
            refine zr_get C f_M_23 d_M_differences_94 (n := 97) rfl hm rfl ?_
            refine zr_iload C d_M_differences_97 (n := 99) rfl rfl ?_
            refine zr_ialdN C d_M_differences_99 (n := 100) rfl s4 (j := 24 * 1 + (t * 4 + j)) (congrArg nI (by omega)) (by omega) (by decide) ?_
            refine zr_toe (y := -1) (((hR 1 (by decide)).2.1 (t * 4 + j) (by omega)).1 n1) ?_
            refine zr_icmp_ne C d_M_differences_100 (n := 103) rfl (t := 134) (by decide) (fun c2 => ?_) (fun c2 => ?_)
            · refine zr_iconst C d_M_differences_134 (n := 135) rfl (v := nI 0) (by decide) ?_
              refine zr_istore C d_M_differences_135 (n := 137) rfl (by decide) rfl ?_
              refine zr_aload_n C d_M_differences_137 (n := 138) rfl rfl ?_
              refine zr_get C f_M_23 d_M_differences_138 (n := 141) rfl hm rfl ?_
              refine zr_iload C d_M_differences_141 (n := 143) rfl rfl ?_
              refine zr_ialdN C d_M_differences_143 (n := 144) rfl s4 (j := 24 * 0 + (t * 4 + j)) (congrArg nI (by omega)) (by omega) (by decide) ?_
              refine zr_toe (y := V 0 4 (t * 4 + j)) (((hR 0 (by decide)).2.1 (t * 4 + j) (by omega)).2 n0).1 ?_
              refine zr_if_lt C d_M_differences_144 (n := 147) rfl (t := 164) (by decide) (fun c3 => ?_) (fun c3 => ?_)
              · exact absurd c3 (zm_k_ne hok (by decide) (by omega) n0).2
              · refine zr_aload_n C d_M_differences_147 (n := 148) rfl rfl ?_
                refine zr_get C f_M_26 d_M_differences_148 (n := 151) rfl hm rfl ?_
                refine zr_iload C d_M_differences_151 (n := 153) rfl rfl ?_
                refine zr_ialdN C d_M_differences_153 (n := 154) rfl s5 (j := 24 * 0 + (t * 4 + j)) (congrArg nI (by omega)) (by omega) (by decide) ?_
                refine zr_toe (y := V 0 3 (t * 4 + j)) (((hR 0 (by decide)).2.1 (t * 4 + j) (by omega)).2 n0).2.1 ?_
                refine zr_bipush C d_M_differences_154 (n := 156) rfl (v := nI 16) (by decide) ?_
                refine zr_iand C d_M_differences_156 (n := 157) rfl ?_
                refine zr_if_eq C d_M_differences_157 (n := 160) rfl (t := 164) (by decide) (fun c4 => ?_) (fun c4 => ?_)
                · replace c4 := zb_nzf c4
                  refine zr_iconst C d_M_differences_164 (n := 165) rfl (v := nI 0) (by decide) ?_
                  refine zr_istore C d_M_differences_165 (n := 167) rfl (by decide) rfl ?_
                  refine zr_iload C d_M_differences_167 (n := 169) rfl rfl ?_
                  refine zr_if_eq C d_M_differences_169 (n := 172) rfl (t := 194) (by decide) (fun c5 => ?_) (fun c5 => ?_)
                  · refine zr_iinc C d_M_differences_194 (n := 197) rfl rfl (w := 1) (by decide) (nI_1 a) (by decide) rfl ?_
                    refine zr_iinc C d_M_differences_197 (n := 200) rfl rfl (w := 1) (by decide) (nI_1 j) (by decide) rfl ?_
                    refine zr_goto C d_M_differences_200 (t := 64) (by decide) ?_
                    refine zr_drop 5 ?_
                    refine zr_drop 6 ?_
                    refine zr_drop 7 ?_
                    refine zr_drop 8 ?_
                    exact ih (j + 1) (a + 1) (by omega) (by rw [zo_dL_0 (f := (fun j => zo_sf (V 0) (V 1) (t * 4 + j))) (j := j) (zo_sf_n (fun q => n0 (q.trans n1)))] at hK; exact hK)
                  · exact absurd rfl c5
                · replace c4 := zb_nzt c4
                  refine zr_iconst C d_M_differences_160 (n := 161) rfl (v := nI 1) (by decide) ?_
                  refine zr_goto C d_M_differences_161 (t := 165) (by decide) ?_
                  refine zr_istore C d_M_differences_165 (n := 167) rfl (by decide) rfl ?_
                  refine zr_iload C d_M_differences_167 (n := 169) rfl rfl ?_
                  refine zr_if_eq C d_M_differences_169 (n := 172) rfl (t := 194) (by decide) (fun c6 => ?_) (fun c6 => ?_)
                  · refine zr_iinc C d_M_differences_194 (n := 197) rfl rfl (w := 1) (by decide) (nI_1 a) (by decide) rfl ?_
                    refine zr_iinc C d_M_differences_197 (n := 200) rfl rfl (w := 1) (by decide) (nI_1 j) (by decide) rfl ?_
                    refine zr_goto C d_M_differences_200 (t := 64) (by decide) ?_
                    refine zr_drop 5 ?_
                    refine zr_drop 6 ?_
                    refine zr_drop 7 ?_
                    refine zr_drop 8 ?_
                    exact ih (j + 1) (a + 1) (by omega) (by rw [zo_dL_0 (f := (fun j => zo_sf (V 0) (V 1) (t * 4 + j))) (j := j) (zo_sf_n (fun q => n0 (q.trans n1)))] at hK; exact hK)
                  · exact absurd rfl c6
            · exact absurd c2 (zm_k_ne hok (by decide) (by omega) n0).1
        · refine zr_iload C d_M_differences_64 (n := 66) rfl rfl ?_
          refine zr_iconst C d_M_differences_66 (n := 67) rfl (v := nI 4) (by decide) ?_
          refine zr_icmp_ge C d_M_differences_67 (n := 70) rfl (t := 203) (by decide) (fun c1 => ?_) (fun c1 => ?_)
          · exact absurd (zk_le (by omega) (by omega) c1) (by omega)
          · refine zr_iconst C d_M_differences_70 (n := 71) rfl (v := nI 4) (by decide) ?_
            refine zr_iload_n C d_M_differences_71 (n := 72) rfl rfl ?_
            refine zr_imul C d_M_differences_72 (n := 73) rfl ?_
            refine zr_toe (by simp only [pk_mul, nI_add]; rfl) ?_
            refine zr_iload C d_M_differences_73 (n := 75) rfl rfl ?_
            refine zr_iadd C d_M_differences_75 (n := 76) rfl ?_
            refine zr_toe (by simp only [pk_mul, nI_add]; rfl) ?_
            refine zr_istore C d_M_differences_76 (n := 78) rfl (by decide) rfl ?_
            refine zr_iconst C d_M_differences_78 (n := 79) rfl (v := nI 4) (by decide) ?_
            refine zr_iload_n C d_M_differences_79 (n := 80) rfl rfl ?_
            refine zr_imul C d_M_differences_80 (n := 81) rfl ?_
            refine zr_toe (by simp only [pk_mul, nI_add]; rfl) ?_
            refine zr_iload C d_M_differences_81 (n := 83) rfl rfl ?_
            refine zr_iadd C d_M_differences_83 (n := 84) rfl ?_
            refine zr_toe (by simp only [pk_mul, nI_add]; rfl) ?_
            refine zr_istore C d_M_differences_84 (n := 86) rfl (by decide) rfl ?_
            refine zr_aload_n C d_M_differences_86 (n := 87) rfl rfl ?_
            refine zr_get C f_M_23 d_M_differences_87 (n := 90) rfl hm rfl ?_
            refine zr_iload C d_M_differences_90 (n := 92) rfl rfl ?_
            refine zr_ialdN C d_M_differences_92 (n := 93) rfl s4 (j := 24 * 0 + (t * 4 + j)) (congrArg nI (by omega)) (by omega) (by decide) ?_
            refine zr_toe (y := V 0 4 (t * 4 + j)) (((hR 0 (by decide)).2.1 (t * 4 + j) (by omega)).2 n0).1 ?_
            refine zr_aload_n C d_M_differences_93 (n := 94) rfl rfl ?_
            refine zr_get C f_M_23 d_M_differences_94 (n := 97) rfl hm rfl ?_
            refine zr_iload C d_M_differences_97 (n := 99) rfl rfl ?_
            refine zr_ialdN C d_M_differences_99 (n := 100) rfl s4 (j := 24 * 1 + (t * 4 + j)) (congrArg nI (by omega)) (by omega) (by decide) ?_
            refine zr_toe (y := V 1 4 (t * 4 + j)) (((hR 1 (by decide)).2.1 (t * 4 + j) (by omega)).2 n1).1 ?_
            refine zr_icmp_ne C d_M_differences_100 (n := 103) rfl (t := 134) (by decide) (fun c2 => ?_) (fun c2 => ?_)
            · refine zr_iconst C d_M_differences_134 (n := 135) rfl (v := nI 0) (by decide) ?_
              refine zr_istore C d_M_differences_135 (n := 137) rfl (by decide) rfl ?_
              refine zr_aload_n C d_M_differences_137 (n := 138) rfl rfl ?_
              refine zr_get C f_M_23 d_M_differences_138 (n := 141) rfl hm rfl ?_
              refine zr_iload C d_M_differences_141 (n := 143) rfl rfl ?_
              refine zr_ialdN C d_M_differences_143 (n := 144) rfl s4 (j := 24 * 0 + (t * 4 + j)) (congrArg nI (by omega)) (by omega) (by decide) ?_
              refine zr_toe (y := V 0 4 (t * 4 + j)) (((hR 0 (by decide)).2.1 (t * 4 + j) (by omega)).2 n0).1 ?_
              refine zr_if_lt C d_M_differences_144 (n := 147) rfl (t := 164) (by decide) (fun c3 => ?_) (fun c3 => ?_)
              · exact absurd c3 (zm_k_ne hok (by decide) (by omega) n0).2
              · refine zr_aload_n C d_M_differences_147 (n := 148) rfl rfl ?_
                refine zr_get C f_M_26 d_M_differences_148 (n := 151) rfl hm rfl ?_
                refine zr_iload C d_M_differences_151 (n := 153) rfl rfl ?_
                refine zr_ialdN C d_M_differences_153 (n := 154) rfl s5 (j := 24 * 0 + (t * 4 + j)) (congrArg nI (by omega)) (by omega) (by decide) ?_
                refine zr_toe (y := V 0 3 (t * 4 + j)) (((hR 0 (by decide)).2.1 (t * 4 + j) (by omega)).2 n0).2.1 ?_
                refine zr_bipush C d_M_differences_154 (n := 156) rfl (v := nI 16) (by decide) ?_
                refine zr_iand C d_M_differences_156 (n := 157) rfl ?_
                refine zr_if_eq C d_M_differences_157 (n := 160) rfl (t := 164) (by decide) (fun c4 => ?_) (fun c4 => ?_)
                · replace c4 := zb_nzf c4
                  refine zr_iconst C d_M_differences_164 (n := 165) rfl (v := nI 0) (by decide) ?_
                  refine zr_istore C d_M_differences_165 (n := 167) rfl (by decide) rfl ?_
                  refine zr_iload C d_M_differences_167 (n := 169) rfl rfl ?_
                  refine zr_if_eq C d_M_differences_169 (n := 172) rfl (t := 194) (by decide) (fun c5 => ?_) (fun c5 => ?_)
                  · refine zr_iinc C d_M_differences_194 (n := 197) rfl rfl (w := 1) (by decide) (nI_1 a) (by decide) rfl ?_
                    refine zr_iinc C d_M_differences_197 (n := 200) rfl rfl (w := 1) (by decide) (nI_1 j) (by decide) rfl ?_
                    refine zr_goto C d_M_differences_200 (t := 64) (by decide) ?_
                    refine zr_drop 5 ?_
                    refine zr_drop 6 ?_
                    refine zr_drop 7 ?_
                    refine zr_drop 8 ?_
                    exact ih (j + 1) (a + 1) (by omega) (by rw [zo_dL_0 (f := (fun j => zo_sf (V 0) (V 1) (t * 4 + j))) (j := j) (zo_sf_n4 n0 c2)] at hK; exact hK)
                  · exact absurd rfl c5
                · replace c4 := zb_nzt c4
                  refine zr_iconst C d_M_differences_160 (n := 161) rfl (v := nI 1) (by decide) ?_
                  refine zr_goto C d_M_differences_161 (t := 165) (by decide) ?_
                  refine zr_istore C d_M_differences_165 (n := 167) rfl (by decide) rfl ?_
                  refine zr_iload C d_M_differences_167 (n := 169) rfl rfl ?_
                  refine zr_if_eq C d_M_differences_169 (n := 172) rfl (t := 194) (by decide) (fun c6 => ?_) (fun c6 => ?_)
                  · refine zr_iinc C d_M_differences_194 (n := 197) rfl rfl (w := 1) (by decide) (nI_1 a) (by decide) rfl ?_
                    refine zr_iinc C d_M_differences_197 (n := 200) rfl rfl (w := 1) (by decide) (nI_1 j) (by decide) rfl ?_
                    refine zr_goto C d_M_differences_200 (t := 64) (by decide) ?_
                    refine zr_drop 5 ?_
                    refine zr_drop 6 ?_
                    refine zr_drop 7 ?_
                    refine zr_drop 8 ?_
                    exact ih (j + 1) (a + 1) (by omega) (by rw [zo_dL_0 (f := (fun j => zo_sf (V 0) (V 1) (t * 4 + j))) (j := j) (zo_sf_n4 n0 c2)] at hK; exact hK)
                  · exact absurd rfl c6
            · refine zr_aload_n C d_M_differences_103 (n := 104) rfl rfl ?_
              refine zr_get C f_M_23 d_M_differences_104 (n := 107) rfl hm rfl ?_
              refine zr_iload C d_M_differences_107 (n := 109) rfl rfl ?_
              refine zr_ialdN C d_M_differences_109 (n := 110) rfl s4 (j := 24 * 0 + (t * 4 + j)) (congrArg nI (by omega)) (by omega) (by decide) ?_
              refine zr_toe (y := V 0 4 (t * 4 + j)) (((hR 0 (by decide)).2.1 (t * 4 + j) (by omega)).2 n0).1 ?_
              refine zr_if_lt C d_M_differences_110 (n := 113) rfl (t := 130) (by decide) (fun c7 => ?_) (fun c7 => ?_)
              · exact absurd c7 (zm_k_ne hok (by decide) (by omega) n0).2
              · refine zr_aload_n C d_M_differences_113 (n := 114) rfl rfl ?_
                refine zr_get C f_M_26 d_M_differences_114 (n := 117) rfl hm rfl ?_
                refine zr_iload C d_M_differences_117 (n := 119) rfl rfl ?_
                refine zr_ialdN C d_M_differences_119 (n := 120) rfl s5 (j := 24 * 0 + (t * 4 + j)) (congrArg nI (by omega)) (by omega) (by decide) ?_
                refine zr_toe (y := V 0 3 (t * 4 + j)) (((hR 0 (by decide)).2.1 (t * 4 + j) (by omega)).2 n0).2.1 ?_
                refine zr_aload_n C d_M_differences_120 (n := 121) rfl rfl ?_
                refine zr_get C f_M_26 d_M_differences_121 (n := 124) rfl hm rfl ?_
                refine zr_iload C d_M_differences_124 (n := 126) rfl rfl ?_
                refine zr_ialdN C d_M_differences_126 (n := 127) rfl s5 (j := 24 * 1 + (t * 4 + j)) (congrArg nI (by omega)) (by omega) (by decide) ?_
                refine zr_toe (y := V 1 3 (t * 4 + j)) (((hR 1 (by decide)).2.1 (t * 4 + j) (by omega)).2 n1).2.1 ?_
                refine zr_icmp_ne C d_M_differences_127 (n := 130) rfl (t := 134) (by decide) (fun c8 => ?_) (fun c8 => ?_)
                · refine zr_iconst C d_M_differences_134 (n := 135) rfl (v := nI 0) (by decide) ?_
                  refine zr_istore C d_M_differences_135 (n := 137) rfl (by decide) rfl ?_
                  refine zr_aload_n C d_M_differences_137 (n := 138) rfl rfl ?_
                  refine zr_get C f_M_23 d_M_differences_138 (n := 141) rfl hm rfl ?_
                  refine zr_iload C d_M_differences_141 (n := 143) rfl rfl ?_
                  refine zr_ialdN C d_M_differences_143 (n := 144) rfl s4 (j := 24 * 0 + (t * 4 + j)) (congrArg nI (by omega)) (by omega) (by decide) ?_
                  refine zr_toe (y := V 0 4 (t * 4 + j)) (((hR 0 (by decide)).2.1 (t * 4 + j) (by omega)).2 n0).1 ?_
                  refine zr_if_lt C d_M_differences_144 (n := 147) rfl (t := 164) (by decide) (fun c9 => ?_) (fun c9 => ?_)
                  · exact absurd c9 (zm_k_ne hok (by decide) (by omega) n0).2
                  · refine zr_aload_n C d_M_differences_147 (n := 148) rfl rfl ?_
                    refine zr_get C f_M_26 d_M_differences_148 (n := 151) rfl hm rfl ?_
                    refine zr_iload C d_M_differences_151 (n := 153) rfl rfl ?_
                    refine zr_ialdN C d_M_differences_153 (n := 154) rfl s5 (j := 24 * 0 + (t * 4 + j)) (congrArg nI (by omega)) (by omega) (by decide) ?_
                    refine zr_toe (y := V 0 3 (t * 4 + j)) (((hR 0 (by decide)).2.1 (t * 4 + j) (by omega)).2 n0).2.1 ?_
                    refine zr_bipush C d_M_differences_154 (n := 156) rfl (v := nI 16) (by decide) ?_
                    refine zr_iand C d_M_differences_156 (n := 157) rfl ?_
                    refine zr_if_eq C d_M_differences_157 (n := 160) rfl (t := 164) (by decide) (fun c10 => ?_) (fun c10 => ?_)
                    · replace c10 := zb_nzf c10
                      refine zr_iconst C d_M_differences_164 (n := 165) rfl (v := nI 0) (by decide) ?_
                      refine zr_istore C d_M_differences_165 (n := 167) rfl (by decide) rfl ?_
                      refine zr_iload C d_M_differences_167 (n := 169) rfl rfl ?_
                      refine zr_if_eq C d_M_differences_169 (n := 172) rfl (t := 194) (by decide) (fun c11 => ?_) (fun c11 => ?_)
                      · refine zr_iinc C d_M_differences_194 (n := 197) rfl rfl (w := 1) (by decide) (nI_1 a) (by decide) rfl ?_
                        refine zr_iinc C d_M_differences_197 (n := 200) rfl rfl (w := 1) (by decide) (nI_1 j) (by decide) rfl ?_
                        refine zr_goto C d_M_differences_200 (t := 64) (by decide) ?_
                        refine zr_drop 5 ?_
                        refine zr_drop 6 ?_
                        refine zr_drop 7 ?_
                        refine zr_drop 8 ?_
                        exact ih (j + 1) (a + 1) (by omega) (by rw [zo_dL_0 (f := (fun j => zo_sf (V 0) (V 1) (t * 4 + j))) (j := j) (zo_sf_n c8)] at hK; exact hK)
                      · exact absurd rfl c11
                    · replace c10 := zb_nzt c10
                      refine zr_iconst C d_M_differences_160 (n := 161) rfl (v := nI 1) (by decide) ?_
                      refine zr_goto C d_M_differences_161 (t := 165) (by decide) ?_
                      refine zr_istore C d_M_differences_165 (n := 167) rfl (by decide) rfl ?_
                      refine zr_iload C d_M_differences_167 (n := 169) rfl rfl ?_
                      refine zr_if_eq C d_M_differences_169 (n := 172) rfl (t := 194) (by decide) (fun c12 => ?_) (fun c12 => ?_)
                      · refine zr_iinc C d_M_differences_194 (n := 197) rfl rfl (w := 1) (by decide) (nI_1 a) (by decide) rfl ?_
                        refine zr_iinc C d_M_differences_197 (n := 200) rfl rfl (w := 1) (by decide) (nI_1 j) (by decide) rfl ?_
                        refine zr_goto C d_M_differences_200 (t := 64) (by decide) ?_
                        refine zr_drop 5 ?_
                        refine zr_drop 6 ?_
                        refine zr_drop 7 ?_
                        refine zr_drop 8 ?_
                        exact ih (j + 1) (a + 1) (by omega) (by rw [zo_dL_0 (f := (fun j => zo_sf (V 0) (V 1) (t * 4 + j))) (j := j) (zo_sf_n c8)] at hK; exact hK)
                      · exact absurd rfl c12
                · refine zr_iconst C d_M_differences_130 (n := 131) rfl (v := nI 1) (by decide) ?_
                  refine zr_goto C d_M_differences_131 (t := 135) (by decide) ?_
                  refine zr_istore C d_M_differences_135 (n := 137) rfl (by decide) rfl ?_
                  refine zr_aload_n C d_M_differences_137 (n := 138) rfl rfl ?_
                  refine zr_get C f_M_23 d_M_differences_138 (n := 141) rfl hm rfl ?_
                  refine zr_iload C d_M_differences_141 (n := 143) rfl rfl ?_
                  refine zr_ialdN C d_M_differences_143 (n := 144) rfl s4 (j := 24 * 0 + (t * 4 + j)) (congrArg nI (by omega)) (by omega) (by decide) ?_
                  refine zr_toe (y := V 0 4 (t * 4 + j)) (((hR 0 (by decide)).2.1 (t * 4 + j) (by omega)).2 n0).1 ?_
                  refine zr_if_lt C d_M_differences_144 (n := 147) rfl (t := 164) (by decide) (fun c13 => ?_) (fun c13 => ?_)
                  · exact absurd c13 (zm_k_ne hok (by decide) (by omega) n0).2
                  · refine zr_aload_n C d_M_differences_147 (n := 148) rfl rfl ?_
                    refine zr_get C f_M_26 d_M_differences_148 (n := 151) rfl hm rfl ?_
                    refine zr_iload C d_M_differences_151 (n := 153) rfl rfl ?_
                    refine zr_ialdN C d_M_differences_153 (n := 154) rfl s5 (j := 24 * 0 + (t * 4 + j)) (congrArg nI (by omega)) (by omega) (by decide) ?_
                    refine zr_toe (y := V 0 3 (t * 4 + j)) (((hR 0 (by decide)).2.1 (t * 4 + j) (by omega)).2 n0).2.1 ?_
                    refine zr_bipush C d_M_differences_154 (n := 156) rfl (v := nI 16) (by decide) ?_
                    refine zr_iand C d_M_differences_156 (n := 157) rfl ?_
                    refine zr_if_eq C d_M_differences_157 (n := 160) rfl (t := 164) (by decide) (fun c14 => ?_) (fun c14 => ?_)
                    · replace c14 := zb_nzf c14
                      refine zr_iconst C d_M_differences_164 (n := 165) rfl (v := nI 0) (by decide) ?_
                      refine zr_istore C d_M_differences_165 (n := 167) rfl (by decide) rfl ?_
                      refine zr_iload C d_M_differences_167 (n := 169) rfl rfl ?_
                      refine zr_if_eq C d_M_differences_169 (n := 172) rfl (t := 194) (by decide) (fun c15 => ?_) (fun c15 => ?_)
                      · exact absurd c15 (by decide)
                      · refine zr_iload C d_M_differences_172 (n := 174) rfl rfl ?_
                        refine zr_if_eq C d_M_differences_174 (n := 177) rfl (t := 197) (by decide) (fun c16 => ?_) (fun c16 => ?_)
                        · refine zr_iinc C d_M_differences_197 (n := 200) rfl rfl (w := 1) (by decide) (nI_1 j) (by decide) rfl ?_
                          refine zr_goto C d_M_differences_200 (t := 64) (by decide) ?_
                          refine zr_drop 5 ?_
                          refine zr_drop 6 ?_
                          refine zr_drop 7 ?_
                          refine zr_drop 8 ?_
                          exact ih (j + 1) a (by omega) (by rw [zo_dL_1 (f := (fun j => zo_sf (V 0) (V 1) (t * 4 + j))) (j := j) (zo_sf_pp n0 c8 c2 ((((hok 0 (by decide)).2.2.1 _ (by omega) n0).2 c14).trans (((hok 1 (by decide)).2.2.1 _ (by omega) n1).2 (by rw [← c8]; exact c14)).symm))] at hK; exact hK)
                        · exact absurd rfl c16
                    · replace c14 := zb_nzt c14
                      refine zr_iconst C d_M_differences_160 (n := 161) rfl (v := nI 1) (by decide) ?_
                      refine zr_goto C d_M_differences_161 (t := 165) (by decide) ?_
                      refine zr_istore C d_M_differences_165 (n := 167) rfl (by decide) rfl ?_
                      refine zr_iload C d_M_differences_167 (n := 169) rfl rfl ?_
                      refine zr_if_eq C d_M_differences_169 (n := 172) rfl (t := 194) (by decide) (fun c17 => ?_) (fun c17 => ?_)
                      · exact absurd c17 (by decide)
                      · refine zr_iload C d_M_differences_172 (n := 174) rfl rfl ?_
                        refine zr_if_eq C d_M_differences_174 (n := 177) rfl (t := 197) (by decide) (fun c18 => ?_) (fun c18 => ?_)
                        · exact absurd c18 (by decide)
                        · refine zr_aload_n C d_M_differences_177 (n := 178) rfl rfl ?_
                          refine zr_get C f_M_29 d_M_differences_178 (n := 181) rfl hm rfl ?_
                          refine zr_iload C d_M_differences_181 (n := 183) rfl rfl ?_
                          refine zr_ialdN C d_M_differences_183 (n := 184) rfl s6 (j := 24 * 0 + (t * 4 + j)) (congrArg nI (by omega)) (by omega) (by decide) ?_
                          refine zr_toe (y := V 0 5 (t * 4 + j)) ((((hR 0 (by decide)).2.1 (t * 4 + j) (by omega)).2 n0).2.2 c14) ?_
                          refine zr_aload_n C d_M_differences_184 (n := 185) rfl rfl ?_
                          refine zr_get C f_M_29 d_M_differences_185 (n := 188) rfl hm rfl ?_
                          refine zr_iload C d_M_differences_188 (n := 190) rfl rfl ?_
                          refine zr_ialdN C d_M_differences_190 (n := 191) rfl s6 (j := 24 * 1 + (t * 4 + j)) (congrArg nI (by omega)) (by omega) (by decide) ?_
                          refine zr_toe (y := V 1 5 (t * 4 + j)) ((((hR 1 (by decide)).2.1 (t * 4 + j) (by omega)).2 n1).2.2 (by rw [← c8]; exact c14)) ?_
                          refine zr_icmp_eq C d_M_differences_191 (n := 194) rfl (t := 197) (by decide) (fun c19 => ?_) (fun c19 => ?_)
                          · refine zr_iinc C d_M_differences_197 (n := 200) rfl rfl (w := 1) (by decide) (nI_1 j) (by decide) rfl ?_
                            refine zr_goto C d_M_differences_200 (t := 64) (by decide) ?_
                            refine zr_drop 5 ?_
                            refine zr_drop 6 ?_
                            refine zr_drop 7 ?_
                            refine zr_drop 8 ?_
                            exact ih (j + 1) a (by omega) (by rw [zo_dL_1 (f := (fun j => zo_sf (V 0) (V 1) (t * 4 + j))) (j := j) (zo_sf_pp n0 c8 c2 c19)] at hK; exact hK)
                          · refine zr_iinc C d_M_differences_194 (n := 197) rfl rfl (w := 1) (by decide) (nI_1 a) (by decide) rfl ?_
                            refine zr_iinc C d_M_differences_197 (n := 200) rfl rfl (w := 1) (by decide) (nI_1 j) (by decide) rfl ?_
                            refine zr_goto C d_M_differences_200 (t := 64) (by decide) ?_
                            refine zr_drop 5 ?_
                            refine zr_drop 6 ?_
                            refine zr_drop 7 ?_
                            refine zr_drop 8 ?_
                            exact ih (j + 1) (a + 1) (by omega) (by rw [zo_dL_0 (f := (fun j => zo_sf (V 0) (V 1) (t * 4 + j))) (j := j) (zo_sf_n5 n0 c19)] at hK; exact hK)
  refine zr_iconst C d_M_differences_0 (n := 1) rfl (v := nI 0) (by decide) ?_
  refine zr_istore_n C d_M_differences_1 (n := 2) rfl (by decide) rfl ?_
  refine zr_bipush C d_M_differences_2 (n := 4) rfl (v := nI 6) (by decide) ?_
  refine zr_iload_n C d_M_differences_4 (n := 5) rfl rfl ?_
  refine zr_iadd C d_M_differences_5 (n := 6) rfl ?_
  refine zr_toe (by simp only [pk_mul, nI_add]; rfl) ?_
  refine zr_istore_n C d_M_differences_6 (n := 7) rfl (by decide) rfl ?_
  refine zr_aload_n C d_M_differences_7 (n := 8) rfl rfl ?_
  refine zr_get C f_M_13 d_M_differences_8 (n := 11) rfl hm rfl ?_
  refine zr_iload_n C d_M_differences_11 (n := 12) rfl rfl ?_
  refine zr_ialdN C d_M_differences_12 (n := 13) rfl s1 (j := 6 * 0 + t) (congrArg nI (by omega)) (by omega) (by decide) ?_
  refine zr_toe (y := V 0 0 t) (((hR 0 (by decide)).1 t (by omega)).2 h0).1 ?_
  refine zr_aload_n C d_M_differences_13 (n := 14) rfl rfl ?_
  refine zr_get C f_M_13 d_M_differences_14 (n := 17) rfl hm rfl ?_
  refine zr_iload_n C d_M_differences_17 (n := 18) rfl rfl ?_
  refine zr_ialdN C d_M_differences_18 (n := 19) rfl s1 rfl (by omega) (by decide) ?_
  refine zr_toe (y := V 1 0 t) (((hR 1 (by decide)).1 t (by omega)).2 h1).1 ?_
  refine zr_icmp_eq C d_M_differences_19 (n := 22) rfl (t := 25) (by decide) (fun c1 => ?_) (fun c1 => ?_)
  · refine zr_aload_n C d_M_differences_25 (n := 26) rfl rfl ?_
    refine zr_get C f_M_17 d_M_differences_26 (n := 29) rfl hm rfl ?_
    refine zr_iload_n C d_M_differences_29 (n := 30) rfl rfl ?_
    refine zr_ialdN C d_M_differences_30 (n := 31) rfl s2 (j := 6 * 0 + t) (congrArg nI (by omega)) (by omega) (by decide) ?_
    refine zr_toe (y := V 0 1 t) (((hR 0 (by decide)).1 t (by omega)).2 h0).2.1 ?_
    refine zr_aload_n C d_M_differences_31 (n := 32) rfl rfl ?_
    refine zr_get C f_M_17 d_M_differences_32 (n := 35) rfl hm rfl ?_
    refine zr_iload_n C d_M_differences_35 (n := 36) rfl rfl ?_
    refine zr_ialdN C d_M_differences_36 (n := 37) rfl s2 rfl (by omega) (by decide) ?_
    refine zr_toe (y := V 1 1 t) (((hR 1 (by decide)).1 t (by omega)).2 h1).2.1 ?_
    refine zr_icmp_eq C d_M_differences_37 (n := 40) rfl (t := 43) (by decide) (fun c2 => ?_) (fun c2 => ?_)
    · refine zr_aload_n C d_M_differences_43 (n := 44) rfl rfl ?_
      refine zr_get C f_M_20 d_M_differences_44 (n := 47) rfl hm rfl ?_
      refine zr_iload_n C d_M_differences_47 (n := 48) rfl rfl ?_
      refine zr_ialdN C d_M_differences_48 (n := 49) rfl s3 (j := 6 * 0 + t) (congrArg nI (by omega)) (by omega) (by decide) ?_
      refine zr_toe (y := V 0 2 t) (((hR 0 (by decide)).1 t (by omega)).2 h0).2.2 ?_
      refine zr_aload_n C d_M_differences_49 (n := 50) rfl rfl ?_
      refine zr_get C f_M_20 d_M_differences_50 (n := 53) rfl hm rfl ?_
      refine zr_iload_n C d_M_differences_53 (n := 54) rfl rfl ?_
      refine zr_ialdN C d_M_differences_54 (n := 55) rfl s3 rfl (by omega) (by decide) ?_
      refine zr_toe (y := V 1 2 t) (((hR 1 (by decide)).1 t (by omega)).2 h1).2.2 ?_
      refine zr_icmp_eq C d_M_differences_55 (n := 58) rfl (t := 61) (by decide) (fun c3 => ?_) (fun c3 => ?_)
      · refine zr_iconst C d_M_differences_61 (n := 62) rfl (v := nI 0) (by decide) ?_
        refine zr_istore C d_M_differences_62 (n := 64) rfl (by decide) rfl ?_
        refine L1 4 0 _ rfl ?_
        have e3 : zo_d3 (V 0) (V 1) t = 0 := by simp [zo_d3, c1, c2, c3]
        rw [zo_df, e3] at hK
        exact hK
      · refine zr_iinc C d_M_differences_58 (n := 61) rfl rfl (w := 1) (by decide) (nI_1 _) (by decide) rfl ?_
        refine zr_iconst C d_M_differences_61 (n := 62) rfl (v := nI 0) (by decide) ?_
        refine zr_istore C d_M_differences_62 (n := 64) rfl (by decide) rfl ?_
        refine L1 4 0 _ rfl ?_
        have e3 : zo_d3 (V 0) (V 1) t = 1 := by simp [zo_d3, c1, c2, c3]
        rw [zo_df, e3] at hK
        exact hK
    · refine zr_iinc C d_M_differences_40 (n := 43) rfl rfl (w := 1) (by decide) (nI_1 _) (by decide) rfl ?_
      refine zr_aload_n C d_M_differences_43 (n := 44) rfl rfl ?_
      refine zr_get C f_M_20 d_M_differences_44 (n := 47) rfl hm rfl ?_
      refine zr_iload_n C d_M_differences_47 (n := 48) rfl rfl ?_
      refine zr_ialdN C d_M_differences_48 (n := 49) rfl s3 (j := 6 * 0 + t) (congrArg nI (by omega)) (by omega) (by decide) ?_
      refine zr_toe (y := V 0 2 t) (((hR 0 (by decide)).1 t (by omega)).2 h0).2.2 ?_
      refine zr_aload_n C d_M_differences_49 (n := 50) rfl rfl ?_
      refine zr_get C f_M_20 d_M_differences_50 (n := 53) rfl hm rfl ?_
      refine zr_iload_n C d_M_differences_53 (n := 54) rfl rfl ?_
      refine zr_ialdN C d_M_differences_54 (n := 55) rfl s3 rfl (by omega) (by decide) ?_
      refine zr_toe (y := V 1 2 t) (((hR 1 (by decide)).1 t (by omega)).2 h1).2.2 ?_
      refine zr_icmp_eq C d_M_differences_55 (n := 58) rfl (t := 61) (by decide) (fun c4 => ?_) (fun c4 => ?_)
      · refine zr_iconst C d_M_differences_61 (n := 62) rfl (v := nI 0) (by decide) ?_
        refine zr_istore C d_M_differences_62 (n := 64) rfl (by decide) rfl ?_
        refine L1 4 0 _ rfl ?_
        have e3 : zo_d3 (V 0) (V 1) t = 1 := by simp [zo_d3, c1, c2, c4]
        rw [zo_df, e3] at hK
        exact hK
      · refine zr_iinc C d_M_differences_58 (n := 61) rfl rfl (w := 1) (by decide) (nI_1 _) (by decide) rfl ?_
        refine zr_iconst C d_M_differences_61 (n := 62) rfl (v := nI 0) (by decide) ?_
        refine zr_istore C d_M_differences_62 (n := 64) rfl (by decide) rfl ?_
        refine L1 4 0 _ rfl ?_
        have e3 : zo_d3 (V 0) (V 1) t = 2 := by simp [zo_d3, c1, c2, c4]
        rw [zo_df, e3] at hK
        exact hK
  · refine zr_iinc C d_M_differences_22 (n := 25) rfl rfl (w := 1) (by decide) (nI_1 _) (by decide) rfl ?_
    refine zr_aload_n C d_M_differences_25 (n := 26) rfl rfl ?_
    refine zr_get C f_M_17 d_M_differences_26 (n := 29) rfl hm rfl ?_
    refine zr_iload_n C d_M_differences_29 (n := 30) rfl rfl ?_
    refine zr_ialdN C d_M_differences_30 (n := 31) rfl s2 (j := 6 * 0 + t) (congrArg nI (by omega)) (by omega) (by decide) ?_
    refine zr_toe (y := V 0 1 t) (((hR 0 (by decide)).1 t (by omega)).2 h0).2.1 ?_
    refine zr_aload_n C d_M_differences_31 (n := 32) rfl rfl ?_
    refine zr_get C f_M_17 d_M_differences_32 (n := 35) rfl hm rfl ?_
    refine zr_iload_n C d_M_differences_35 (n := 36) rfl rfl ?_
    refine zr_ialdN C d_M_differences_36 (n := 37) rfl s2 rfl (by omega) (by decide) ?_
    refine zr_toe (y := V 1 1 t) (((hR 1 (by decide)).1 t (by omega)).2 h1).2.1 ?_
    refine zr_icmp_eq C d_M_differences_37 (n := 40) rfl (t := 43) (by decide) (fun c5 => ?_) (fun c5 => ?_)
    · refine zr_aload_n C d_M_differences_43 (n := 44) rfl rfl ?_
      refine zr_get C f_M_20 d_M_differences_44 (n := 47) rfl hm rfl ?_
      refine zr_iload_n C d_M_differences_47 (n := 48) rfl rfl ?_
      refine zr_ialdN C d_M_differences_48 (n := 49) rfl s3 (j := 6 * 0 + t) (congrArg nI (by omega)) (by omega) (by decide) ?_
      refine zr_toe (y := V 0 2 t) (((hR 0 (by decide)).1 t (by omega)).2 h0).2.2 ?_
      refine zr_aload_n C d_M_differences_49 (n := 50) rfl rfl ?_
      refine zr_get C f_M_20 d_M_differences_50 (n := 53) rfl hm rfl ?_
      refine zr_iload_n C d_M_differences_53 (n := 54) rfl rfl ?_
      refine zr_ialdN C d_M_differences_54 (n := 55) rfl s3 rfl (by omega) (by decide) ?_
      refine zr_toe (y := V 1 2 t) (((hR 1 (by decide)).1 t (by omega)).2 h1).2.2 ?_
      refine zr_icmp_eq C d_M_differences_55 (n := 58) rfl (t := 61) (by decide) (fun c6 => ?_) (fun c6 => ?_)
      · refine zr_iconst C d_M_differences_61 (n := 62) rfl (v := nI 0) (by decide) ?_
        refine zr_istore C d_M_differences_62 (n := 64) rfl (by decide) rfl ?_
        refine L1 4 0 _ rfl ?_
        have e3 : zo_d3 (V 0) (V 1) t = 1 := by simp [zo_d3, c1, c5, c6]
        rw [zo_df, e3] at hK
        exact hK
      · refine zr_iinc C d_M_differences_58 (n := 61) rfl rfl (w := 1) (by decide) (nI_1 _) (by decide) rfl ?_
        refine zr_iconst C d_M_differences_61 (n := 62) rfl (v := nI 0) (by decide) ?_
        refine zr_istore C d_M_differences_62 (n := 64) rfl (by decide) rfl ?_
        refine L1 4 0 _ rfl ?_
        have e3 : zo_d3 (V 0) (V 1) t = 2 := by simp [zo_d3, c1, c5, c6]
        rw [zo_df, e3] at hK
        exact hK
    · refine zr_iinc C d_M_differences_40 (n := 43) rfl rfl (w := 1) (by decide) (nI_1 _) (by decide) rfl ?_
      refine zr_aload_n C d_M_differences_43 (n := 44) rfl rfl ?_
      refine zr_get C f_M_20 d_M_differences_44 (n := 47) rfl hm rfl ?_
      refine zr_iload_n C d_M_differences_47 (n := 48) rfl rfl ?_
      refine zr_ialdN C d_M_differences_48 (n := 49) rfl s3 (j := 6 * 0 + t) (congrArg nI (by omega)) (by omega) (by decide) ?_
      refine zr_toe (y := V 0 2 t) (((hR 0 (by decide)).1 t (by omega)).2 h0).2.2 ?_
      refine zr_aload_n C d_M_differences_49 (n := 50) rfl rfl ?_
      refine zr_get C f_M_20 d_M_differences_50 (n := 53) rfl hm rfl ?_
      refine zr_iload_n C d_M_differences_53 (n := 54) rfl rfl ?_
      refine zr_ialdN C d_M_differences_54 (n := 55) rfl s3 rfl (by omega) (by decide) ?_
      refine zr_toe (y := V 1 2 t) (((hR 1 (by decide)).1 t (by omega)).2 h1).2.2 ?_
      refine zr_icmp_eq C d_M_differences_55 (n := 58) rfl (t := 61) (by decide) (fun c7 => ?_) (fun c7 => ?_)
      · refine zr_iconst C d_M_differences_61 (n := 62) rfl (v := nI 0) (by decide) ?_
        refine zr_istore C d_M_differences_62 (n := 64) rfl (by decide) rfl ?_
        refine L1 4 0 _ rfl ?_
        have e3 : zo_d3 (V 0) (V 1) t = 2 := by simp [zo_d3, c1, c5, c7]
        rw [zo_df, e3] at hK
        exact hK
      · refine zr_iinc C d_M_differences_58 (n := 61) rfl rfl (w := 1) (by decide) (nI_1 _) (by decide) rfl ?_
        refine zr_iconst C d_M_differences_61 (n := 62) rfl (v := nI 0) (by decide) ?_
        refine zr_istore C d_M_differences_62 (n := 64) rfl (by decide) rfl ?_
        refine L1 4 0 _ rfl ?_
        have e3 : zo_d3 (V 0) (V 1) t = 3 := by simp [zo_d3, c1, c5, c7]
        rw [zo_df, e3] at hK
        exact hK
abbrev rm_M_differ : Room := { frames := 1, cells := 0, slots := 0, locals := 28 }
set_option maxHeartbeats 4000000 in
set_option maxRecDepth 100000 in
/-- differ -/
theorem sp_M_differ (l : Launch) {h : zk_H} {V : Nat → zo_O} {S : zo_O} {us : Nat} {uk ut un : Nat → Nat} {ua : Nat → Int32} (hM : zm_at h S us) (hJ : zm_J V S us uk ut un ua) {x : Int32} {K : Option Value → zk_H → Prop} (hK : ∀ (h' : zk_H) (S' : zo_O), zm_pv h h' S S' us → K (some (.int (zc_diff V x))) h') : zk_S l y_M_differ b_M_differ 4 (some .int) rm_M_differ [.ref (38 + 1), .int x] h K := by
  obtain ⟨hm, s0, s1, s2, s3, s4, s5, s6, s7, s8, s9, s10, s11⟩ := id hM
  obtain ⟨hR, hok, hex, hu, hus, hS9⟩ := id hJ
  refine zk_S_of R_M "differ" (by decide) rfl rfl [some (.ref (38 + 1)), some (.int x), none, none] 2 rfl (Nat.le_of_ble_eq_true rfl) (fun p e s m ar below meth c D dA b base C => ?_)
  refine zr_iload_n C d_M_differ_0 (n := 1) rfl rfl ?_
  refine zr_iconst C d_M_differ_1 (n := 2) rfl (v := nI 0) (by decide) ?_
  refine zr_iconst C d_M_differ_2 (n := 3) rfl (v := nI 5) (by decide) ?_
  refine zr_callS3 C k_M_47 d_M_differ_3 (nx := 6) rfl ⟨by decide, by decide⟩ (Nat.le_of_ble_eq_true rfl) ⟨by decide, by decide⟩ (sp_M_in l ?_)
  refine zr_if_ne C d_M_differ_6 (n := 9) rfl (t := 11) (by decide) (fun c1 => ?_) (fun c1 => ?_)
  · replace c1 := zk_bn c1
    rw [zc_in_5] at c1
    obtain ⟨t, ht, rfl, qt⟩ := zc_bl_n c1 (by first | decide | omega)
    refine zr_aload_n C d_M_differ_11 (n := 12) rfl rfl ?_
    refine zr_get C f_M_7 d_M_differ_12 (n := 15) rfl hm rfl ?_
    refine zr_iload_n C d_M_differ_15 (n := 16) rfl rfl ?_
    refine zr_zaldN C d_M_differ_16 (n := 17) rfl s0 (j := 6 * 0 + t) (congrArg nI (by omega)) (by omega) (by decide) ?_
    refine zr_toe (y := zk_b (zo_th (V 0) t)) ((hR 0 (by decide)).1 t (by omega)).1 ?_
    refine zr_istore_n C d_M_differ_17 (n := 18) rfl (by decide) rfl ?_
    refine zr_aload_n C d_M_differ_18 (n := 19) rfl rfl ?_
    refine zr_get C f_M_7 d_M_differ_19 (n := 22) rfl hm rfl ?_
    refine zr_bipush C d_M_differ_22 (n := 24) rfl (v := nI 6) (by decide) ?_
    refine zr_iload_n C d_M_differ_24 (n := 25) rfl rfl ?_
    refine zr_iadd C d_M_differ_25 (n := 26) rfl ?_
    refine zr_toe (by simp only [pk_mul, nI_add]; rfl) ?_
    refine zr_zaldN C d_M_differ_26 (n := 27) rfl s0 rfl (by omega) (by decide) ?_
    refine zr_toe (y := zk_b (zo_th (V 1) t)) ((hR 1 (by decide)).1 t (by omega)).1 ?_
    refine zr_istore_n C d_M_differ_27 (n := 28) rfl (by decide) rfl ?_
    refine zr_iload_n C d_M_differ_28 (n := 29) rfl rfl ?_
    refine zr_if_eq C d_M_differ_29 (n := 32) rfl (t := 36) (by decide) (fun c2 => ?_) (fun c2 => ?_)
    · replace c2 := zk_bz c2
      refine zr_iload_n C d_M_differ_36 (n := 37) rfl rfl ?_
      refine zr_if_eq C d_M_differ_37 (n := 40) rfl (t := 45) (by decide) (fun c3 => ?_) (fun c3 => ?_)
      · replace c3 := zk_bz c3
        refine zr_iload_n C d_M_differ_45 (n := 46) rfl rfl ?_
        refine zr_if_eq C d_M_differ_46 (n := 49) rfl (t := 54) (by decide) (fun c4 => ?_) (fun c4 => ?_)
        · replace c4 := zk_bz c4
          refine zr_bipush C d_M_differ_54 (n := 56) rfl (v := -2) (by decide) ?_
          rw [zc_diff, if_pos c1, qt, if_neg (by rw [c2]; decide), if_neg (by rw [c4]; decide)] at hK
          exact zr_iret C d_M_differ_56 rfl (hK _ _ (zm_pv_r hM)) (Nat.zero_le _) (Nat.zero_le _)
        · replace c4 := zk_bn c4
          refine zr_bipush C d_M_differ_49 (n := 51) rfl (v := -4) (by decide) ?_
          refine zr_goto C d_M_differ_51 (t := 56) (by decide) ?_
          rw [zc_diff, if_pos c1, qt, if_neg (by rw [c2]; decide), if_pos c4] at hK
          exact zr_iret C d_M_differ_56 rfl (hK _ _ (zm_pv_r hM)) (Nat.zero_le _) (Nat.zero_le _)
      · replace c3 := zk_bn c3
        exact absurd (c2.symm.trans c3) (by decide)
    · replace c2 := zk_bn c2
      have hA := c2
      refine zr_iload_n C d_M_differ_32 (n := 33) rfl rfl ?_
      refine zr_if_ne C d_M_differ_33 (n := 36) rfl (t := 57) (by decide) (fun c5 => ?_) (fun c5 => ?_)
      · replace c5 := zk_bn c5
        have hB := c5
        refine zr_aload_n C d_M_differ_57 (n := 58) rfl rfl ?_
        refine zr_iload_n C d_M_differ_58 (n := 59) rfl rfl ?_
        refine zr_callV1 C k_M_121 d_M_differ_59 (nx := 62) rfl hm rfl ⟨by decide, by decide⟩ (Nat.le_of_ble_eq_true rfl) ⟨by decide, by decide⟩ (sp_M_differences l hM hR hok ht hA hB ?_)
        rw [zc_diff, if_pos c1, qt, if_pos c2, if_pos c5] at hK
        exact zr_iret C d_M_differ_62 rfl (hK _ _ (zm_pv_r hM)) (Nat.zero_le _) (Nat.zero_le _)
      · replace c5 := zk_bz c5
        refine zr_iload_n C d_M_differ_36 (n := 37) rfl rfl ?_
        refine zr_if_eq C d_M_differ_37 (n := 40) rfl (t := 45) (by decide) (fun c6 => ?_) (fun c6 => ?_)
        · replace c6 := zk_bz c6
          exact absurd (c2.symm.trans c6) (by decide)
        · replace c6 := zk_bn c6
          refine zr_bipush C d_M_differ_40 (n := 42) rfl (v := -3) (by decide) ?_
          refine zr_goto C d_M_differ_42 (t := 56) (by decide) ?_
          rw [zc_diff, if_pos c1, qt, if_pos c2, if_neg (by rw [c5]; decide)] at hK
          exact zr_iret C d_M_differ_56 rfl (hK _ _ (zm_pv_r hM)) (Nat.zero_le _) (Nat.zero_le _)
  · replace c1 := zk_bz c1
    rw [zc_in_5] at c1
    refine zr_iconst C d_M_differ_9 (n := 10) rfl (v := -1) (by decide) ?_
    rw [zc_diff, if_neg (by rw [c1]; decide)] at hK
    exact zr_iret C d_M_differ_10 rfl (hK _ _ (zm_pv_r hM)) (Nat.zero_le _) (Nat.zero_le _)
abbrev rm_M_under : Room := { frames := 1, cells := 0, slots := 0, locals := 26 }
set_option maxHeartbeats 4000000 in
set_option maxRecDepth 100000 in
/-- under -/
theorem sp_M_under (l : Launch) {h : zk_H} {V : Nat → zo_O} {S : zo_O} {us : Nat} {uk ut un : Nat → Nat} {ua : Nat → Int32} (hM : zm_at h S us) (hJ : zm_J V S us uk ut un ua) {x0 x1 x2 : Int32} {K : Option Value → zk_H → Prop} (hK : ∀ (h' : zk_H) (S' : zo_O), zm_pv h h' S S' us → K (some (.int (zk_b (zc_under V x0 x1 x2)))) h') : zk_S l y_M_under b_M_under 4 (some .boolean) rm_M_under [.ref (38 + 1), .int x0, .int x1, .int x2] h K := by
  obtain ⟨hm, s0, s1, s2, s3, s4, s5, s6, s7, s8, s9, s10, s11⟩ := id hM
  obtain ⟨hR, hok, hex, hu, hus, hS9⟩ := id hJ
  refine zk_S_of R_M "under" (by decide) rfl rfl [some (.ref (38 + 1)), some (.int x0), some (.int x1), some (.int x2)] 0 rfl (Nat.le_of_ble_eq_true rfl) (fun p e s m ar below meth c D dA b base C => ?_)
  refine zr_iload_n C d_M_under_0 (n := 1) rfl rfl ?_
  refine zr_iconst C d_M_under_1 (n := 2) rfl (v := nI 0) (by decide) ?_
  refine zr_iconst C d_M_under_2 (n := 3) rfl (v := nI 1) (by decide) ?_
  refine zr_callS3 C k_M_47 d_M_under_3 (nx := 6) rfl ⟨by decide, by decide⟩ (Nat.le_of_ble_eq_true rfl) ⟨by decide, by decide⟩ (sp_M_in l ?_)
  refine zr_if_eq C d_M_under_6 (n := 9) rfl (t := 27) (by decide) (fun c1 => ?_) (fun c1 => ?_)
  · replace c1 := zk_bz c1
    rw [zc_in_1] at c1
    refine zr_iconst C d_M_under_27 (n := 28) rfl (v := nI 0) (by decide) ?_
    have e9 : zc_under V x0 x1 x2 = false := by simp [zc_under, zc_tt, c1]
    rw [e9] at hK
    exact zr_zret C d_M_under_28 rfl (by decide) (hK _ _ (zm_pv_r hM)) (Nat.zero_le _) (Nat.zero_le _)
  · replace c1 := zk_bn c1
    rw [zc_in_1] at c1
    obtain ⟨v, hv, rfl, qv⟩ := zc_bl_n c1 (by first | decide | omega)
    refine zr_iload_n C d_M_under_9 (n := 10) rfl rfl ?_
    refine zr_iconst C d_M_under_10 (n := 11) rfl (v := nI 0) (by decide) ?_
    refine zr_iconst C d_M_under_11 (n := 12) rfl (v := nI 5) (by decide) ?_
    refine zr_callS3 C k_M_47 d_M_under_12 (nx := 15) rfl ⟨by decide, by decide⟩ (Nat.le_of_ble_eq_true rfl) ⟨by decide, by decide⟩ (sp_M_in l ?_)
    refine zr_if_eq C d_M_under_15 (n := 18) rfl (t := 27) (by decide) (fun c2 => ?_) (fun c2 => ?_)
    · replace c2 := zk_bz c2
      rw [zc_in_5] at c2
      refine zr_iconst C d_M_under_27 (n := 28) rfl (v := nI 0) (by decide) ?_
      have e9 : zc_under V (nI v) x1 x2 = false := by simp [zc_under, zc_tt, c1, c2, qv]
      rw [e9] at hK
      exact zr_zret C d_M_under_28 rfl (by decide) (hK _ _ (zm_pv_r hM)) (Nat.zero_le _) (Nat.zero_le _)
    · replace c2 := zk_bn c2
      rw [zc_in_5] at c2
      obtain ⟨t, ht, rfl, qt⟩ := zc_bl_n c2 (by first | decide | omega)
      refine zr_iload_n C d_M_under_18 (n := 19) rfl rfl ?_
      refine zr_iconst C d_M_under_19 (n := 20) rfl (v := nI 0) (by decide) ?_
      refine zr_iconst C d_M_under_20 (n := 21) rfl (v := nI 5) (by decide) ?_
      refine zr_callS3 C k_M_47 d_M_under_21 (nx := 24) rfl ⟨by decide, by decide⟩ (Nat.le_of_ble_eq_true rfl) ⟨by decide, by decide⟩ (sp_M_in l ?_)
      refine zr_if_ne C d_M_under_24 (n := 27) rfl (t := 29) (by decide) (fun c3 => ?_) (fun c3 => ?_)
      · replace c3 := zk_bn c3
        rw [zc_in_5] at c3
        obtain ⟨o, ho, rfl, qo⟩ := zc_bl_n c3 (by first | decide | omega)
        refine zr_aload_n C d_M_under_29 (n := 30) rfl rfl ?_
        refine zr_get C f_M_7 d_M_under_30 (n := 33) rfl hm rfl ?_
        refine zr_bipush C d_M_under_33 (n := 35) rfl (v := nI 6) (by decide) ?_
        refine zr_iload_n C d_M_under_35 (n := 36) rfl rfl ?_
        refine zr_imul C d_M_under_36 (n := 37) rfl ?_
        refine zr_toe (by simp only [pk_mul, nI_add]; rfl) ?_
        refine zr_iload_n C d_M_under_37 (n := 38) rfl rfl ?_
        refine zr_iadd C d_M_under_38 (n := 39) rfl ?_
        refine zr_toe (by simp only [pk_mul, nI_add]; rfl) ?_
        refine zr_zaldN C d_M_under_39 (n := 40) rfl s0 rfl (by omega) (by decide) ?_
        refine zr_toe (y := zk_b (zo_th (V v) t)) ((hR v hv).1 t (by omega)).1 ?_
        refine zr_if_eq C d_M_under_40 (n := 43) rfl (t := 71) (by decide) (fun c4 => ?_) (fun c4 => ?_)
        · replace c4 := zk_bz c4
          refine zr_iconst C d_M_under_71 (n := 72) rfl (v := nI 0) (by decide) ?_
          have e9 : zc_under V (nI v) (nI t) (nI o) = false := by simp [zc_under, zc_tt, c1, c2, c3, c4, qv, qt, qo]
          rw [e9] at hK
          exact zr_zret C d_M_under_72 rfl (by decide) (hK _ _ (zm_pv_r hM)) (Nat.zero_le _) (Nat.zero_le _)
        · replace c4 := zk_bn c4
          refine zr_aload_n C d_M_under_43 (n := 44) rfl rfl ?_
          refine zr_get C f_M_7 d_M_under_44 (n := 47) rfl hm rfl ?_
          refine zr_bipush C d_M_under_47 (n := 49) rfl (v := nI 6) (by decide) ?_
          refine zr_iload_n C d_M_under_49 (n := 50) rfl rfl ?_
          refine zr_imul C d_M_under_50 (n := 51) rfl ?_
          refine zr_toe (by simp only [pk_mul, nI_add]; rfl) ?_
          refine zr_iload_n C d_M_under_51 (n := 52) rfl rfl ?_
          refine zr_iadd C d_M_under_52 (n := 53) rfl ?_
          refine zr_toe (by simp only [pk_mul, nI_add]; rfl) ?_
          refine zr_zaldN C d_M_under_53 (n := 54) rfl s0 rfl (by omega) (by decide) ?_
          refine zr_toe (y := zk_b (zo_th (V v) o)) ((hR v hv).1 o (by omega)).1 ?_
          refine zr_if_eq C d_M_under_54 (n := 57) rfl (t := 71) (by decide) (fun c5 => ?_) (fun c5 => ?_)
          · replace c5 := zk_bz c5
            refine zr_iconst C d_M_under_71 (n := 72) rfl (v := nI 0) (by decide) ?_
            have e9 : zc_under V (nI v) (nI t) (nI o) = false := by simp [zc_under, zc_tt, c1, c2, c3, c4, c5, qv, qt, qo]
            rw [e9] at hK
            exact zr_zret C d_M_under_72 rfl (by decide) (hK _ _ (zm_pv_r hM)) (Nat.zero_le _) (Nat.zero_le _)
          · replace c5 := zk_bn c5
            refine zr_aload_n C d_M_under_57 (n := 58) rfl rfl ?_
            refine zr_iload_n C d_M_under_58 (n := 59) rfl rfl ?_
            refine zr_iload_n C d_M_under_59 (n := 60) rfl rfl ?_
            refine zr_iload_n C d_M_under_60 (n := 61) rfl rfl ?_
            refine zr_callV3 C k_M_66 d_M_under_61 (nx := 64) rfl hm rfl ⟨by decide, by decide⟩ (Nat.le_of_ble_eq_true rfl) ⟨by decide, by decide⟩ (sp_M_isUnder l hM hR hok hv ht ho c4 ?_)
            refine zr_if_eq C d_M_under_64 (n := 67) rfl (t := 71) (by decide) (fun c6 => ?_) (fun c6 => ?_)
            · replace c6 := zk_bz c6
              refine zr_iconst C d_M_under_71 (n := 72) rfl (v := nI 0) (by decide) ?_
              have e9 : zc_under V (nI v) (nI t) (nI o) = false := by simp [zc_under, zc_tt, c1, c2, c3, c4, c5, c6, qv, qt, qo]
              rw [e9] at hK
              exact zr_zret C d_M_under_72 rfl (by decide) (hK _ _ (zm_pv_r hM)) (Nat.zero_le _) (Nat.zero_le _)
            · replace c6 := zk_bn c6
              refine zr_iconst C d_M_under_67 (n := 68) rfl (v := nI 1) (by decide) ?_
              refine zr_goto C d_M_under_68 (t := 72) (by decide) ?_
              have e9 : zc_under V (nI v) (nI t) (nI o) = true := by simp [zc_under, zc_tt, c1, c2, c3, c4, c5, c6, qv, qt, qo]
              rw [e9] at hK
              exact zr_zret C d_M_under_72 rfl (by decide) (hK _ _ (zm_pv_r hM)) (Nat.zero_le _) (Nat.zero_le _)
      · replace c3 := zk_bz c3
        rw [zc_in_5] at c3
        refine zr_iconst C d_M_under_27 (n := 28) rfl (v := nI 0) (by decide) ?_
        have e9 : zc_under V (nI v) (nI t) x2 = false := by simp [zc_under, zc_tt, c1, c2, c3, qv, qt]
        rw [e9] at hK
        exact zr_zret C d_M_under_28 rfl (by decide) (hK _ _ (zm_pv_r hM)) (Nat.zero_le _) (Nat.zero_le _)
